import java.util.Random;

/** Section 6 from MEMORY: tell and told (promises 18, 19). */
public final class TellTest {
    private static final int NONE = TranslatingHost.NONE;

    public static void main(String[] args) {
        longOnes();
        shortOnes();
        asData();
        wrongAddresses();
        toldStays();
        allHalvesComeBack();
        manyWordsComeBack();
        Due.done();
    }

    /** A statement in its told form comes back as it is. */
    private static void same(String statement) {
        TranslatingHost x = new TranslatingHost();
        int bytes = Due.assemble(x, 0x102, statement);
        Due.is("tell of " + statement, Due.tell(x, 0x102), bytes + " " + statement);
    }

    private static void longOnes() {
        String[] threes = {
            "add", "sub", "sll", "slt", "sltu", "xor", "srl", "sra", "or", "and", "mul", "mulh", "mulhsu", "mulhu", "div",
            "divu", "rem", "remu",
        };
        for (String name : threes) {
            same(name + " x1, x2, x31");
            same(name + " x0, x0, x0");
        }
        String[] numbers = {"addi", "slti", "sltiu", "xori", "ori", "andi"};
        for (String name : numbers) {
            same(name + " x1, x2, -2048");
            same(name + " x0, x0, 2047");
            same(name + " x0, x0, 0");
        }
        String[] shifts = {"slli", "srli", "srai"};
        for (String name : shifts) {
            same(name + " x1, x2, 0");
            same(name + " x1, x2, 31");
        }
        String[] places = {"lb", "lh", "lw", "lbu", "lhu", "sb", "sh", "sw", "jalr"};
        for (String name : places) {
            same(name + " x1, -2048(x2)");
            same(name + " x31, 2047(x0)");
            same(name + " x31, 0(x1)");
        }
        same("lui x1, 1048575");
        same("auipc x1, 524288");
        same("jal x0, -1048576");
        same("jal x1, 1048574");
        String[] branches = {"beq", "bne", "blt", "bge", "bltu", "bgeu"};
        for (String name : branches) {
            same(name + " x1, x2, -4096");
            same(name + " x31, x0, 4094");
        }
        same("lr.w x1, (x2)");
        String[] atomics = {
            "sc.w", "amoswap.w", "amoadd.w", "amoxor.w", "amoand.w", "amoor.w", "amomin.w", "amomax.w", "amominu.w",
            "amomaxu.w",
        };
        for (String name : atomics) {
            same(name + " x1, x2, (x3)");
        }
        String[] alone = {"fence", "fence.i", "ecall", "ebreak", "sret", "wfi"};
        for (String name : alone) {
            same(name);
        }
        same("sfence.vma x1, x2");
        String[] csrs = {
            "sstatus", "sie", "stvec", "sscratch", "sepc", "scause", "stval", "sip", "satp", "cycle", "time", "cycleh",
            "timeh", "instret", "instreth", "0", "768", "4095",
        };
        for (String csr : csrs) {
            same("csrrw x1, " + csr + ", x2");
            same("csrrs x1, " + csr + ", x0");
            same("csrrc x0, " + csr + ", x2");
            same("csrrwi x1, " + csr + ", 31");
            same("csrrsi x1, " + csr + ", 0");
            same("csrrci x1, " + csr + ", 16");
        }
    }

    private static void shortOnes() {
        String[] statements = {
            "c.addi4spn x8, 4", "c.addi4spn x15, 1020", "c.lw x8, 0(x15)", "c.sw x9, 124(x8)", "c.nop", "c.addi x0, 1",
            "c.addi x1, 0", "c.addi x31, -32", "c.li x0, 0", "c.li x5, -1", "c.jal -2048", "c.addi16sp -512",
            "c.addi16sp 496", "c.lui x0, 1", "c.lui x1, 31", "c.lui x3, 1048544", "c.lui x31, 1048575", "c.srli x8, 0",
            "c.srai x15, 31", "c.andi x8, -32", "c.sub x8, x9", "c.xor x8, x9", "c.or x8, x9", "c.and x8, x15", "c.j 2046",
            "c.beqz x8, -256", "c.bnez x15, 254", "c.slli x0, 0", "c.slli x1, 31", "c.lwsp x1, 252(x2)",
            "c.swsp x0, 252(x2)", "c.jr x1", "c.jalr x31", "c.mv x0, x1", "c.mv x1, x31", "c.add x0, x1", "c.add x31, x1",
            "c.ebreak",
        };
        for (String statement : statements) {
            same(statement);
        }
    }

    private static void told(String statement, String want) {
        TranslatingHost x = new TranslatingHost();
        Due.assemble(x, 0, statement);
        Due.is("tell of " + statement, Due.tell(x, 0), want);
    }

    private static void asData() {
        told(".word 0xffffffff", "4 .word 0xffffffff");
        told(".word 0x0abcdef7", "4 .word 0x0abcdef7");
        told(".half 0", "2 .half 0x0000");
        told(".half 0x8002", "2 .half 0x8002");
        told(".half 0x6101", "2 .half 0x6101");
        told(".half 0x6081", "2 .half 0x6081");
        told(".half 0x4002", "2 .half 0x4002");
        told(".half 0x9c01", "2 .half 0x9c01");
        told(".half 0xa000", "2 .half 0xa000");
        told(".word 0x0ff0000f", "4 .word 0x0ff0000f");
        told(".word 0x0000108f", "4 .word 0x0000108f");
        told(".word 0x0620a1af", "4 .word 0x0620a1af");
        told(".word 0x1010202f", "4 .word 0x1010202f");
        told(".word 0x12000173", "4 .word 0x12000173");
        told(".word 0x000000f3", "4 .word 0x000000f3");
        told(".word 0x02001013", "4 .word 0x02001013");
        told("nop", "4 addi x0, x0, 0");
        told("li x1, 5", "4 addi x1, x0, 5");
        told("li x1, 4096", "4 lui x1, 1");
        told("mv x1, x2", "4 addi x1, x2, 0");
        told("j 4", "4 jal x0, 4");
        told("ret", "4 jalr x0, 0(x1)");
        told("c.addi x0, 0", "2 c.nop");
        told("csrrw x1, 0x100, x2", "4 csrrw x1, sstatus, x2");
    }

    private static void wrongAddresses() {
        TranslatingHost x = new TranslatingHost();
        int[] wrong = {1, 3, 262143, 262144, -2, Integer.MIN_VALUE, Integer.MAX_VALUE, 0x10000000};
        for (int address : wrong) {
            Due.is("tell(" + address + ")", x.tell(address), NONE);
        }
        Due.is("told(0)", x.told(0), NONE);
        x.load(262128, 0, 0, 0, 0x00130000);
        Due.is("half of one", x.tell(262142), NONE);
        x.load(262128, 0, 0, 0, 0x00010000);
        Due.is("one of 16 bits", x.tell(262142), 2);
        Due.is("its text", Due.told(x), "c.nop");
        x.load(262128, 0, 0, 0, 0x00000013);
        Due.is("one of 32 bits", x.tell(262140), 4);
    }

    private static void toldStays() {
        TranslatingHost x = new TranslatingHost();
        x.load(0, 0x73, 0x00100073, 0, 0);
        Due.is("tell(0)", x.tell(0), 4);
        Due.is("told(0)", x.told(0), 'e');
        Due.is("told(4)", x.told(4), 'l');
        Due.is("told(5)", x.told(5), NONE);
        Due.is("told(-1)", x.told(-1), NONE);
        Due.is("told(least)", x.told(Integer.MIN_VALUE), NONE);
        Due.is("tell(1)", x.tell(1), NONE);
        Due.is("told() stays behind NONE", Due.told(x), "ecall");
        x.load(0, 0, 0, 0, 0);
        Due.is("told() stays when MEMORY goes", Due.told(x), "ecall");
        x.tell(4);
        Due.is("told() of another", Due.told(x), ".half 0x0000");
    }

    private static void comesBack(TranslatingHost x, int bits, int bytes) {
        x.load(0, bits, 0, 0, 0);
        if (x.tell(0) != bytes) {
            Due.is("bytes of " + Integer.toHexString(bits), x.tell(0), bytes);
        }
        String text = Due.told(x);
        int answer = Due.assemble(x, 16, text);
        int got = (int) x.word(16) & (bytes == 2 ? 0xffff : -1);
        if (answer != bytes || got != bits) {
            Due.is(text + " comes back", got, bits);
            Due.is(text + " is assembled", answer, bytes);
        }
    }

    private static void allHalvesComeBack() {
        TranslatingHost x = new TranslatingHost();
        for (int h = 0; h < 65536; h++) {
            if (h % 8 == 0) {
                x = new TranslatingHost();
            }
            if ((h & 3) != 3) {
                comesBack(x, h, 2);
            }
        }
        Due.is("the halves are through", x.check(), 1);
    }

    private static void manyWordsComeBack() {
        Random random = new Random(7);
        int[] codes = {0x37, 0x17, 0x6f, 0x67, 0x63, 0x03, 0x23, 0x13, 0x33, 0x2f, 0x0f, 0x73};
        TranslatingHost x = new TranslatingHost();
        for (int i = 0; i < 60000; i++) {
            if (i % 6 == 0) {
                x = new TranslatingHost();
            }
            int bits = random.nextInt() & ~0x7f | codes[i % codes.length];
            if (random.nextInt(3) == 0) {
                bits &= random.nextBoolean() ? 0x01ffffff : 0x41ffffff;
            }
            comesBack(x, bits, 4);
        }
        Due.is("the words are through", x.check(), 1);
    }
}
