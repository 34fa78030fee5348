/** Section 2, the instructions of 32 bits, by steps of run() (promise 5). */
public final class InstructionsTest {
    private static final int MIN = Integer.MIN_VALUE;
    private static final int MAX = Integer.MAX_VALUE;

    public static void main(String[] args) {
        withRegisters();
        withNumbers();
        upper();
        jumps();
        branches();
        loads();
        stores();
        atomics();
        reservations();
        fencesAndSystem();
        illegal();
        pcItself();
        Due.done();
    }

    /** x3 after one instruction with x1 = a, x2 = b. */
    private static void computes(String name, int a, int b, int want) {
        TranslatingHost x = Due.with(name + " x3, x1, x2");
        x.set(1, a);
        x.set(2, b);
        x.run(1);
        Due.is(name + " " + a + ", " + b, x.reg(3), want);
        Due.is(name + " retires", x.count(1), 1);
        Due.is(name + " pc", x.reg(32), 4);
    }

    private static void withRegisters() {
        computes("add", MAX, 1, MIN);
        computes("sub", MIN, 1, MAX);
        computes("sub", 5, 7, -2);
        computes("sll", 1, 33, 2);
        computes("sll", 3, 31, MIN);
        computes("slt", -1, 0, 1);
        computes("slt", 0, -1, 0);
        computes("slt", 4, 4, 0);
        computes("sltu", -1, 0, 0);
        computes("sltu", 0, -1, 1);
        computes("xor", 0x0ff0, 0x00ff, 0x0f0f);
        computes("srl", MIN, 31, 1);
        computes("srl", -1, 36, 0x0fffffff);
        computes("sra", MIN, 31, -1);
        computes("sra", -16, 34, -4);
        computes("or", 0x0ff0, 0x00ff, 0x0fff);
        computes("and", 0x0ff0, 0x00ff, 0x00f0);
        computes("mul", 0x10001, 0x10001, 0x20001);
        computes("mul", -3, 7, -21);
        computes("mulh", MIN, MIN, 0x40000000);
        computes("mulh", -1, 1, -1);
        computes("mulhsu", -1, -1, -1);
        computes("mulhsu", MIN, -1, MIN);
        computes("mulhsu", 2, -1, 1);
        computes("mulhu", -1, -1, -2);
        computes("mulhu", MIN, 2, 1);
        computes("div", -7, 2, -3);
        computes("div", 7, 0, -1);
        computes("div", MIN, -1, MIN);
        computes("divu", -1, 2, MAX);
        computes("divu", 5, 0, -1);
        computes("divu", MIN, -1, 0);
        computes("rem", -7, 2, -1);
        computes("rem", 7, -2, 1);
        computes("rem", -7, 0, -7);
        computes("rem", MIN, -1, 0);
        computes("remu", -1, 10, 5);
        computes("remu", -7, 0, -7);
        TranslatingHost zero = Due.with("add x0, x1, x1");
        zero.set(1, 4);
        zero.run(1);
        Due.is("x0 stays 0", zero.reg(0), 0);
    }

    private static void computesWith(String name, int a, int number, int want) {
        TranslatingHost x = Due.with(name + " x3, x1, " + number);
        x.set(1, a);
        x.run(1);
        Due.is(name + " " + a + ", " + number, x.reg(3), want);
    }

    private static void withNumbers() {
        computesWith("addi", 5, -2048, -2043);
        computesWith("addi", MAX, 2047, MIN + 2046);
        computesWith("slti", -5, -4, 1);
        computesWith("slti", -4, -4, 0);
        computesWith("sltiu", 5, -1, 1);
        computesWith("sltiu", -1, 5, 0);
        computesWith("xori", 0x55, -1, ~0x55);
        computesWith("ori", 0x50, 0x0f, 0x5f);
        computesWith("andi", -1, -16, -16);
        computesWith("slli", 3, 31, MIN);
        computesWith("slli", 3, 0, 3);
        computesWith("srli", -1, 31, 1);
        computesWith("srai", MIN, 31, -1);
        computesWith("srai", MIN, 4, 0xf8000000);
    }

    private static void upper() {
        Due.is("lui", Due.after(1, "lui x1, 0xfffff").reg(1), 0xfffff000);
        Due.is("auipc", Due.after(2, "nop\nauipc x1, 0xfffff").reg(1), 0xfffff004);
        Due.is("auipc 1", Due.after(2, "nop\nauipc x1, 1").reg(1), 0x1004);
    }

    private static void jumps() {
        TranslatingHost x = Due.after(1, "jal x1, 2046");
        Due.is("jal pc", x.reg(32), 2046);
        Due.is("jal link", x.reg(1), 4);
        Due.is("jal back", Due.after(1, "jal x0, -1048576").reg(32), -1048576);
        Due.is("jal to itself", Due.after(9, "jal x0, 0").reg(32), 0);
        TranslatingHost j = Due.with("jalr x1, -1(x1)");
        j.set(1, 102);
        j.run(1);
        Due.is("jalr clears bit 0", j.reg(32), 100);
        Due.is("jalr links behind reading", j.reg(1), 4);
        TranslatingHost even = Due.with("jalr x0, 1(x1)");
        even.set(1, 101);
        even.run(1);
        Due.is("jalr 102", even.reg(32), 102);
        Due.is("jalr x0", even.reg(0), 0);
    }

    private static void branches(String name, int a, int b, boolean taken) {
        TranslatingHost x = Due.with(name + " x1, x2, -4096");
        x.set(1, a);
        x.set(2, b);
        x.run(1);
        Due.is(name + " " + a + ", " + b, x.reg(32), taken ? -4096 : 4);
    }

    private static void branches() {
        int[][] pairs = {{1, 1}, {1, 2}, {2, 1}, {-1, 1}, {1, -1}, {MIN, MAX}, {-1, -1}};
        for (int[] p : pairs) {
            branches("beq", p[0], p[1], p[0] == p[1]);
            branches("bne", p[0], p[1], p[0] != p[1]);
            branches("blt", p[0], p[1], p[0] < p[1]);
            branches("bge", p[0], p[1], p[0] >= p[1]);
            branches("bltu", p[0], p[1], Integer.compareUnsigned(p[0], p[1]) < 0);
            branches("bgeu", p[0], p[1], Integer.compareUnsigned(p[0], p[1]) >= 0);
        }
        Due.is("beq ahead", Due.after(1, "beq x0, x0, 4094").reg(32), 4094);
    }

    private static void loads(String name, int offset, int want) {
        TranslatingHost x = Due.with(name + " x3, " + offset + "(x1)");
        x.load(0x100, 0x8081ff7f, 0x01020304, 0, 0);
        x.set(1, 0x100);
        x.run(1);
        Due.is(name + " " + offset, x.reg(3), want);
    }

    private static void traps(String what, TranslatingHost x, int cause, long value) {
        Due.is(what + " retires", x.count(1), 0);
        Due.is(what + " TRAPS", x.count(2), 1);
        Due.is(what + " scause", x.csr(0x142), cause);
        Due.is(what + " stval", x.csr(0x143), value & 0xffffffffL);
    }

    private static TranslatingHost at(String statement, int address) {
        TranslatingHost x = Due.with(statement);
        x.set(1, address);
        x.set(3, 33);
        x.run(1);
        return x;
    }

    private static void loads() {
        loads("lb", 0, 0x7f);
        loads("lb", 1, -1);
        loads("lb", 2, 0xffffff81);
        loads("lbu", 3, 0x80);
        loads("lbu", 2, 0x81);
        loads("lh", 0, 0xffffff7f);
        loads("lh", 2, 0xffff8081);
        loads("lhu", 2, 0x8081);
        loads("lw", 0, 0x8081ff7f);
        loads("lw", 4, 0x01020304);
        traps("lh crooked", at("lh x3, 1(x1)", 0x100), 4, 0x101);
        traps("lhu crooked", at("lhu x3, 3(x1)", 0x100), 4, 0x103);
        traps("lw crooked", at("lw x3, 2(x1)", 0x100), 4, 0x102);
        traps("lw crooked ahead of its place", at("lw x3, 0(x1)", -1), 4, -1);
        traps("lw outside", at("lw x3, 0(x1)", 0x40000), 5, 0x40000);
        traps("lb outside", at("lb x3, -1(x1)", 0), 5, -1);
        Due.is("lb last byte", at("lb x3, -1(x1)", 0x40000).reg(3), 0);
        Due.is("a load that traps changes nothing", at("lw x3, 0(x1)", 0x40000).reg(3), 33);
    }

    private static void stores() {
        TranslatingHost x = Due.with("sw x2, 0(x1)\nsh x3, 6(x1)\nsb x3, -1(x1)\nsb x2, 1(x1)\nsh x2, 2047(x4)");
        x.set(1, 0x100);
        x.set(2, 0x11223344);
        x.set(3, 0xaabbccdd);
        x.set(4, 0x101);
        x.run(5);
        Due.is("sw, sb into it", x.word(0x100), 0x11224444);
        Due.is("sh", x.word(0x104), 0xccdd0000L);
        Due.is("sb", x.word(0xfc), 0xdd000000L);
        Due.is("sh far", x.word(0x900), 0x3344);
        traps("sh crooked", at("sh x3, 1(x1)", 0x100), 6, 0x101);
        traps("sw crooked", at("sw x3, 2(x1)", 0x100), 6, 0x102);
        traps("sw outside", at("sw x3, 0(x1)", 0x40000), 7, 0x40000);
        traps("sb outside", at("sb x3, -1(x1)", 0), 7, -1);
        Due.is("sb last byte", at("sb x3, -1(x1)", 0x40000).word(0x3fffc), 33L << 24);
    }

    private static void atomic(String name, int old, int v, int want) {
        TranslatingHost x = Due.with(name + " x3, x2, (x1)");
        x.load(0x100, old, 0, 0, 0);
        x.set(1, 0x100);
        x.set(2, v);
        x.run(1);
        Due.is(name + " rd", x.reg(3), old);
        Due.is(name + " stores", (int) x.word(0x100), want);
    }

    private static void atomics() {
        atomic("amoswap.w", 5, 9, 9);
        atomic("amoadd.w", MAX, 1, MIN);
        atomic("amoxor.w", 0xff, 0x0f, 0xf0);
        atomic("amoand.w", 0xff, 0x1ff0f, 0x0f);
        atomic("amoor.w", 0xf0, 0x0f, 0xff);
        atomic("amomin.w", -1, 1, -1);
        atomic("amomin.w", 1, -1, -1);
        atomic("amomax.w", -1, 1, 1);
        atomic("amomax.w", 1, -1, 1);
        atomic("amominu.w", -1, 1, 1);
        atomic("amominu.w", 1, -1, 1);
        atomic("amomaxu.w", -1, 1, -1);
        atomic("amomaxu.w", 1, -1, -1);
        TranslatingHost same = Due.with("amoadd.w x1, x1, (x1)");
        same.load(0x100, 7, 0, 0, 0);
        same.set(1, 0x100);
        same.run(1);
        Due.is("amoadd.w of one register", same.reg(1), 7);
        Due.is("amoadd.w of one register stores", same.word(0x100), 0x107);
        TranslatingHost ordered = Due.with(".word 0x0620a1af");
        ordered.load(0x100, 7, 0, 0, 0);
        ordered.set(1, 0x100);
        ordered.set(2, 1);
        ordered.run(1);
        Due.is("amoadd.w with bits 25, 26", ordered.word(0x100), 8);
        traps("amo crooked", at("amoadd.w x3, x2, (x1)", 0x102), 6, 0x102);
        traps("amo outside", at("amoadd.w x3, x2, (x1)", 0x40000), 7, 0x40000);
        traps("amo of a device", at("amoadd.w x3, x2, (x1)", 0x10000108), 7, 0x10000108);
        traps("lr.w crooked", at("lr.w x3, (x1)", 0x101), 4, 0x101);
        traps("lr.w outside", at("lr.w x3, (x1)", -4), 5, -4);
        traps("lr.w of a device", at("lr.w x3, (x1)", 0x10000000), 5, 0x10000000);
        traps("sc.w crooked", at("sc.w x3, x2, (x1)", 0x103), 6, 0x103);
        traps("sc.w outside", at("sc.w x3, x2, (x1)", -4), 7, -4);
        traps("sc.w of a device", at("sc.w x3, x2, (x1)", 0x10000200), 7, 0x10000200);
        Due.is("sc.w of HALT does not halt", at("sc.w x3, x2, (x1)", 0x10000200).count(5), 0);
    }

    private static TranslatingHost reserved(int steps, String program) {
        TranslatingHost x = Due.with(program);
        x.load(0x100, 7, 8, 0, 0);
        x.set(1, 0x100);
        x.set(2, 99);
        x.set(3, 55);
        x.set(5, 0x104);
        x.run(steps);
        return x;
    }

    private static void reservations() {
        TranslatingHost x = reserved(2, "lr.w x4, (x1)\nsc.w x3, x2, (x1)");
        Due.is("lr.w", x.reg(4), 7);
        Due.is("sc.w rd", x.reg(3), 0);
        Due.is("sc.w stores", x.word(0x100), 99);
        x = reserved(3, "lr.w x4, (x1)\nsc.w x6, x2, (x1)\nsc.w x3, x0, (x1)");
        Due.is("the second sc.w", x.reg(3), 1);
        Due.is("the second sc.w stores nothing", x.word(0x100), 99);
        x = reserved(1, "sc.w x3, x2, (x1)");
        Due.is("sc.w alone", x.reg(3), 1);
        Due.is("sc.w alone stores nothing", x.word(0x100), 7);
        x = reserved(3, "lr.w x4, (x1)\nsc.w x6, x2, (x5)\nsc.w x3, x2, (x1)");
        Due.is("sc.w elsewhere", x.reg(6), 1);
        Due.is("sc.w behind one elsewhere", x.reg(3), 1);
        x = reserved(3, "lr.w x4, (x1)\nlr.w x4, (x5)\nsc.w x3, x2, (x1)");
        Due.is("a second lr.w takes it", x.reg(3), 1);
        x = reserved(3, "lr.w x4, (x1)\nsw x0, 0(x1)\nsc.w x3, x2, (x1)");
        Due.is("a store leaves it", x.reg(3), 0);
        x = reserved(3, "lr.w x4, (x1)\namoadd.w x6, x2, (x1)\nsc.w x3, x2, (x1)");
        Due.is("an amo leaves it", x.reg(3), 0);
        x = reserved(5, "lr.w x4, (x1)\nsret\n");
        Due.is("loops by sret", x.count(0), 5);
        x = reserved(6, "j start\n.align 2\nsc.w x3, x2, (x1)\nstart: li x7, 4\ncsrrw x0, stvec, x7\nlr.w x4, (x1)\necall");
        Due.is("a TRAP takes it", x.reg(3), 1);
        x = reserved(6, "li x7, 0x100\ncsrrw x0, sstatus, x7\nlr.w x4, (x1)\ncsrrwi x0, sepc, 20\nsret\nsc.w x3, x2, (x1)");
        Due.is("sret takes it", x.reg(3), 1);
        x = reserved(1, "lr.w x4, (x1)\nsc.w x3, x2, (x1)");
        x.reset();
        x.set(1, 0x100);
        x.set(32, 4);
        x.run(1);
        Due.is("reset() takes it", x.reg(3), 1);
    }

    private static void fencesAndSystem() {
        String[] nothing = {
            "fence", "fence.i", "wfi", "sfence.vma x1, x2", ".word 0x0ff0000f", ".word 0xffff908f", ".word 0x8330000f",
        };
        for (String statement : nothing) {
            TranslatingHost x = Due.with(statement);
            x.set(1, 5);
            x.run(1);
            Due.is(statement + " retires", x.count(1), 1);
            Due.is(statement + " pc", x.reg(32), 4);
            Due.is(statement + " x1", x.reg(1), 5);
        }
        traps("ecall from S", at("ecall", 0), 9, 0);
        traps("ebreak", at("ebreak", 0), 3, 0);
        TranslatingHost later = Due.after(2, "nop\nebreak");
        Due.is("ebreak's value is pc", later.csr(0x143), 4);
    }

    private static void illegal() {
        int[] words = {
            0xffffffff, 0x0000000b, 0x0000007f, 0x00001067, 0x00002063, 0x00003063, 0x00003003, 0x00006003, 0x00007003,
            0x00003023, 0x00007023, 0x02001013, 0x40001013, 0x02005013, 0x60005013, 0x04000033, 0x40001033, 0x40002033,
            0x40007033, 0x02000033 | 0x80000000, 0x0000002f, 0x0000302f, 0x1010202f, 0x2800202f, 0xf800202f, 0x3000202f | 1 << 27,
            0x0000200f, 0x0000700f, 0x00200073, 0x00000173, 0x00008073, 0x30200073, 0x12000173, 0x10300073, 0x00004073,
            0x30001073, 0x00001073, 0xc0001073, 0xc0102073 | 1 << 15, 0xc820f073, 0x7b002073,
        };
        for (int word : words) {
            TranslatingHost x = new TranslatingHost();
            x.load(0, word, 0, 0, 0);
            x.set(1, 4);
            x.run(1);
            traps("illegal " + Integer.toHexString(word), x, 2, word);
        }
    }

    private static void pcItself() {
        TranslatingHost odd = new TranslatingHost();
        odd.set(32, 7);
        odd.run(1);
        traps("odd pc", odd, 0, 7);
        Due.is("odd pc's sepc", odd.csr(0x141), 6);
        TranslatingHost out = new TranslatingHost();
        out.set(32, 0x40000);
        out.run(1);
        traps("pc outside", out, 1, 0x40000);
        TranslatingHost device = new TranslatingHost();
        device.set(32, 0x10000000);
        device.run(1);
        traps("pc in a device", device, 1, 0x10000000);
        TranslatingHost half = new TranslatingHost();
        half.load(0x3fff0, 0, 0, 0, 0x00130000);
        half.set(32, 0x3fffe);
        half.run(1);
        traps("half an instruction", half, 1, 0x40000);
        Due.is("half an instruction's sepc", half.csr(0x141), 0x3fffe);
        TranslatingHost across = Due.with(".half 1\naddi x1, x0, 9");
        across.run(2);
        Due.is("an instruction across words", across.reg(1), 9);
        Due.is("pc behind it", across.reg(32), 6);
    }
}
