/** Section 6 to MEMORY: feed, end, assemble, place, label (promises 13 to 17). */
public final class AssemblerTest {
    private static final int NONE = TranslatingHost.NONE;

    public static void main(String[] args) {
        tape();
        addresses();
        longOnes();
        shortOnes();
        namesOfRegisters();
        namesOfCsrs();
        others();
        data();
        tokens();
        syntax();
        labels();
        range();
        rangeOfShorts();
        noRoom();
        targets();
        orderOfFaults();
        whatStays();
        fullTapes();
        Due.done();
    }

    private static void tape() {
        TranslatingHost x = new TranslatingHost();
        Due.is("end(0) of nothing", x.end(0), NONE);
        for (int i = 1; i <= 200; i++) {
            Due.is("feed", x.feed(0x20202020, 0x20202020, 0x20202020, 0x20202020, 0x20202020), 20 * i);
        }
        Due.is("feed beyond 4000", x.feed(1, 2, 3, 4, 5), NONE);
        Due.is("end(-1)", x.end(-1), NONE);
        Due.is("end(21)", x.end(21), NONE);
        Due.is("end(20)", x.end(20), 4000);
        Due.is("end(19)", x.end(19), 3999);
        Due.is("feed beyond 4000", x.feed(1, 2, 3, 4, 5), NONE);
        Due.is("end(0)", x.end(0), 3979);
        Due.is("feed", x.feed(0x20202020, 0x20202020, 0x20202020, 0x20202020, 0x20202020), 3999);
        Due.is("assemble of blanks", x.assemble(0), 0);
        Due.is("THE TAPE is empty", x.end(20), NONE);
        x.feed(0x6e6f700a, 0x6e6f700a, 0x23232323, 0x23232323, 0x23232323);
        Due.is("end(8)", x.end(8), 8);
        Due.is("end of less than 20", x.end(5), NONE);
        Due.is("the highest byte is the first", x.assemble(0), 8);
        Due.is("nop", x.word(4), 0x13);
    }

    private static void addresses() {
        TranslatingHost x = new TranslatingHost();
        int[] wrong = {1, 3, -2, 262144, 262146, Integer.MIN_VALUE, Integer.MAX_VALUE - 1};
        for (int address : wrong) {
            Due.is("assemble(" + address + ")", Due.assemble(x, address, "a: nop nop nop nop nop nop"), NONE);
            Due.is("place()", x.place(), NONE);
            Due.is("THE TAPE is empty all the same", x.end(20), NONE);
        }
        Due.is("assemble(262142)", Due.assemble(x, 262142, "c.nop"), 2);
        Due.is("the last half", x.word(262140), 0x00010000);
        Due.is("assemble(2)", Due.assemble(x, 2, "nop"), 4);
        Due.is("word(0)", x.word(0), 0x00130000);
        Due.is("word(4)", x.word(4), 0);
    }

    private static void makes(String statement, long word) {
        TranslatingHost x = new TranslatingHost();
        Due.is("assemble of '" + statement + "'", Due.assemble(x, 0x1000, statement), 4);
        Due.is(statement, x.word(0x1000), word & 0xffffffffL);
    }

    private static void longOnes() {
        makes("add x1, x2, x3", 0x003100b3);
        makes("sub x1,x2,x3", 0x403100b3);
        makes("mulhsu a0, a1, a2", 0x02c5a533);
        makes("remu x31, x31, x31", 0x03ffffb3);
        makes("addi x1, x2, -2048", 0x80010093);
        makes("sltiu x1, x2, 2047", 0x7ff13093);
        makes("slli x1, x2, 31", 0x01f11093);
        makes("srai x1, x2, 31", 0x41f15093);
        makes("lb x1, -1(x2)", 0xfff10083);
        makes("lhu x1, 0x7ff ( x2 )", 0x7ff15083);
        makes("sw x3, -4(x2)", 0xfe312e23);
        makes("sb x3, 31(x2)", 0x00310fa3);
        makes("lui x5, 1048575", 0xfffff2b7);
        makes("auipc x5, 0", 0x00000297);
        makes("jal x1, 2048", 0x001000ef);
        makes("jal x0, -2", 0xfffff06f);
        makes("jal x0, 1048574", 0x7ffff06f);
        makes("jal x0, -1048576", 0x8000006f);
        makes("jalr x1, -1(x2)", 0xfff100e7);
        makes("beq x1, x2, -4096", 0x80208063);
        makes("bgeu x1, x2, 4094", 0x7e20ffe3);
        makes("bne x1, x2, 2048", 0x002090e3);
        makes("lr.w x1, (x2)", 0x100120af);
        makes("sc.w x1, x3, (x2)", 0x183120af);
        makes("amomaxu.w x1, x3, (x2)", 0xe03120af);
        makes("amoadd.w x1, x3, (x2)", 0x003120af);
        makes("amoswap.w x1, x3, ( x2 )", 0x083120af);
        makes("fence", 0x0000000f);
        makes("fence.i", 0x0000100f);
        makes("ecall", 0x00000073);
        makes("ebreak", 0x00100073);
        makes("sret", 0x10200073);
        makes("wfi", 0x10500073);
        makes("sfence.vma x1, x2", 0x12208073);
        makes("csrrw x1, satp, x2", 0x180110f3);
        makes("csrrs x1, 0xfff, x2", 0xfff120f3);
        makes("csrrci x1, 0, 31", 0x000ff0f3);
    }

    private static void makesShort(String statement, int half) {
        TranslatingHost x = new TranslatingHost();
        Due.is("assemble of '" + statement + "'", Due.assemble(x, 0x1000, statement), 2);
        Due.is(statement, x.word(0x1000), half);
    }

    private static void shortOnes() {
        makesShort("c.addi4spn x8, 4", 0x0040);
        makesShort("c.addi4spn x15, 1020", 0x1ffc);
        makesShort("c.lw x8, 64(x15)", 0x43a0);
        makesShort("c.lw x9, 4(x8)", 0x4044);
        makesShort("c.sw s1, 124(s0)", 0xdc64);
        makesShort("c.nop", 0x0001);
        makesShort("c.addi x0, 0", 0x0001);
        makesShort("c.addi x1, -32", 0x1081);
        makesShort("c.jal -2048", 0x3001);
        makesShort("c.li x31, 31", 0x4ffd);
        makesShort("c.addi16sp 16", 0x6141);
        makesShort("c.addi16sp -512", 0x7101);
        makesShort("c.lui x1, 1", 0x6085);
        makesShort("c.lui x1, 1048575", 0x70fd);
        makesShort("c.lui x0, 1048544", 0x7001);
        makesShort("c.srli x8, 0", 0x8001);
        makesShort("c.srai x8, 31", 0x847d);
        makesShort("c.andi x8, -1", 0x987d);
        makesShort("c.sub x8, x9", 0x8c05);
        makesShort("c.xor x8, x9", 0x8c25);
        makesShort("c.or x8, x9", 0x8c45);
        makesShort("c.and x8, x9", 0x8c65);
        makesShort("c.j 2046", 0xaffd);
        makesShort("c.beqz x8, -256", 0xd001);
        makesShort("c.bnez x15, 254", 0xeffd);
        makesShort("c.slli x1, 31", 0x00fe);
        makesShort("c.lwsp x1, 252(sp)", 0x50fe);
        makesShort("c.lwsp x1, 4(x2)", 0x4092);
        makesShort("c.swsp x0, 64(sp)", 0xc082);
        makesShort("c.jr ra", 0x8082);
        makesShort("c.jalr x31", 0x9f82);
        makesShort("c.mv x0, x1", 0x8006);
        makesShort("c.add x1, x31", 0x90fe);
        makesShort("c.ebreak", 0x9002);
    }

    private static void namesOfRegisters() {
        String[] names = {
            "zero", "ra", "sp", "gp", "tp", "t0", "t1", "t2", "s0", "s1", "a0", "a1", "a2", "a3", "a4", "a5", "a6", "a7",
            "s2", "s3", "s4", "s5", "s6", "s7", "s8", "s9", "s10", "s11", "t3", "t4", "t5", "t6",
        };
        for (int r = 0; r < 32; r++) {
            makes("mv x1, " + names[r], 0x00000093 | r << 15);
            makes("mv x1, x" + r, 0x00000093 | r << 15);
        }
        String[] wrong = {
            "x32", "x00", "x01", "x", "X1", "fp", "t7", "s12", "a8", "Ra", "f0", "zero0", "x100", "s01", "a", "t", "x1_", "b1",
        };
        for (String name : wrong) {
            fails("mv " + name + ", x1", 3, 3);
        }
    }

    private static void namesOfCsrs() {
        String[] names = {
            "sstatus", "sie", "stvec", "sscratch", "sepc", "scause", "stval", "sip", "satp", "cycle", "time", "cycleh",
            "timeh", "instret", "instreth",
        };
        int[] numbers = {
            0x100, 0x104, 0x105, 0x140, 0x141, 0x142, 0x143, 0x144, 0x180, 0xc00, 0xc01, 0xc80, 0xc81, 0xc02, 0xc82,
        };
        for (int i = 0; i < names.length; i++) {
            makes("csrrw x0, " + names[i] + ", x0", numbers[i] << 20 | 0x1073);
        }
        fails("csrrw x0, mstatus, x0", 3, 10);
        fails("csrrw x0, x1, x0", 3, 10);
        fails("csrrw x0, SIE, x0", 3, 10);
    }

    private static void li(String number, int bytes, long first, long second) {
        TranslatingHost x = new TranslatingHost();
        Due.is("li " + number, Due.assemble(x, 0x1000, "li x1, " + number), bytes);
        Due.is("li " + number + " first", x.word(0x1000), first & 0xffffffffL);
        Due.is("li " + number + " second", x.word(0x1004), second & 0xffffffffL);
        x.set(32, 0x1000);
        x.run(bytes / 4);
        long meant = Long.decode(number);
        Due.is("li " + number + " does it", x.reg(1), (int) meant);
    }

    private static void others() {
        makes("nop", 0x00000013);
        makes("mv x1, x2", 0x00010093);
        makes("j -4", 0xffdff06f);
        makes("ret", 0x00008067);
        li("0", 4, 0x00000093, 0);
        li("2047", 4, 0x7ff00093, 0);
        li("-2048", 4, 0x80000093, 0);
        li("4294967295", 4, 0xfff00093, 0);
        li("0xfffff800", 4, 0x80000093, 0);
        li("4096", 4, 0x000010b7, 0);
        li("0x80000000", 4, 0x800000b7, 0);
        li("-2147483648", 4, 0x800000b7, 0);
        li("2048", 8, 0x000010b7, 0x80008093);
        li("-2049", 8, 0xfffff0b7, 0x7ff08093);
        li("0x12345678", 8, 0x123450b7, 0x67808093);
        li("0x7fffffff", 8, 0x800000b7, 0xfff08093);
        li("0x12345fff", 8, 0x123460b7, 0xfff08093);
    }

    private static void data() {
        TranslatingHost x = new TranslatingHost();
        Due.is(".word", Due.assemble(x, 0, ".word 1, -2147483648,4294967295"), 12);
        Due.is("word(0)", x.word(0), 1);
        Due.is("word(4)", x.word(4), 0x80000000L);
        Due.is("word(8)", x.word(8), 0xffffffffL);
        Due.is(".half", Due.assemble(x, 0, ".half -32768, 65535, 0x1234"), 6);
        Due.is("halves", x.word(0), 0xffff8000L);
        Due.is("halves", x.word(4), 0x80001234L);
        Due.is(".byte", Due.assemble(x, 0, ".byte -128, 255, 7"), 3);
        Due.is("bytes", x.word(0), 0xff07ff80L);
        Due.is(".space", Due.assemble(x, 0, ".byte 1\n.space 2\n.byte 3\n.space 0"), 4);
        Due.is("space", x.word(0), 0x03000001);
        Due.assemble(x, 0x100, ".word -1, -1, -1, -1");
        Due.is(".align", Due.assemble(x, 0x100, ".byte 1\n.align 0\n.align 1\n.half 2\n.align 3\n.align 3"), 8);
        Due.is("align", x.word(0x100), 0x00020001);
        Due.is("align's zeros", x.word(0x104), 0);
        Due.is("behind align", x.word(0x108), 0xffffffffL);
        Due.is(".align is of the address", Due.assemble(x, 0x102, ".align 4"), 14);
        Due.is(".align 12", Due.assemble(x, 0x1002, ".align 12"), 4094);
        Due.is(".space 4096", Due.assemble(x, 0x1000, ".space 4096"), 4096);
        Due.is("an odd address", Due.assemble(x, 0x200, ".byte 1\naddi x1, x0, 5"), 5);
        Due.is("an instruction there", x.word(0x200), 0x50009301L);
        Due.is("its last byte", x.word(0x204) & 255, 0);
    }

    private static int fails(String text, int fault, int place) {
        TranslatingHost x = new TranslatingHost();
        x.load(0x1000, -1, -1, -1, -1);
        int answer = Due.assemble(x, 0x1000, text);
        Due.is("assemble of '" + text + "'", answer, -fault);
        Due.is("place in '" + text + "'", x.place(), place);
        Due.is("MEMORY stays", x.word(0x1000), 0xffffffffL);
        Due.is("THE TAPE is empty", x.end(20), NONE);
        return answer;
    }

    private static void bytes(String text, int bytes) {
        TranslatingHost x = new TranslatingHost();
        Due.is("assemble of '" + text + "'", Due.assemble(x, 0x1000, text), bytes);
        Due.is("place of '" + text + "'", x.place(), NONE);
    }

    private static void tokens() {
        bytes("", 0);
        bytes("\n\n \t\r\n", 0);
        bytes("# nop\nnop # nop\n#", 4);
        bytes("nop#nop", 4);
        bytes("\tadd\rx1 ,\tx2,x3 \r\n", 4);
        bytes("a:b:c: nop", 4);
        bytes("a : nop", 4);
        bytes("abcdefghij_.ABCDE789: nop", 4);
        bytes(".word 0x0, 0xABCDEFab, 0000000007, 4294967295, -0x1, -0", 24);
        bytes("li x1,-2147483648", 4);
        fails("abcdefghij_.ABCDE7890: nop", 3, 0);
        fails(".word 0x", 3, 6);
        fails(".word 0X1", 3, 6);
        fails(".word 0x123456789", 3, 6);
        fails(".word 0x000000001", 3, 6);
        fails(".word 0xg", 3, 6);
        fails(".word 12a", 3, 6);
        fails(".word 12_", 3, 6);
        fails(".word 12.", 3, 6);
        fails(".word 4294967296", 3, 6);
        fails(".word -4294967296", 3, 6);
        fails(".word 00000000001", 3, 6);
        fails(".word - 1", 3, 6);
        fails(".word --1", 3, 6);
        fails(".word -a", 3, 6);
        fails(".word -", 3, 6);
        fails(".word +1", 3, 6);
        fails(".word 1 2", 3, 8);
        fails(".word 1-2", 3, 7);
        fails("nop $", 3, 4);
        fails("nop;", 3, 3);
        fails("no\u0000p", 3, 0);
        fails("nop \u00e4", 3, 4);
    }

    private static void syntax() {
        fails("add", 3, 3);
        fails("add\nnop", 3, 3);
        fails("add # x1\nnop", 3, 8);
        fails("add x1", 3, 6);
        fails("add x1 x2", 3, 7);
        fails("add x1, x2", 3, 10);
        fails("add x1, x2, 5", 3, 12);
        fails("add x1, x2, x3,", 3, 14);
        fails("add x1, x2, foo", 3, 12);
        fails("addi x1, x2, x3", 3, 13);
        fails("nop nop", 3, 4);
        fails("foo x1", 3, 0);
        fails("Add x1, x2, x3", 3, 0);
        fails("nop\n  NOP", 3, 6);
        fails("x1", 3, 0);
        fails(": nop", 3, 0);
        fails("a:: nop", 3, 2);
        fails("5: nop", 3, 0);
        fails("nop a:", 3, 4);
        fails("a: b", 3, 3);
        fails("lw x1, (x2)", 3, 7);
        fails("lw x1, 4", 3, 8);
        fails("lw x1, 4(x2", 3, 11);
        fails("lw x1, 4(4)", 3, 9);
        fails("lr.w x1, 0(x2)", 3, 9);
        fails("sc.w x1, (x2)", 3, 9);
        fails("jal 8", 3, 4);
        fails("jal x1, (", 3, 8);
        fails("jalr x1, x2, 0", 3, 9);
        fails("fence x1", 3, 6);
        fails("sfence.vma", 3, 10);
        fails(".word", 3, 5);
        fails(".word a", 3, 6);
        fails(".word 1,", 3, 8);
        fails(".word 1,,2", 3, 8);
        fails(".space 1, 2", 3, 8);
        fails(".align", 3, 6);
        fails("c.lwsp x1, 4(4)", 3, 13);
        fails("c.addi16sp sp, 16", 3, 11);
        fails("csrrwi x0, sie, x1", 3, 16);
        fails("beq x1, x2", 3, 10);
        fails(".text", 3, 0);
        fails("li x1, a", 3, 7);
    }

    private static void labels() {
        TranslatingHost x = new TranslatingHost();
        Due.is("labels", Due.assemble(x, 0x100, "a: b: nop\nadd:\nli x1, 0x12345\nx1: .byte 1\nend:"), 13);
        Due.is("label(0)", x.label(0), 0x100);
        Due.is("label(1)", x.label(1), 0x100);
        Due.is("label(2)", x.label(2), 0x104);
        Due.is("label(3)", x.label(3), 0x10c);
        Due.is("label(4)", x.label(4), 0x10d);
        Due.is("label(5)", x.label(5), NONE);
        Due.is("label(-1)", x.label(-1), NONE);
        Due.is("label(least)", x.label(Integer.MIN_VALUE), NONE);
        fails("a: a:", 4, 3);
        fails("a: nop\nb: nop\n  a: nop", 4, 16);
        bytes("a: A: nop", 4);
        bytes("sp: zero: sie: j sp\nj sie\nnop: j nop", 12);
        StringBuilder many = new StringBuilder();
        for (int i = 0; i < 32; i++) {
            many.append("l").append(i).append(":\nnop\n");
        }
        Due.is("32 labels", Due.assemble(x, 0, many.toString()), 128);
        Due.is("label(31)", x.label(31), 124);
        Due.is("label(32)", x.label(32), NONE);
        int place = many.length() + 1;
        fails(many + " more:", 4, place);
        fails(many + " l0:", 4, place);
        fails(many + " l0: $", 4, place);
        fails("a: nop $\na:", 3, 7);
        fails("a: a: $", 4, 3);
        TranslatingHost y = new TranslatingHost();
        Due.is("labels at the end of MEMORY", Due.assemble(y, 262140, "nop\nend:"), 4);
        Due.is("label(0)", y.label(0), 262144);
    }

    private static void range() {
        fails("addi x1, x2, 2048", 5, 13);
        fails("addi x1, x2, -2049", 5, 13);
        fails("addi x1, x2, 4294967295", 5, 13);
        fails("slli x1, x2, 32", 5, 13);
        fails("srai x1, x2, -1", 5, 13);
        fails("lw x1, 2048(x2)", 5, 7);
        fails("sw x1, -2049(x2)", 5, 7);
        fails("jalr x1, 2048(x2)", 5, 9);
        fails("lui x1, 1048576", 5, 8);
        fails("lui x1, -1", 5, 8);
        fails("auipc x1, 1048576", 5, 10);
        fails("csrrw x1, 4096, x2", 5, 10);
        fails("csrrw x1, -1, x2", 5, 10);
        fails("csrrwi x1, 0, 32", 5, 14);
        fails("csrrwi x1, 0, -1", 5, 14);
        fails("li x1, -2147483649", 5, 7);
        fails(".word -2147483649", 5, 6);
        fails(".half 65536", 5, 6);
        fails(".half 1, -32769", 5, 9);
        fails(".byte 256", 5, 6);
        fails(".byte 1, 2, -129", 5, 12);
        fails(".space 4097", 5, 7);
        fails(".space -1", 5, 7);
        fails(".align 13", 5, 7);
        fails(".align -1", 5, 7);
    }

    private static void rangeOfShorts() {
        fails("c.addi4spn x8, 0", 5, 15);
        fails("c.addi4spn x8, 2", 5, 15);
        fails("c.addi4spn x8, 1024", 5, 15);
        fails("c.addi4spn x7, 4", 5, 11);
        fails("c.addi4spn x16, 4", 5, 11);
        fails("c.lw x8, 128(x9)", 5, 9);
        fails("c.lw x8, -4(x9)", 5, 9);
        fails("c.lw x8, 2(x9)", 5, 9);
        fails("c.lw x8, 4(x7)", 5, 11);
        fails("c.sw x16, 4(x7)", 5, 5);
        fails("c.addi x1, 32", 5, 11);
        fails("c.addi x1, -33", 5, 11);
        fails("c.li x1, 32", 5, 9);
        fails("c.addi16sp 0", 5, 11);
        fails("c.addi16sp 8", 5, 11);
        fails("c.addi16sp 512", 5, 11);
        fails("c.addi16sp -528", 5, 11);
        fails("c.lui x2, 1", 5, 6);
        fails("c.lui x1, 0", 5, 10);
        fails("c.lui x1, 32", 5, 10);
        fails("c.lui x1, -1", 5, 10);
        fails("c.lui x1, 1048543", 5, 10);
        fails("c.lui x1, 1048576", 5, 10);
        fails("c.srli x7, 1", 5, 7);
        fails("c.srli x8, 32", 5, 11);
        fails("c.srai x8, -1", 5, 11);
        fails("c.andi x8, 32", 5, 11);
        fails("c.sub x8, x16", 5, 10);
        fails("c.and x1, x16", 5, 6);
        fails("c.beqz x16, 4", 5, 7);
        fails("c.slli x1, 32", 5, 11);
        fails("c.lwsp x0, 4(sp)", 5, 7);
        fails("c.lwsp x1, 4(x3)", 5, 13);
        fails("c.lwsp x1, 256(sp)", 5, 11);
        fails("c.lwsp x1, 2(sp)", 5, 11);
        fails("c.swsp x1, -4(sp)", 5, 11);
        fails("c.swsp x1, 4(x8)", 5, 13);
        fails("c.jr x0", 5, 5);
        fails("c.jalr zero", 5, 7);
        fails("c.mv x1, x0", 5, 9);
        fails("c.add x1, x0", 5, 10);
    }

    private static void noRoom() {
        TranslatingHost x = new TranslatingHost();
        Due.is("nop at the end", Due.assemble(x, 262140, "nop"), 4);
        Due.is("two at the end", Due.assemble(x, 262140, "nop\n a: nop"), -7);
        Due.is("its place", x.place(), 8);
        Due.is("MEMORY stays", x.word(262140), 0x13);
        Due.is("half of one", Due.assemble(x, 262142, "nop"), -7);
        Due.is("its place", x.place(), 0);
        Due.is("li at the end", Due.assemble(x, 262140, "li x1, 1"), 4);
        Due.is("li of two at the end", Due.assemble(x, 262140, "li x1, 0x12345"), -7);
        Due.is(".space 0 at the end", Due.assemble(x, 262140, "nop\n.space 0\n.align 12\nl:"), 4);
        Due.is(".space 1 at the end", Due.assemble(x, 262140, "nop\n.space 1"), -7);
        Due.is("its place", x.place(), 4);
        Due.is(".byte beyond", Due.assemble(x, 262142, ".byte 1, 2, 3"), -7);
        StringBuilder all = new StringBuilder();
        for (int i = 0; i < 64; i++) {
            all.append(".space 4096\n");
        }
        Due.is("all of MEMORY", Due.assemble(x, 0, all.toString()), 262144);
        Due.is("word(262140)", x.word(262140), 0);
        Due.is("more than all", Due.assemble(x, 0, all + ".byte 1\n.byte 2"), -7);
        Due.is("its place", x.place(), 64 * 12);
    }

    private static void targets() {
        TranslatingHost x = new TranslatingHost();
        String program = "start: j end\nbeq x0, x0, start\nc.j start\nc.beqz x8, end\nend: jal x1, start\nc.jal end";
        Due.is("targets", Due.assemble(x, 0x100, program), 18);
        Due.is("j end", x.word(0x100), 0x00c0006f);
        Due.is("beq start", x.word(0x104), 0xfe000ee3L);
        Due.is("c.j, c.beqz", x.word(0x108), 0xc009bfe5L);
        Due.is("jal start", x.word(0x10c), 0xff5ff0efL);
        Due.is("c.jal end", x.word(0x110) & 0xffff, 0x3ff5);
        fails("j nowhere", 6, 2);
        fails("j Start\nstart:", 6, 2);
        fails("beq x1, x2, x3", 6, 12);
        fails("jal x0, 1", 5, 8);
        fails("jal x0, 1048576", 5, 8);
        fails("jal x0, -1048578", 5, 8);
        fails("j 4294967294", 5, 2);
        fails("beq x1, x2, 4096", 5, 12);
        fails("beq x1, x2, -4098", 5, 12);
        fails("c.j 2048", 5, 4);
        fails("c.jal -2050", 5, 6);
        fails("c.bnez x8, 256", 5, 11);
        fails("c.beqz x8, -258", 5, 11);
        fails("c.beqz x8, 3", 5, 11);
        fails("j odd\n.byte 1\nodd:", 5, 2);
        bytes(".byte 1\nj odd\n.word 1\nodd:", 9);
        fails("beq x0, x0, far\n.space 4096\nfar:", 5, 12);
        bytes("beq x0, x0, far\n.space 4090\nfar:", 4094);
        fails("c.beqz x8, far\n.space 254\nfar:", 5, 11);
    }

    private static void orderOfFaults() {
        fails("j nowhere\naddi x1, x1, 5000\nbad", 3, 28);
        fails("j nowhere\naddi x1, x1, 5000\na: a:", 4, 31);
        fails("j nowhere\naddi x1, x1, 5000", 5, 23);
        fails("j 1\nj nowhere", 5, 2);
        fails("j nowhere\nj 1", 6, 2);
        fails("c.lw x1, 1(x1)", 5, 5);
        fails("c.beqz x1, nowhere", 5, 7);
        TranslatingHost x = new TranslatingHost();
        Due.is("7 is ahead of targets", Due.assemble(x, 262140, "j nowhere\nnop"), -7);
        Due.is("its place", x.place(), 10);
        Due.is("5 is ahead of 7", Due.assemble(x, 262140, "nop\nnop\nslli x1, x1, 32"), -5);
        Due.is("its place", x.place(), 21);
    }

    private static void whatStays() {
        TranslatingHost x = new TranslatingHost();
        Due.assemble(x, 0x200, "a: nop\nb: nop");
        Due.is("bad", Due.assemble(x, 0x300, "c: nop\nbad"), -3);
        Due.is("place()", x.place(), 7);
        Due.is("label(1) stays", x.label(1), 0x204);
        Due.is("labels stay behind NONE", Due.assemble(x, 1, "c: nop"), NONE);
        Due.is("place() behind NONE", x.place(), NONE);
        Due.is("label(1) stays", x.label(1), 0x204);
        Due.is("no labels", Due.assemble(x, 0x300, "nop"), 4);
        Due.is("label(0) goes", x.label(0), NONE);
        Due.is("place() of a good one", x.place(), NONE);
    }

    private static void fullTapes() {
        Due.is("1000 statements", full("j 0\n", 1000), 4000);
        Due.is("lines alone", full("\n", 4000), 0);
        Due.is("blanks alone", full(" ", 4000), 0);
        Due.is("a list", full(".byte 1", ",1", 1996), 1997);
        Due.is("colons", full(":", 4000), -3);
        Due.is("a long name", full("a", 4000), -3);
        Due.is("a long number", full("1", 4000), -3);
        Due.is("a long comment", full("#", 4000), 0);
        Due.is("labels alone", full("a:", 2000), -4);
    }

    private static int full(String piece, int times) {
        return full("", piece, times);
    }

    private static int full(String first, String piece, int times) {
        return Due.assemble(new TranslatingHost(), 0, first + piece.repeat(times));
    }
}
