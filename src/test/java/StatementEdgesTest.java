/** The edges of section 6's STATEMENTS: each NUMBER, TARGET and register at its last good and first wrong value. */
public final class StatementEdgesTest {
    private static final int RANGE = 5;

    public static void main(String[] args) {
        Edges.run(StatementEdgesTest.class);
    }

    private static String filled(String form, long v) {
        return form.replace("%", Long.toString(v));
    }

    private static void makes(String statement, int bytes, long bits) {
        TranslatingHost x = Due.takes(statement, bytes);
        Due.is(statement, x.word(0x1000), bits & 0xffffffffL);
        Due.is("behind " + statement, x.word(0x1004), 0);
    }

    private static void refuses(String form, long v) {
        Due.fails(filled(form, v), RANGE, form.indexOf('%'));
    }

    /** A NUMBER of a statement of 32 bits, where % stands, from least to greatest. */
    private static void number(String form, long least, long leastBits, long greatest, long greatestBits) {
        makes(filled(form, least), 4, leastBits);
        makes(filled(form, greatest), 4, greatestBits);
        refuses(form, least - 1);
        refuses(form, greatest + 1);
        farNumbers(form);
    }

    private static void farNumbers(String form) {
        refuses(form, 4294967295L);
        refuses(form, -4294967295L);
        refuses(form, Integer.MIN_VALUE);
        refuses(form, Integer.MAX_VALUE);
    }

    private static void shortNumber(String form, int step, long least, int leastBits, long greatest, int greatestBits) {
        makes(filled(form, least), 2, leastBits);
        makes(filled(form, greatest), 2, greatestBits);
        refuses(form, least - step);
        refuses(form, greatest + step);
        for (int i = 1; i < step; i++) {
            refuses(form, least + i);
            refuses(form, greatest - i);
        }
        farNumbers(form);
    }

    /** A TARGET: even, from least to greatest. */
    private static void target(String form, int bytes, long least, long leastBits, long greatest, long greatestBits) {
        makes(filled(form, least), bytes, leastBits);
        makes(filled(form, greatest), bytes, greatestBits);
        refuses(form, least - 2);
        refuses(form, least - 1);
        refuses(form, least + 1);
        refuses(form, greatest - 1);
        refuses(form, greatest + 1);
        refuses(form, greatest + 2);
        refuses(form, 1);
        refuses(form, -1);
        farNumbers(form);
    }

    /** A register where % stands, from one to another. */
    private static void register(String form, int least, int greatest, int bytes) {
        for (int r = 0; r < 32; r++) {
            String statement = form.replace("%", "x" + r);
            if (r >= least && r <= greatest) {
                Due.takes(statement, bytes);
            } else {
                Due.fails(statement, RANGE, form.indexOf('%'));
            }
        }
        Due.fails(form.replace("%", "x32"), 3, form.indexOf('%'));
    }

    // "addi and all of 13: rd, rs1, NUMBER (-2048 .. 2047; slli srli srai 0 .. 31)"

    private static void addi() {
        number("addi x1, x2, %", -2048, 0x80010093, 2047, 0x7ff10093);
    }

    private static void slti() {
        number("slti x1, x2, %", -2048, 0x80012093, 2047, 0x7ff12093);
    }

    private static void sltiu() {
        number("sltiu x1, x2, %", -2048, 0x80013093, 2047, 0x7ff13093);
    }

    private static void xori() {
        number("xori x1, x2, %", -2048, 0x80014093, 2047, 0x7ff14093);
    }

    private static void ori() {
        number("ori x1, x2, %", -2048, 0x80016093, 2047, 0x7ff16093);
    }

    private static void andi() {
        number("andi x1, x2, %", -2048, 0x80017093, 2047, 0x7ff17093);
    }

    private static void slli() {
        number("slli x1, x2, %", 0, 0x00011093, 31, 0x01f11093);
    }

    private static void srli() {
        number("srli x1, x2, %", 0, 0x00015093, 31, 0x01f15093);
    }

    private static void srai() {
        number("srai x1, x2, %", 0, 0x40015093, 31, 0x41f15093);
    }

    // "lb lh lw lbu lhu: rd, NUMBER ( rs1 ). sb sh sw: rs2, NUMBER ( rs1 )" and jalr

    private static void lb() {
        number("lb x1, %(x2)", -2048, 0x80010083, 2047, 0x7ff10083);
    }

    private static void lh() {
        number("lh x1, %(x2)", -2048, 0x80011083, 2047, 0x7ff11083);
    }

    private static void lw() {
        number("lw x1, %(x2)", -2048, 0x80012083, 2047, 0x7ff12083);
    }

    private static void lbu() {
        number("lbu x1, %(x2)", -2048, 0x80014083, 2047, 0x7ff14083);
    }

    private static void lhu() {
        number("lhu x1, %(x2)", -2048, 0x80015083, 2047, 0x7ff15083);
    }

    private static void sb() {
        number("sb x1, %(x2)", -2048, 0x80110023, 2047, 0x7e110fa3);
    }

    private static void sh() {
        number("sh x1, %(x2)", -2048, 0x80111023, 2047, 0x7e111fa3);
    }

    private static void sw() {
        number("sw x1, %(x2)", -2048, 0x80112023, 2047, 0x7e112fa3);
    }

    private static void jalr() {
        number("jalr x1, %(x2)", -2048, 0x800100e7, 2047, 0x7ff100e7);
    }

    // "lui auipc: rd, NUMBER (0 .. 1048575: the highest 20 bits)"

    private static void lui() {
        number("lui x1, %", 0, 0x000000b7, 1048575, 0xfffff0b7);
    }

    private static void auipc() {
        number("auipc x1, %", 0, 0x00000097, 1048575, 0xfffff097);
    }

    // "jal: rd, TARGET (even, -1048576 .. 1048574)" and "j TARGET (jal x0)"

    private static void jal() {
        target("jal x1, %", 4, -1048576, 0x800000ef, 1048574, 0x7ffff0ef);
    }

    private static void j() {
        target("j %", 4, -1048576, 0x8000006f, 1048574, 0x7ffff06f);
    }

    // "beq .. bgeu: rs1, rs2, TARGET (even, -4096 .. 4094)"

    private static void beq() {
        target("beq x1, x2, %", 4, -4096, 0x80208063, 4094, 0x7e208fe3);
    }

    private static void bne() {
        target("bne x1, x2, %", 4, -4096, 0x80209063, 4094, 0x7e209fe3);
    }

    private static void blt() {
        target("blt x1, x2, %", 4, -4096, 0x8020c063, 4094, 0x7e20cfe3);
    }

    private static void bge() {
        target("bge x1, x2, %", 4, -4096, 0x8020d063, 4094, 0x7e20dfe3);
    }

    private static void bltu() {
        target("bltu x1, x2, %", 4, -4096, 0x8020e063, 4094, 0x7e20efe3);
    }

    private static void bgeu() {
        target("bgeu x1, x2, %", 4, -4096, 0x8020f063, 4094, 0x7e20ffe3);
    }

    // "CSR: its NUMBER (0 .. 4095)" and "csrrwi csrrsi csrrci: rd, CSR, NUMBER (0 .. 31)"

    private static void csrsByNumber() {
        number("csrrw x1, %, x2", 0, 0x000110f3, 4095, 0xfff110f3);
        number("csrrs x1, %, x2", 0, 0x000120f3, 4095, 0xfff120f3);
        number("csrrc x1, %, x2", 0, 0x000130f3, 4095, 0xfff130f3);
        number("csrrwi x1, %, 1", 0, 0x0000d0f3, 4095, 0xfff0d0f3);
        number("csrrsi x1, %, 1", 0, 0x0000e0f3, 4095, 0xfff0e0f3);
        number("csrrci x1, %, 1", 0, 0x0000f0f3, 4095, 0xfff0f0f3);
    }

    private static void csrrwi() {
        number("csrrwi x1, sscratch, %", 0, 0x140050f3, 31, 0x140fd0f3);
    }

    private static void csrrsi() {
        number("csrrsi x1, sscratch, %", 0, 0x140060f3, 31, 0x140fe0f3);
    }

    private static void csrrci() {
        number("csrrci x1, sscratch, %", 0, 0x140070f3, 31, 0x140ff0f3);
    }

    // "add and all of 33: rd, rs1, rs2", the atomics, and those that stand alone

    private static void eachStatementWithoutANumber() {
        makes("add x1, x2, x31", 4, 0x01f100b3);
        makes("sub x1, x2, x31", 4, 0x41f100b3);
        makes("sll x1, x2, x31", 4, 0x01f110b3);
        makes("slt x1, x2, x31", 4, 0x01f120b3);
        makes("sltu x1, x2, x31", 4, 0x01f130b3);
        makes("xor x1, x2, x31", 4, 0x01f140b3);
        makes("srl x1, x2, x31", 4, 0x01f150b3);
        makes("sra x1, x2, x31", 4, 0x41f150b3);
        makes("or x1, x2, x31", 4, 0x01f160b3);
        makes("and x1, x2, x31", 4, 0x01f170b3);
        makes("mul x1, x2, x31", 4, 0x03f100b3);
        makes("mulh x1, x2, x31", 4, 0x03f110b3);
        makes("mulhsu x1, x2, x31", 4, 0x03f120b3);
        makes("mulhu x1, x2, x31", 4, 0x03f130b3);
        makes("div x1, x2, x31", 4, 0x03f140b3);
        makes("divu x1, x2, x31", 4, 0x03f150b3);
        makes("rem x1, x2, x31", 4, 0x03f160b3);
        makes("remu x1, x2, x31", 4, 0x03f170b3);
        makes("lr.w x1, (x2)", 4, 0x100120af);
        makes("sc.w x1, x3, (x2)", 4, 0x183120af);
        makes("amoswap.w x1, x3, (x2)", 4, 0x083120af);
        makes("amoadd.w x1, x3, (x2)", 4, 0x003120af);
        makes("amoxor.w x1, x3, (x2)", 4, 0x203120af);
        makes("amoand.w x1, x3, (x2)", 4, 0x603120af);
        makes("amoor.w x1, x3, (x2)", 4, 0x403120af);
        makes("amomin.w x1, x3, (x2)", 4, 0x803120af);
        makes("amomax.w x1, x3, (x2)", 4, 0xa03120af);
        makes("amominu.w x1, x3, (x2)", 4, 0xc03120af);
        makes("amomaxu.w x1, x3, (x2)", 4, 0xe03120af);
        makes("ecall", 4, 0x00000073);
        makes("ebreak", 4, 0x00100073);
        makes("sret", 4, 0x10200073);
        makes("wfi", 4, 0x10500073);
        makes("sfence.vma x1, x2", 4, 0x12208073);
        makes("csrrw x1, sie, x2", 4, 0x104110f3);
        makes("csrrs x1, sie, x2", 4, 0x104120f3);
        makes("csrrc x1, sie, x2", 4, 0x104130f3);
        makes("fence.i", 4, 0x0000100f);
        makes("fence", 4, 0x0000000f);
    }

    // Registers of the statements of 32 bits: all

    private static void longStatementsTakeEachRegister() {
        String[] forms = {
            "add %, x1, x1", "add x1, %, x1", "add x1, x1, %", "addi %, x1, 0", "addi x1, %, 0", "slli %, x1, 0", "lw %, 0(x1)",
            "lw x1, 0(%)", "sw %, 0(x1)", "sw x1, 0(%)", "lui %, 0", "jal %, 0", "jalr %, 0(x1)", "jalr x1, 0(%)",
            "beq %, x1, 0", "beq x1, %, 0", "lr.w %, (x1)", "lr.w x1, (%)", "sc.w %, x1, (x1)", "sc.w x1, %, (x1)",
            "amoadd.w x1, x1, (%)", "sfence.vma %, x1", "sfence.vma x1, %", "csrrw %, sie, x1", "csrrw x1, sie, %",
            "csrrwi %, sie, 0", "mv %, x1", "mv x1, %", "li %, 0",
        };
        for (String form : forms) {
            register(form, 0, 31, 4);
        }
    }

    // "Of 16 bits, r' where told .. NUMBERS that the instruction cannot hold .. and registers that it cannot have: RANGE"

    private static void cAddi4spn() {
        shortNumber("c.addi4spn x8, %", 4, 4, 0x0040, 1020, 0x1fe0);
        refuses("c.addi4spn x8, %", 0);
        register("c.addi4spn %, 4", 8, 15, 2);
    }

    private static void cLw() {
        shortNumber("c.lw x8, %(x15)", 4, 0, 0x4380, 124, 0x5fe0);
        register("c.lw %, 0(x8)", 8, 15, 2);
        register("c.lw x8, 0(%)", 8, 15, 2);
    }

    private static void cSw() {
        shortNumber("c.sw x8, %(x15)", 4, 0, 0xc380, 124, 0xdfe0);
        register("c.sw %, 0(x8)", 8, 15, 2);
        register("c.sw x8, 0(%)", 8, 15, 2);
    }

    private static void cNop() {
        makes("c.nop", 2, 0x0001);
        makes("c.addi x0, 0", 2, 0x0001);
    }

    private static void cAddi() {
        shortNumber("c.addi x1, %", 1, -32, 0x1081, 31, 0x00fd);
        makes("c.addi x1, 0", 2, 0x0081);
        register("c.addi %, 1", 0, 31, 2);
    }

    private static void cLi() {
        shortNumber("c.li x1, %", 1, -32, 0x5081, 31, 0x40fd);
        makes("c.li x1, 0", 2, 0x4081);
        register("c.li %, 1", 0, 31, 2);
    }

    private static void cJal() {
        target("c.jal %", 2, -2048, 0x3001, 2046, 0x2ffd);
        makes("c.jal 0", 2, 0x2001);
    }

    private static void cJ() {
        target("c.j %", 2, -2048, 0xb001, 2046, 0xaffd);
        makes("c.j 0", 2, 0xa001);
    }

    private static void cAddi16sp() {
        shortNumber("c.addi16sp %", 16, -512, 0x7101, 496, 0x617d);
        makes("c.addi16sp -16", 2, 0x717d);
        makes("c.addi16sp 16", 2, 0x6141);
        refuses("c.addi16sp %", 0);
    }

    private static void cLui() {
        makes("c.lui x1, 1", 2, 0x6085);
        makes("c.lui x1, 31", 2, 0x60fd);
        makes("c.lui x1, 1048544", 2, 0x7081);
        makes("c.lui x1, 1048575", 2, 0x70fd);
        refuses("c.lui x1, %", 0);
        refuses("c.lui x1, %", 32);
        refuses("c.lui x1, %", 1048543);
        refuses("c.lui x1, %", 1048576);
        refuses("c.lui x1, %", -1);
        refuses("c.lui x1, %", -32);
        refuses("c.lui x1, %", 4294967295L);
    }

    private static void cLuiOfX2() {
        for (int r = 0; r < 32; r++) {
            if (r == 2) {
                Due.fails("c.lui x2, 1", RANGE, 6);
                Due.fails("c.lui sp, 1", RANGE, 6);
            } else {
                Due.takes("c.lui x" + r + ", 1", 2);
            }
        }
    }

    private static void cSrli() {
        shortNumber("c.srli x8, %", 1, 0, 0x8001, 31, 0x807d);
        register("c.srli %, 1", 8, 15, 2);
    }

    private static void cSrai() {
        shortNumber("c.srai x8, %", 1, 0, 0x8401, 31, 0x847d);
        register("c.srai %, 1", 8, 15, 2);
    }

    private static void cAndi() {
        shortNumber("c.andi x8, %", 1, -32, 0x9801, 31, 0x887d);
        makes("c.andi x8, 0", 2, 0x8801);
        register("c.andi %, 1", 8, 15, 2);
    }

    private static void cSubXorOrAnd() {
        String[] names = {"c.sub", "c.xor", "c.or", "c.and"};
        for (String name : names) {
            register(name + " %, x8", 8, 15, 2);
            register(name + " x8, %", 8, 15, 2);
        }
        makes("c.sub x8, x15", 2, 0x8c1d);
        makes("c.sub x15, x8", 2, 0x8f81);
        makes("c.xor x8, x15", 2, 0x8c3d);
        makes("c.or x8, x15", 2, 0x8c5d);
        makes("c.and x15, x8", 2, 0x8fe1);
    }

    private static void cBeqz() {
        target("c.beqz x8, %", 2, -256, 0xd001, 254, 0xcc7d);
        makes("c.beqz x8, 0", 2, 0xc001);
        register("c.beqz %, 2", 8, 15, 2);
    }

    private static void cBnez() {
        target("c.bnez x8, %", 2, -256, 0xf001, 254, 0xec7d);
        makes("c.bnez x8, 0", 2, 0xe001);
        register("c.bnez %, 2", 8, 15, 2);
    }

    private static void cSlli() {
        shortNumber("c.slli x1, %", 1, 0, 0x0082, 31, 0x00fe);
        register("c.slli %, 1", 0, 31, 2);
    }

    private static void cLwsp() {
        shortNumber("c.lwsp x1, %(sp)", 4, 0, 0x4082, 252, 0x50fe);
        register("c.lwsp %, 4(sp)", 1, 31, 2);
        register("c.lwsp x1, 4(%)", 2, 2, 2);
    }

    private static void cSwsp() {
        shortNumber("c.swsp x1, %(sp)", 4, 0, 0xc006, 252, 0xdf86);
        register("c.swsp %, 4(sp)", 0, 31, 2);
        register("c.swsp x1, 4(%)", 2, 2, 2);
    }

    private static void cJrAndJalr() {
        register("c.jr %", 1, 31, 2);
        register("c.jalr %", 1, 31, 2);
        makes("c.jr x1", 2, 0x8082);
        makes("c.jr x31", 2, 0x8f82);
        makes("c.jalr x1", 2, 0x9082);
        makes("c.jalr x31", 2, 0x9f82);
    }

    private static void cMvAndAdd() {
        register("c.mv %, x1", 0, 31, 2);
        register("c.mv x1, %", 1, 31, 2);
        register("c.add %, x1", 0, 31, 2);
        register("c.add x1, %", 1, 31, 2);
        makes("c.mv x1, x31", 2, 0x80fe);
        makes("c.add x31, x1", 2, 0x9f86);
    }

    private static void cEbreak() {
        makes("c.ebreak", 2, 0x9002);
    }

    // "li rd, NUMBER (-2147483648 .. 4294967295 .. addi alone from -2048 to 2047, lui alone with the lowest 12 bits 0)"

    private static void li(String number, int bytes, long first, long second) {
        TranslatingHost x = Due.takes("li x1, " + number, bytes);
        Due.is("li " + number + ": the first", x.word(0x1000), first);
        Due.is("li " + number + ": the second", x.word(0x1004), second);
        Due.is("li " + number + ": behind", x.word(0x1008), 0);
        x.set(1, 0x55555555);
        x.set(32, 0x1000);
        x.run(bytes / 4);
        Due.is("li " + number + ": x1", x.reg(1), (int) Long.parseLong(number));
    }

    private static void liIsAddiFromMinus2048To2047() {
        li("-2048", 4, 0x80000093L, 0);
        li("-1", 4, 0xfff00093L, 0);
        li("0", 4, 0x00000093, 0);
        li("2047", 4, 0x7ff00093, 0);
    }

    private static void liIsTwoJustBesideAddi() {
        li("-2049", 8, 0xfffff0b7L, 0x7ff08093);
        li("2048", 8, 0x000010b7, 0x80008093L);
    }

    private static void liIsLuiWithTheLowest12Bits0() {
        li("4096", 4, 0x000010b7, 0);
        li("-4096", 4, 0xfffff0b7L, 0);
        li("2147479552", 4, 0x7ffff0b7, 0);
        li("-2147483648", 4, 0x800000b7L, 0);
        li("2147483648", 4, 0x800000b7L, 0);
        li("4294963200", 4, 0xfffff0b7L, 0);
    }

    private static void liIsTwoJustBesideLui() {
        li("4095", 8, 0x000010b7, 0xfff08093L);
        li("4097", 8, 0x000010b7, 0x00108093);
        li("-4095", 8, 0xfffff0b7L, 0x00108093);
        li("-4097", 8, 0xfffff0b7L, 0xfff08093L);
    }

    private static void liOfItsLeastAndGreatest() {
        li("-2147483648", 4, 0x800000b7L, 0);
        li("-2147483647", 8, 0x800000b7L, 0x00108093);
        li("4294967295", 4, 0xfff00093L, 0);
        li("4294965248", 4, 0x80000093L, 0);
        li("4294965247", 8, 0xfffff0b7L, 0x7ff08093);
        Due.fails("li x1, -2147483649", RANGE, 7);
        Due.fails("li x1, -4294967295", RANGE, 7);
        Due.fails("li x1, 4294967296", 3, 7);
    }

    private static void liWhereLuisNumberIsOneMore() {
        li("2147483647", 8, 0x800000b7L, 0xfff08093L);
        li("2147481600", 8, 0x800000b7L, 0x80008093L);
        li("2147481599", 8, 0x7ffff0b7, 0x7ff08093);
        li("6143", 8, 0x000010b7, 0x7ff08093);
        li("6144", 8, 0x000020b7, 0x80008093L);
    }

    // nop, mv, ret

    private static void nopAndMvAndRet() {
        makes("nop", 4, 0x13);
        makes("mv x1, x2", 4, 0x00010093);
        makes("ret", 4, 0x00008067);
    }

    // ".word (-2147483648 .. 4294967295). .half, .byte likewise (-32768 .. 65535, -128 .. 255)"

    private static void words() {
        makes(".word -2147483648", 4, 0x80000000L);
        makes(".word 4294967295", 4, 0xffffffffL);
        Due.fails(".word -2147483649", RANGE, 6);
        Due.fails(".word -4294967295", RANGE, 6);
        Due.fails(".word 4294967296", 3, 6);
        Due.fails(".word 1, -2147483649", RANGE, 9);
    }

    private static void halves() {
        makes(".half -32768", 2, 0x8000);
        makes(".half 65535", 2, 0xffff);
        refuses(".half %", -32769);
        refuses(".half %", 65536);
        refuses(".half 1, 2, %", -32769);
        refuses(".half 1, 2, %", 65536);
        farNumbers(".half %");
    }

    private static void bytes() {
        makes(".byte -128", 1, 0x80);
        makes(".byte 255", 1, 0xff);
        refuses(".byte %", -129);
        refuses(".byte %", 256);
        refuses(".byte 1, 2, %", -129);
        refuses(".byte 1, 2, %", 256);
        farNumbers(".byte %");
    }

    private static void aListOfOneAndOfMore() {
        Due.takes(".word 1", 4);
        Due.takes(".word 1, 2", 8);
        Due.takes(".half 1, 2, 3", 6);
        Due.takes(".byte 1, 2, 3, 4, 5", 5);
        Due.fails(".word", 3, 5);
        Due.fails(".half", 3, 5);
        Due.fails(".byte", 3, 5);
        Due.fails(".word ,", 3, 6);
    }

    // ".space NUMBER (0 .. 4096: so many bytes 0)"

    private static void space() {
        Due.takes(".space 0", 0);
        Due.takes(".space 1", 1);
        Due.takes(".space 4096", 4096);
        refuses(".space %", -1);
        refuses(".space %", 4097);
        farNumbers(".space %");
    }

    private static void spaceWritesJustItsBytes() {
        TranslatingHost x = new TranslatingHost();
        x.load(0x100, -1, -1, -1, -1);
        Due.is("bytes", Due.assemble(x, 0x102, ".space 7"), 7);
        Due.is("word(100)", x.word(0x100), 0xffff);
        Due.is("word(104)", x.word(0x104), 0);
        Due.is("word(108)", x.word(0x108), 0xffffff00L);
        TranslatingHost none = new TranslatingHost();
        none.load(0x100, -1, -1, -1, -1);
        Due.is("no bytes", Due.assemble(none, 0x104, ".space 0"), 0);
        Due.is("word(104)", none.word(0x104), 0xffffffffL);
    }

    // ".align NUMBER (0 .. 12: bytes 0 up to a multiple of 2 to that)"

    private static void align() {
        Due.takes(".align 0", 0);
        Due.takes(".align 12", 0);
        refuses(".align %", -1);
        refuses(".align %", 13);
        refuses(".align %", 32);
        farNumbers(".align %");
    }

    private static void alignOfEachPower() {
        for (int power = 0; power <= 12; power++) {
            int unit = 1 << power;
            TranslatingHost x = new TranslatingHost();
            Due.is(".align " + power + " at a multiple", Due.assemble(x, 0x2000, ".align " + power), 0);
            Due.is(".align " + power + " behind one", Due.assemble(x, 0x2000, ".byte 1\n.align " + power), unit);
            Due.is(".align " + power + " before one", Due.assemble(x, 0x2ffe, ".byte 1\n.align " + power),
                power == 0 ? 1 : 2);
        }
    }

    private static void alignWritesBytes0() {
        TranslatingHost x = new TranslatingHost();
        x.load(0x100, -1, -1, -1, -1);
        Due.is("bytes", Due.assemble(x, 0x102, ".align 3"), 6);
        Due.is("word(100)", x.word(0x100), 0xffff);
        Due.is("word(104)", x.word(0x104), 0);
        Due.is("word(108)", x.word(0x108), 0xffffffffL);
    }
}
