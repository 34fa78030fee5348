import java.math.BigInteger;

/** The edges of sections 1 and 2: fetching, and the instructions of 32 bits (promise 5). */
public final class StepEdgesTest {
    private static final int LEAST = Integer.MIN_VALUE;
    private static final int GREATEST = Integer.MAX_VALUE;

    public static void main(String[] args) {
        Edges.run(StepEdgesTest.class);
    }

    /** One step of a statement with x1 = a, x2 = b, x3 = 33. */
    private static TranslatingHost step(String statement, int a, int b) {
        TranslatingHost x = Due.with(statement);
        x.set(1, a);
        x.set(2, b);
        x.set(3, 33);
        x.run(1);
        return x;
    }

    private static void computes(String name, int a, int b, int want) {
        TranslatingHost x = step(name + " x3, x1, x2", a, b);
        Due.is(name + " of " + a + ", " + b, x.reg(3), want);
        Due.is(name + " is RETIRED", x.count(1), 1);
    }

    private static void computesWith(String name, int a, int number, int want) {
        TranslatingHost x = step(name + " x3, x1, " + number, a, 0);
        Due.is(name + " of " + a + ", " + number, x.reg(3), want);
        Due.is(name + " is RETIRED", x.count(1), 1);
    }

    private static void traps(String what, TranslatingHost x, int cause, int value) {
        Due.is(what + ": INSTRET", x.count(1), 0);
        Due.is(what + ": TRAPS", x.count(2), 1);
        Due.is(what + ": scause", x.csr(0x142), cause);
        Due.is(what + ": stval", x.csr(0x143), value & 0xffffffffL);
        Due.is(what + ": x3", x.reg(3), 33);
    }

    private static TranslatingHost word(int bits) {
        TranslatingHost x = new TranslatingHost();
        x.load(0x200, bits, 0, 0, 0);
        x.set(1, 0x100);
        x.set(3, 33);
        x.set(32, 0x200);
        x.run(1);
        return x;
    }

    private static void illegal(int bits) {
        String what = "word " + Integer.toHexString(bits);
        TranslatingHost x = word(bits);
        traps(what, x, 2, bits);
        Due.is(what + ": sepc", x.csr(0x141), 0x200);
        Due.is(what + ": x1", x.reg(1), 0x100);
        Due.is(what + ": MEMORY", x.word(0x100), 0);
    }

    private static void legal(int bits) {
        TranslatingHost x = word(bits);
        String what = "word " + Integer.toHexString(bits);
        Due.is(what + " is RETIRED", x.count(1), 1);
        Due.is(what + ": TRAPS", x.count(2), 0);
    }

    private static void legalIf(boolean some, int bits) {
        if (some) {
            legal(bits);
        } else {
            illegal(bits);
        }
    }

    private static TranslatingHost at(int pc) {
        TranslatingHost x = new TranslatingHost();
        x.set(3, 33);
        x.set(32, pc);
        return x;
    }

    // "x0 (always 0)"

    private static void x0StaysByEachWayOfWritingIt() {
        String[] statements = {
            "lui x0, 1", "auipc x0, 1", "jal x0, 8", "jalr x0, 8(x1)", "lb x0, 0(x1)", "lh x0, 0(x1)", "lw x0, 0(x1)",
            "lbu x0, 0(x1)", "lhu x0, 0(x1)", "addi x0, x1, 1", "slti x0, x0, 1", "slli x0, x1, 1", "add x0, x1, x1",
            "sub x0, x1, x2", "mul x0, x1, x1", "div x0, x1, x1", "rem x0, x1, x2", "lr.w x0, (x1)", "sc.w x0, x1, (x1)",
            "amoadd.w x0, x1, (x1)", "csrrw x0, sscratch, x1", "csrrsi x0, time, 0", "c.addi x0, 1", "c.li x0, 1",
            "c.lui x0, 1", "c.mv x0, x1", "c.add x0, x1", "c.slli x0, 1",
        };
        for (String statement : statements) {
            TranslatingHost x = Due.with(statement);
            x.load(0x100, -1, -1, -1, -1);
            x.set(1, 0x100);
            x.set(2, 7);
            x.run(1);
            Due.is(statement + ": reg(0)", x.reg(0), 0);
            Due.is(statement + " is RETIRED", x.count(1), 1);
        }
    }

    private static void x0IsReadAs0() {
        Due.is("add x3, x0, x0", step("add x3, x0, x0", 5, 5).reg(3), 0);
        Due.is("sw x0", step("sw x0, 0(x1)", 0, 0).word(0), 0);
        Due.is("beq x0, x1 of 0", step("beq x0, x1, 8", 0, 0).reg(32), 8);
    }

    private static void x31IsTheLast() {
        TranslatingHost x = step("add x31, x1, x2", 5, 6);
        Due.is("x31", x.reg(31), 11);
        TranslatingHost y = Due.with("add x3, x31, x31");
        y.set(31, 4);
        y.run(1);
        Due.is("x31 twice", y.reg(3), 8);
    }

    // "TIME is how many STEPS were done since reset(), INSTRET how many instructions were RETIRED of these"

    private static void aStepThatTrapsCountsForTimeAlone() {
        TranslatingHost x = at(1);
        x.run(1);
        Due.is("TIME", x.count(0), 1);
        Due.is("INSTRET", x.count(1), 0);
    }

    private static void theStepThatHaltsIsRetired() {
        TranslatingHost x = step("sw x2, 0(x1)", 0x10000200, 1);
        Due.is("TIME", x.count(0), 1);
        Due.is("INSTRET", x.count(1), 1);
    }

    // "If pc is odd: TRAP 0 with value pc"

    private static void pcOf1IsOdd() {
        oddPc(1);
    }

    private static void pcOfTheLastByteIsOdd() {
        oddPc(0x3ffff);
    }

    private static void anOddPcIsAheadOfItsPlace() {
        oddPc(0x40001);
        oddPc(-1);
        oddPc(0x10000001);
        oddPc(LEAST + 1);
        oddPc(GREATEST);
    }

    private static void oddPc(int pc) {
        TranslatingHost x = at(pc);
        x.run(1);
        traps("pc " + pc, x, 0, pc);
        Due.is("sepc of " + pc, x.csr(0x141), (pc - 1) & 0xffffffffL);
    }

    private static void anEvenPcIsNotOdd() {
        TranslatingHost x = at(2);
        x.load(0, 0x00010000, 0, 0, 0);
        x.run(1);
        Due.is("TRAPS", x.count(2), 0);
        Due.is("pc", x.reg(32), 4);
    }

    // "Two bytes at pc are fetched; if their lowest two bits are both 1, the two behind, too"

    private static void lowestBits00And01And10AreOf16Bits() {
        int[] halves = {0x4000, 0x0001, 0x8006};
        for (int half : halves) {
            TranslatingHost x = at(0x200);
            x.load(0x200, half | 0xffff0000, 0, 0, 0);
            x.run(1);
            Due.is("half " + half, x.reg(32), 0x202);
        }
    }

    private static void lowestBits11AreOf32Bits() {
        TranslatingHost x = at(0x200);
        x.load(0x200, 0x13, 0, 0, 0);
        x.run(1);
        Due.is("pc", x.reg(32), 0x204);
    }

    private static void oneOf32BitsMayLieAcrossTwoWords() {
        TranslatingHost x = new TranslatingHost();
        x.load(0x200, 0x00930000, 0x00010090, 0, 0);
        x.set(32, 0x202);
        x.run(1);
        Due.is("addi x1, x0, 9", x.reg(1), 9);
        Due.is("pc", x.reg(32), 0x206);
    }

    private static void theLastHalfOfMemoryMayBeOneOf16Bits() {
        TranslatingHost x = at(0x3fffe);
        x.load(0x3fff0, 0, 0, 0, 0x00010000);
        x.run(1);
        Due.is("TRAPS", x.count(2), 0);
        Due.is("pc", x.reg(32), 0x40000);
    }

    private static void theLastHalfOfMemoryMayNotBeginOneOf32Bits() {
        TranslatingHost x = at(0x3fffe);
        x.load(0x3fff0, 0, 0, 0, 0x00130000);
        x.run(1);
        traps("the two behind", x, 1, 0x40000);
        Due.is("sepc", x.csr(0x141), 0x3fffe);
    }

    private static void theLastWordOfMemoryMayBeOneOf32Bits() {
        TranslatingHost x = at(0x3fffc);
        x.load(0x3fff0, 0, 0, 0, 0x13);
        x.run(1);
        Due.is("TRAPS", x.count(2), 0);
        Due.is("pc", x.reg(32), 0x40000);
        x.run(1);
        Due.is("the step behind it: scause", x.csr(0x142), 1);
        Due.is("the step behind it: stval", x.csr(0x143), 0x40000);
    }

    private static void theFirstFetchBehindMemoryTraps() {
        TranslatingHost x = at(0x40000);
        x.run(1);
        traps("pc 40000", x, 1, 0x40000);
    }

    private static void theLastFetchBeforeMemoryTraps() {
        TranslatingHost x = at(-2);
        x.run(1);
        traps("pc -2", x, 1, -2);
    }

    private static void aFetchOfEachDeviceTraps() {
        int[] devices = {0, 4, 0x100, 0x104, 0x108, 0x10c, 0x200, 0x300, 0x304, 0x308};
        for (int d : devices) {
            TranslatingHost x = at(0x10000000 + d);
            x.key(1);
            x.run(1);
            traps("pc at device " + d, x, 1, 0x10000000 + d);
            Due.is("INPUT stays", x.count(4), 1);
        }
    }

    // "All others: TRAP 2 with the word as value"

    private static void eachOpcodeThatIsNotToldTraps() {
        int[] known = {0x37, 0x17, 0x6f, 0x67, 0x63, 0x03, 0x23, 0x13, 0x33, 0x2f, 0x0f, 0x73};
        for (int opcode = 3; opcode < 128; opcode += 4) {
            boolean some = false;
            for (int k : known) {
                some |= k == opcode;
            }
            if (!some) {
                illegal(opcode);
                illegal(0xffffff80 | opcode);
            }
        }
        illegal(-1);
    }

    private static void jalrHasFunct3Of0Alone() {
        for (int f = 0; f < 8; f++) {
            legalIf(f == 0, 0x67 | f << 12);
        }
    }

    private static void branchesHaveNoFunct3Of2And3() {
        for (int f = 0; f < 8; f++) {
            legalIf(f != 2 && f != 3, 0x63 | f << 12);
        }
    }

    private static void loadsHaveNoFunct3Of3And6And7() {
        for (int f = 0; f < 8; f++) {
            legalIf(f < 3 || f == 4 || f == 5, 0x03 | f << 12);
        }
    }

    private static void storesHaveFunct3UpTo2() {
        for (int f = 0; f < 8; f++) {
            legalIf(f < 3, 0x23 | f << 12);
        }
    }

    private static void slliHasFunct7Of0Alone() {
        for (int f = 0; f < 128; f++) {
            legalIf(f == 0, 0x1013 | f << 25);
        }
    }

    private static void srliAndSraiHaveFunct7Of0And20Alone() {
        for (int f = 0; f < 128; f++) {
            legalIf(f == 0 || f == 0x20, 0x5013 | f << 25);
        }
    }

    private static void eachFunct7AndFunct3WithRegisters() {
        for (int f7 = 0; f7 < 128; f7++) {
            for (int f3 = 0; f3 < 8; f3++) {
                boolean some = f7 == 0 || f7 == 1 || f7 == 0x20 && (f3 == 0 || f3 == 5);
                legalIf(some, 0x33 | f7 << 25 | f3 << 12);
            }
        }
    }

    private static void atomicsHaveFunct3Of2Alone() {
        for (int f = 0; f < 8; f++) {
            legalIf(f == 2, 0x0000802f | f << 12);
        }
    }

    private static void eachKindOfAtomics() {
        int[] known = {0x02, 0x03, 0x01, 0x00, 0x04, 0x0c, 0x08, 0x10, 0x14, 0x18, 0x1c};
        for (int kind = 0; kind < 32; kind++) {
            boolean some = false;
            for (int k : known) {
                some |= k == kind;
            }
            for (int any = 0; any < 4; any++) {
                legalIf(some, 0x0000a02f | kind << 27 | any << 25);
            }
        }
    }

    private static void lrHasRs2Of0Alone() {
        for (int rs2 = 0; rs2 < 32; rs2++) {
            legalIf(rs2 == 0, 0x1000a02f | rs2 << 20);
        }
    }

    private static void fencesHaveFunct3Of0And1Alone() {
        for (int f = 0; f < 8; f++) {
            legalIf(f < 2, 0x0f | f << 12);
            legalIf(f < 2, 0xffff8f8f | f << 12);
        }
    }

    private static void wholeWordsOf73AreThemselvesAlone() {
        int[] words = {0x00000073, 0x00100073, 0x10200073, 0x10500073};
        for (int w : words) {
            for (int bit = 7; bit < 32; bit++) {
                int other = w ^ 1 << bit;
                boolean known = other == 0x73 || other == 0x00100073 || (other & 0xfe007fff) == 0x12000073;
                if ((bit < 12 || bit > 14) && !known) {
                    illegal(other);
                }
            }
        }
    }

    private static void sfenceHasAnyRs1AndRs2() {
        for (int r = 0; r < 32; r++) {
            legal(0x12000073 | r << 15);
            legal(0x12000073 | r << 20);
        }
        legal(0x13ff8073);
    }

    private static void sfenceHasRdOf0Alone() {
        for (int rd = 1; rd < 32; rd++) {
            illegal(0x12000073 | rd << 7);
        }
    }

    private static void sfenceHasFunct7Of9Alone() {
        int[] wrong = {1, 2, 0x0a, 0x0b, 0x19, 0x49, 0x29, 0x0d};
        for (int f : wrong) {
            illegal(0x00000073 | f << 25);
        }
    }

    private static void funct3Of4IsNoCsrInstruction() {
        illegal(0x14004073);
        illegal(0x1400c0f3);
    }

    // "I, S, B, U, J immediates with sign"

    private static void addiHasNumbersWithSign() {
        computesWith("addi", 0, -2048, -2048);
        computesWith("addi", 0, 2047, 2047);
        computesWith("addi", 0, -1, -1);
        computesWith("addi", GREATEST, 1, LEAST);
        computesWith("addi", LEAST, -1, GREATEST);
    }

    private static void loadsHaveNumbersWithSign() {
        TranslatingHost x = Due.with("lw x3, -2048(x1)\nlbu x4, 2047(x1)");
        x.load(0x1000, 11, 0, 0, 0);
        x.load(0x1ff0, 0, 0, 0, 0x16000000);
        x.set(1, 0x1800);
        x.run(2);
        Due.is("-2048", x.reg(3), 11);
        Due.is("2047", x.reg(4), 0x16);
    }

    private static void storesHaveNumbersWithSign() {
        TranslatingHost x = Due.with("sw x2, -2048(x1)\nsb x2, 2047(x1)\nsb x2, -1(x1)\nsb x2, 31(x1)\nsb x2, 32(x1)");
        x.set(1, 0x1800);
        x.set(2, 0x55);
        x.run(5);
        Due.is("-2048", x.word(0x1000), 0x55);
        Due.is("2047", x.word(0x1ffc), 0x55000000);
        Due.is("-1", x.word(0x17fc), 0x55000000);
        Due.is("31", x.word(0x181c), 0x55000000);
        Due.is("32", x.word(0x1820), 0x55);
    }

    private static void anAddressWrapsAround() {
        TranslatingHost x = Due.with("lw x3, 4(x1)\nsw x1, 8(x1)");
        x.load(0, 0x0040a183, 0x0010a423, 0, 0);
        x.set(1, -4);
        x.run(2);
        Due.is("a load at 0", x.reg(3), 0x0040a183);
        Due.is("a store at 4", x.word(4), 0xfffffffcL);
        TranslatingHost y = step("lw x3, -4(x1)", 0, 0);
        traps("a load at -4", y, 5, -4);
    }

    private static void luiAndAuipcHaveTheHighest20Bits() {
        Due.is("lui 0", step("lui x3, 0", 0, 0).reg(3), 0);
        Due.is("lui 1", step("lui x3, 1", 0, 0).reg(3), 0x1000);
        Due.is("lui 524288", step("lui x3, 524288", 0, 0).reg(3), LEAST);
        Due.is("lui 1048575", step("lui x3, 1048575", 0, 0).reg(3), 0xfffff000);
        Due.is("auipc 1048575", step("auipc x3, 1048575", 0, 0).reg(3), 0xfffff000);
        TranslatingHost x = Due.after(2, "nop\nauipc x3, 1048575");
        Due.is("auipc behind 4", x.reg(3), 0xfffff004);
    }

    private static void auipcWrapsAround() {
        TranslatingHost x = new TranslatingHost();
        Due.assemble(x, 0x2000, "auipc x3, 1048574");
        x.set(32, 0x2000);
        x.run(1);
        Due.is("2000 less 2000", x.reg(3), 0);
    }

    private static void jalHasEachBitOfItsDistance() {
        for (int bit = 2; bit <= 524288; bit *= 2) {
            jumps("jal x3, " + bit, bit);
        }
        jumps("jal x3, 1048574", 1048574);
        jumps("jal x3, -1048576", -1048576);
        jumps("jal x3, -2", -2);
        jumps("jal x3, 0", 0);
    }

    private static void jumps(String statement, int distance) {
        TranslatingHost x = new TranslatingHost();
        Due.assemble(x, 0x200, statement);
        x.set(32, 0x200);
        x.run(1);
        Due.is(statement + ": pc", x.reg(32), 0x200 + distance);
        Due.is(statement + ": link", x.reg(3), 0x204);
    }

    private static void branchesHaveEachBitOfTheirDistance() {
        int[] distances = {2, 4, 8, 16, 32, 64, 128, 256, 512, 1024, 2048, 4094, -4096, -2, 0};
        for (int d : distances) {
            TranslatingHost x = new TranslatingHost();
            Due.assemble(x, 0x200, "bgeu x0, x0, " + d);
            x.set(32, 0x200);
            x.run(1);
            Due.is("bgeu " + d, x.reg(32), 0x200 + d);
        }
    }

    private static void jalrClearsBit0OfItsTarget() {
        Due.is("100 + 1", step("jalr x0, 1(x1)", 0x100, 0).reg(32), 0x100);
        Due.is("101 + 0", step("jalr x0, 0(x1)", 0x101, 0).reg(32), 0x100);
        Due.is("101 + 1", step("jalr x0, 1(x1)", 0x101, 0).reg(32), 0x102);
        Due.is("100 + 2", step("jalr x0, 2(x1)", 0x100, 0).reg(32), 0x102);
    }

    private static void jalrsTargetWrapsAround() {
        Due.is("-1 + 1", step("jalr x0, 1(x1)", -1, 0).reg(32), 0);
        Due.is("0 - 1", step("jalr x0, -1(x1)", 0, 0).reg(32), -2);
        Due.is("greatest + 1", step("jalr x0, 1(x1)", GREATEST, 0).reg(32), LEAST);
        Due.is("2047", step("jalr x0, 2047(x0)", 0, 0).reg(32), 2046);
        Due.is("-2048", step("jalr x0, -2048(x0)", 0, 0).reg(32), -2048);
    }

    private static void jalrOfItsOwnLinkReadsFirst() {
        TranslatingHost x = step("jalr x1, 0(x1)", 0x100, 0);
        Due.is("pc", x.reg(32), 0x100);
        Due.is("link", x.reg(1), 4);
    }

    private static void aJumpToABadPlaceTrapsInTheNextStepOnly() {
        TranslatingHost x = Due.with("jal x3, -4");
        x.run(1);
        Due.is("TRAPS", x.count(2), 0);
        Due.is("pc", x.reg(32), -4);
        x.run(1);
        Due.is("scause", x.csr(0x142), 1);
        Due.is("sepc", x.csr(0x141), 0xfffffffcL);
    }

    // Comparisons where they turn

    private static void branch(String name, int a, int b, boolean taken) {
        Due.is(name + " of " + a + ", " + b, step(name + " x1, x2, 64", a, b).reg(32), taken ? 64 : 4);
    }

    private static void branchesTurnAtEquality() {
        int[] values = {LEAST, -1, 0, 1, GREATEST};
        for (int v : values) {
            branch("beq", v, v, true);
            branch("bne", v, v, false);
            branch("blt", v, v, false);
            branch("bge", v, v, true);
            branch("bltu", v, v, false);
            branch("bgeu", v, v, true);
        }
    }

    private static void branchesTurnOneBesideEquality() {
        branch("beq", 5, 6, false);
        branch("bne", 5, 6, true);
        branch("blt", 5, 6, true);
        branch("blt", 6, 5, false);
        branch("bge", 5, 6, false);
        branch("bge", 6, 5, true);
        branch("bltu", 5, 6, true);
        branch("bltu", 6, 5, false);
        branch("bgeu", 5, 6, false);
        branch("bgeu", 6, 5, true);
    }

    private static void branchesAcrossTheSign() {
        branch("blt", LEAST, GREATEST, true);
        branch("blt", GREATEST, LEAST, false);
        branch("bge", LEAST, GREATEST, false);
        branch("bge", GREATEST, LEAST, true);
        branch("bltu", LEAST, GREATEST, false);
        branch("bltu", GREATEST, LEAST, true);
        branch("bgeu", LEAST, GREATEST, true);
        branch("bgeu", GREATEST, LEAST, false);
        branch("bltu", 0, -1, true);
        branch("bltu", -1, 0, false);
        branch("blt", -1, 0, true);
        branch("blt", 0, -1, false);
    }

    private static void sltTurnsAtEquality() {
        computes("slt", 5, 5, 0);
        computes("slt", 5, 6, 1);
        computes("slt", 6, 5, 0);
        computes("slt", LEAST, GREATEST, 1);
        computes("slt", GREATEST, LEAST, 0);
        computes("sltu", 5, 5, 0);
        computes("sltu", 5, 6, 1);
        computes("sltu", GREATEST, LEAST, 1);
        computes("sltu", LEAST, GREATEST, 0);
        computes("sltu", 0, -1, 1);
        computes("sltu", -1, 0, 0);
    }

    private static void sltiTurnsAtItsNumbersEnds() {
        computesWith("slti", -2049, -2048, 1);
        computesWith("slti", -2048, -2048, 0);
        computesWith("slti", 2046, 2047, 1);
        computesWith("slti", 2047, 2047, 0);
        computesWith("sltiu", 0xfffff7ff, -2048, 1);
        computesWith("sltiu", 0xfffff800, -2048, 0);
        computesWith("sltiu", 0, -1, 1);
        computesWith("sltiu", -1, -1, 0);
        computesWith("sltiu", 0, 1, 1);
        computesWith("sltiu", 1, 1, 0);
    }

    private static void logicHasNumbersWithSign() {
        computesWith("xori", 0x12345678, -1, ~0x12345678);
        computesWith("xori", 0, -2048, -2048);
        computesWith("ori", 0, -2048, -2048);
        computesWith("ori", 0, 2047, 2047);
        computesWith("andi", -1, -2048, -2048);
        computesWith("andi", -1, 2047, 2047);
    }

    // Shifts by 0, 31 and more

    private static void shiftsBy0And31() {
        computesWith("slli", 0x80000001, 0, 0x80000001);
        computesWith("slli", 3, 31, LEAST);
        computesWith("srli", LEAST, 0, LEAST);
        computesWith("srli", LEAST, 31, 1);
        computesWith("srai", LEAST, 0, LEAST);
        computesWith("srai", LEAST, 31, -1);
        computesWith("srai", GREATEST, 30, 1);
        computesWith("srai", GREATEST, 31, 0);
    }

    private static void shiftsByARegisterTakeItsLowest5Bits() {
        computes("sll", 5, 31, LEAST);
        computes("sll", 5, 32, 5);
        computes("sll", 5, 33, 10);
        computes("sll", 5, -1, LEAST);
        computes("srl", LEAST, 31, 1);
        computes("srl", LEAST, 32, LEAST);
        computes("srl", LEAST, -1, 1);
        computes("sra", LEAST, 31, -1);
        computes("sra", LEAST, 32, LEAST);
        computes("sra", LEAST, -1, -1);
    }

    // Sums and products that wrap around

    private static void sumsWrapAround() {
        computes("add", GREATEST, 1, LEAST);
        computes("add", LEAST, -1, GREATEST);
        computes("add", LEAST, LEAST, 0);
        computes("sub", LEAST, 1, GREATEST);
        computes("sub", GREATEST, -1, LEAST);
        computes("sub", 0, LEAST, LEAST);
    }

    private static void productsOfTheEnds() {
        int[][] pairs = {
            {LEAST, LEAST}, {LEAST, -1}, {-1, LEAST}, {-1, -1}, {GREATEST, GREATEST}, {LEAST, GREATEST}, {GREATEST, LEAST},
            {-1, 1}, {1, -1}, {0, -1}, {-1, 0}, {GREATEST, -1}, {-1, GREATEST}, {65536, 65536}, {LEAST, 2}, {2, LEAST},
        };
        for (int[] p : pairs) {
            BigInteger a = BigInteger.valueOf(p[0]);
            BigInteger b = BigInteger.valueOf(p[1]);
            BigInteger ua = BigInteger.valueOf(p[0] & 0xffffffffL);
            BigInteger ub = BigInteger.valueOf(p[1] & 0xffffffffL);
            computes("mul", p[0], p[1], a.multiply(b).intValue());
            computes("mulh", p[0], p[1], a.multiply(b).shiftRight(32).intValue());
            computes("mulhsu", p[0], p[1], a.multiply(ub).shiftRight(32).intValue());
            computes("mulhu", p[0], p[1], ua.multiply(ub).shiftRight(32).intValue());
        }
    }

    // "by 0: all bits 1, the rest the first number; the least number by -1: itself, rest 0"

    private static void divisionBy0IsAllBits1() {
        int[] values = {0, 1, -1, LEAST, GREATEST};
        for (int v : values) {
            computes("div", v, 0, -1);
            computes("divu", v, 0, -1);
        }
    }

    private static void restBy0IsTheFirstNumber() {
        int[] values = {0, 1, -1, LEAST, GREATEST};
        for (int v : values) {
            computes("rem", v, 0, v);
            computes("remu", v, 0, v);
        }
    }

    private static void theLeastByMinus1IsItselfAndRest0() {
        computes("div", LEAST, -1, LEAST);
        computes("rem", LEAST, -1, 0);
    }

    private static void oneBesideTheLeastByMinus1() {
        computes("div", LEAST + 1, -1, GREATEST);
        computes("rem", LEAST + 1, -1, 0);
        computes("div", LEAST, 1, LEAST);
        computes("div", LEAST, -2, 0x40000000);
        computes("div", GREATEST, -1, -GREATEST);
    }

    private static void divisionWithoutSignOfTheSame() {
        computes("divu", LEAST, -1, 0);
        computes("remu", LEAST, -1, LEAST);
        computes("divu", -1, LEAST, 1);
        computes("remu", -1, LEAST, GREATEST);
        computes("divu", -1, 1, -1);
        computes("divu", -1, -1, 1);
    }

    private static void divisionCutsTowards0() {
        computes("div", 7, 2, 3);
        computes("div", -7, 2, -3);
        computes("div", 7, -2, -3);
        computes("div", -7, -2, 3);
        computes("rem", 7, 2, 1);
        computes("rem", -7, 2, -1);
        computes("rem", 7, -2, 1);
        computes("rem", -7, -2, -1);
    }

    // Loads with and without sign

    private static void loads(String name, int bits, int want) {
        TranslatingHost x = Due.with(name + " x3, 0(x1)");
        x.load(0x100, bits, 0, 0, 0);
        x.set(1, 0x100);
        x.run(1);
        Due.is(name + " of " + Integer.toHexString(bits), x.reg(3), want);
    }

    private static void bytesTurnTheirSignAt80() {
        loads("lb", 0xffffff7f, 0x7f);
        loads("lb", 0x00000080, -128);
        loads("lb", 0x000000ff, -1);
        loads("lbu", 0xffffff7f, 0x7f);
        loads("lbu", 0xffffff80, 0x80);
        loads("lbu", 0xffffffff, 0xff);
    }

    private static void halvesTurnTheirSignAt8000() {
        loads("lh", 0xffff7fff, 0x7fff);
        loads("lh", 0x00008000, -32768);
        loads("lh", 0x0000ffff, -1);
        loads("lhu", 0xffff7fff, 0x7fff);
        loads("lhu", 0xffff8000, 0x8000);
        loads("lhu", 0xffffffff, 0xffff);
    }

    private static void storesOfLessThanAWordKeepTheOthers() {
        for (int i = 0; i < 4; i++) {
            TranslatingHost x = Due.with("sb x2, " + i + "(x1)");
            x.load(0x100, 0x11111111, 0x11111111, 0, 0);
            x.set(1, 0x100);
            x.set(2, 0xffffff80);
            x.run(1);
            Due.is("sb at " + i, x.word(0x100), 0x11111111L & ~(0xffL << 8 * i) | 0x80L << 8 * i);
            Due.is("behind sb at " + i, x.word(0x104), 0x11111111);
        }
        for (int i = 0; i < 4; i += 2) {
            TranslatingHost x = Due.with("sh x2, " + i + "(x1)");
            x.load(0x100, 0x11111111, 0x11111111, 0, 0);
            x.set(1, 0x100);
            x.set(2, 0xffff8000);
            x.run(1);
            Due.is("sh at " + i, x.word(0x100), 0x11111111L & ~(0xffffL << 8 * i) | 0x8000L << 8 * i);
            Due.is("behind sh at " + i, x.word(0x104), 0x11111111);
        }
    }

    // Atomics: what they make at equality and across the sign

    private static void atomic(String name, int old, int v, int want) {
        TranslatingHost x = Due.with(name + " x3, x2, (x1)");
        x.load(0x100, old, 0, 0, 0);
        x.set(1, 0x100);
        x.set(2, v);
        x.run(1);
        Due.is(name + " of " + old + ", " + v + ": rd", x.reg(3), old);
        Due.is(name + " of " + old + ", " + v + " stores", (int) x.word(0x100), want);
    }

    private static void leastAndGreatestOfTheEnds() {
        int[] values = {LEAST, -1, 0, 1, GREATEST};
        for (int a : values) {
            for (int b : values) {
                atomic("amomin.w", a, b, Math.min(a, b));
                atomic("amomax.w", a, b, Math.max(a, b));
                atomic("amominu.w", a, b, Integer.compareUnsigned(a, b) < 0 ? a : b);
                atomic("amomaxu.w", a, b, Integer.compareUnsigned(a, b) < 0 ? b : a);
            }
        }
    }

    private static void amoaddWrapsAround() {
        atomic("amoadd.w", GREATEST, 1, LEAST);
        atomic("amoadd.w", LEAST, -1, GREATEST);
        atomic("amoadd.w", -1, 1, 0);
    }

    private static void eachAmoOfAllItsBits() {
        atomic("amoswap.w", 0x0f0f0f0f, 0x00ff00ff, 0x00ff00ff);
        atomic("amoadd.w", 0x0f0f0f0f, 0x00ff00ff, 0x100e100e);
        atomic("amoxor.w", 0x0f0f0f0f, 0x00ff00ff, 0x0ff00ff0);
        atomic("amoand.w", 0x0f0f0f0f, 0x00ff00ff, 0x000f000f);
        atomic("amoor.w", 0x0f0f0f0f, 0x00ff00ff, 0x0fff0fff);
    }

    private static void atomicsTakeTheFirstAndTheLastWordOfMemory() {
        String[] statements = {"lr.w x3, (x1)", "sc.w x3, x2, (x1)", "amoswap.w x3, x2, (x1)"};
        for (String statement : statements) {
            Due.is(statement + " at 0", step(statement, 0, 0).count(1), 1);
            Due.is(statement + " at 3fffc", step(statement, 0x3fffc, 0).count(1), 1);
        }
    }

    private static void atomicsRefuseTheFirstWordBehindMemoryAndTheLastBefore() {
        int[] outside = {0x40000, -4, 0x0ffffffc, 0x10000008};
        for (int address : outside) {
            traps("lr.w at " + address, step("lr.w x3, (x1)", address, 0), 5, address);
            traps("sc.w at " + address, step("sc.w x3, x2, (x1)", address, 0), 7, address);
            traps("amoor.w at " + address, step("amoor.w x3, x2, (x1)", address, 0), 7, address);
        }
    }

    private static void atomicsRefuseEachDevice() {
        int[] devices = {0, 4, 0x100, 0x104, 0x108, 0x10c, 0x200, 0x300, 0x304, 0x308};
        for (int d : devices) {
            int address = 0x10000000 + d;
            traps("lr.w at device " + d, step("lr.w x3, (x1)", address, 0), 5, address);
            traps("sc.w at device " + d, step("sc.w x3, x2, (x1)", address, 0), 7, address);
            TranslatingHost x = step("amoswap.w x3, x2, (x1)", address, 1);
            traps("amoswap.w at device " + d, x, 7, address);
            Due.is("nothing is done", x.count(3) + x.count(5), 0);
        }
    }

    private static void atomicsRefuseNoMultipleOf4() {
        for (int i = 1; i < 4; i++) {
            int[] places = {0x100 + i, 0x40000 + i, 0x10000000 + i};
            for (int address : places) {
                traps("lr.w at " + address, step("lr.w x3, (x1)", address, 0), 4, address);
                traps("sc.w at " + address, step("sc.w x3, x2, (x1)", address, 0), 6, address);
                traps("amoand.w at " + address, step("amoand.w x3, x2, (x1)", address, 0), 6, address);
            }
        }
    }

    // The RESERVATION, and what takes it

    private static TranslatingHost reserving(String behind) {
        TranslatingHost x = Due.with("lr.w x4, (x1)\n" + behind);
        x.load(0x100, 7, 8, 0, 0);
        x.set(1, 0x100);
        x.set(2, 99);
        x.set(3, 33);
        x.set(5, 0x104);
        return x;
    }

    private static void scStoresAtTheReservation() {
        TranslatingHost x = reserving("sc.w x3, x2, (x1)");
        x.run(2);
        Due.is("rd", x.reg(3), 0);
        Due.is("word", x.word(0x100), 99);
    }

    private static void scStoresNothingOneWordBesideIt() {
        TranslatingHost x = reserving("sc.w x3, x2, (x5)");
        x.run(2);
        Due.is("rd", x.reg(3), 1);
        Due.is("word", x.word(0x104), 8);
    }

    private static void scStoresNothingWithoutLr() {
        TranslatingHost x = step("sc.w x3, x2, (x1)", 0x100, 5);
        Due.is("rd", x.reg(3), 1);
        Due.is("word", x.word(0x100), 0);
    }

    private static void theReservationGoesByAnScThatStores() {
        TranslatingHost x = reserving("sc.w x6, x2, (x1)\nsc.w x3, x5, (x1)");
        x.run(3);
        Due.is("the first", x.reg(6), 0);
        Due.is("the second", x.reg(3), 1);
        Due.is("word", x.word(0x100), 99);
    }

    private static void theReservationGoesByAnScThatDoesNot() {
        TranslatingHost x = reserving("sc.w x6, x2, (x5)\nsc.w x3, x2, (x1)");
        x.run(3);
        Due.is("the first", x.reg(6), 1);
        Due.is("the second", x.reg(3), 1);
        Due.is("word", x.word(0x100), 7);
    }

    private static void theReservationIsThatOfTheLastLr() {
        TranslatingHost x = reserving("lr.w x4, (x5)\nsc.w x6, x2, (x5)");
        x.run(3);
        Due.is("at the last", x.reg(6), 0);
        TranslatingHost y = reserving("lr.w x4, (x5)\nsc.w x6, x2, (x1)");
        y.run(3);
        Due.is("at the first", y.reg(6), 1);
    }

    private static void theReservationStaysByStoresAndAmosAndDevices() {
        String[] between = {"sw x2, 0(x1)", "sb x2, 1(x1)", "amoadd.w x6, x2, (x1)", "sw x2, 4(x1)", "wfi", "fence"};
        for (String statement : between) {
            TranslatingHost x = reserving(statement + "\nsc.w x3, x2, (x1)");
            x.run(3);
            Due.is("sc.w behind " + statement, x.reg(3), 0);
        }
    }

    private static void theReservationGoesByEachKindOfTrap() {
        String[] between = {
            "ecall", "ebreak", ".word 0xffffffff", "lw x6, 1(x1)", "lw x6, -0x104(x1)", "sw x6, 2(x1)", "sw x6, -0x104(x1)",
            "lr.w x6, (x2)", "sc.w x6, x2, (x2)", "amoadd.w x6, x2, (x2)", "csrrw x0, time, x0", "c.ebreak\n.half 0",
        };
        for (String statement : between) {
            TranslatingHost x = reserving(statement + "\nsc.w x3, x2, (x1)");
            x.run(2);
            Due.is(statement + " is a TRAP", x.count(2), 1);
            x.set(32, 8);
            x.run(1);
            Due.is("sc.w behind " + statement, x.reg(3), 1);
        }
    }

    private static void theReservationGoesByATrapOfTheFetch() {
        int[] places = {1, 0x40000, 0x3fffe};
        for (int pc : places) {
            TranslatingHost x = reserving("sc.w x3, x2, (x1)");
            x.load(0x3fff0, 0, 0, 0, 0x00030000);
            x.run(1);
            x.set(32, pc);
            x.run(1);
            Due.is("TRAP of the fetch at " + pc, x.count(2), 1);
            x.set(32, 4);
            x.run(1);
            Due.is("sc.w behind it", x.reg(3), 1);
        }
    }

    private static void theReservationGoesByAnInterrupt() {
        TranslatingHost x = Due.with("csrrw x0, sie, x6\ncsrrw x0, sstatus, x7\nlr.w x4, (x1)\nsc.w x3, x2, (x1)");
        x.set(1, 0x100);
        x.set(6, 1 << 9);
        x.set(7, 2);
        x.run(3);
        x.key(1);
        x.run(1);
        Due.is("the INTERRUPT", x.csr(0x142), 0x80000009L);
        x.set(32, 12);
        x.run(1);
        Due.is("sc.w", x.reg(3), 1);
    }

    private static void theReservationGoesBySret() {
        TranslatingHost x = Due.with("csrrwi x0, sepc, 12\nlr.w x4, (x1)\nsret\nsc.w x3, x2, (x1)");
        x.set(1, 0x100);
        x.run(4);
        Due.is("TRAPS", x.count(2), 0);
        Due.is("sc.w", x.reg(3), 1);
    }

    private static void theReservationGoesByReset() {
        TranslatingHost x = reserving("sc.w x3, x2, (x1)");
        x.run(1);
        x.reset();
        x.set(1, 0x100);
        x.set(32, 4);
        x.run(1);
        Due.is("sc.w", x.reg(3), 1);
    }

    private static void scThatWouldStoreNothingTrapsAllTheSame() {
        traps("crooked", step("sc.w x3, x2, (x1)", 0x102, 0), 6, 0x102);
        traps("outside", step("sc.w x3, x2, (x1)", 0x40000, 0), 7, 0x40000);
    }

    private static void scMayHaveOneRegisterForAll() {
        TranslatingHost x = Due.with("lr.w x4, (x1)\nsc.w x1, x1, (x1)");
        x.set(1, 0x100);
        x.run(2);
        Due.is("rd", x.reg(1), 0);
        Due.is("word", x.word(0x100), 0x100);
    }

    // ECALL, EBREAK and what is TRAP 2 in U

    private static TranslatingHost atU(String statement) {
        TranslatingHost x = Due.with("csrrwi x0, sepc, 8\nsret\n" + statement);
        x.run(2);
        x.set(3, 33);
        Due.is("LEVEL", x.reg(33), 0);
        x.run(1);
        return x;
    }

    private static void ecallIsTrap8FromUAnd9FromS() {
        TranslatingHost s = step("ecall", 0, 0);
        traps("from S", s, 9, 0);
        Due.is("SPP from S", s.csr(0x100) >> 8 & 1, 1);
        TranslatingHost u = atU("ecall");
        Due.is("from U", u.csr(0x142), 8);
        Due.is("from U: value", u.csr(0x143), 0);
        Due.is("SPP from U", u.csr(0x100) >> 8 & 1, 0);
    }

    private static void ebreakHasPcAsValueAtBothLevels() {
        Due.is("from S", Due.after(2, "nop\nebreak").csr(0x143), 4);
        TranslatingHost u = atU("ebreak");
        Due.is("from U: scause", u.csr(0x142), 3);
        Due.is("from U: stval", u.csr(0x143), 8);
    }

    private static void sretAndWfiAndSfenceAreTrap2InUAlone() {
        String[] statements = {"sret", "wfi", "sfence.vma x0, x0", "sfence.vma x31, x31"};
        for (String statement : statements) {
            TranslatingHost u = atU(statement);
            Due.is(statement + " at U: scause", u.csr(0x142), 2);
            Due.is(statement + " at U: stval", u.csr(0x143), u.word(8));
            Due.is(statement + " at S", step(statement, 0, 0).count(1), 1);
        }
    }

    private static void fencesAndAtomicsAreNoTrapInU() {
        String[] statements = {"fence", "fence.i", "lr.w x3, (x0)", "sc.w x3, x0, (x0)", "amoor.w x3, x0, (x0)"};
        for (String statement : statements) {
            Due.is(statement + " at U", atU(statement).count(2), 0);
        }
    }

    // "it TRAPS (then it changes nothing else)"

    private static void aTrapChangesNothingElse() {
        String[] statements = {
            "lw x3, 1(x1)", "lw x3, 0(x2)", "sw x3, 1(x1)", "sw x3, 0(x2)", "amoadd.w x3, x3, (x2)", "lr.w x3, (x2)",
            "sc.w x3, x3, (x2)", "csrrw x3, time, x1", "csrrw x3, 0x300, x1", "ecall", "ebreak",
        };
        for (String statement : statements) {
            TranslatingHost x = Due.with(statement);
            for (int r = 1; r < 32; r++) {
                x.set(r, 0x1000 + r);
            }
            x.set(1, 0x100);
            x.set(2, 0x40000);
            x.run(1);
            Due.is(statement + ": TRAPS", x.count(2), 1);
            Due.is(statement + ": x3", x.reg(3), 0x1003);
            Due.is(statement + ": word", x.word(0x100), 0);
            Due.is(statement + ": pc", x.reg(32), 0);
            Due.is(statement + ": OUTPUT", x.count(3), 0);
        }
    }
}
