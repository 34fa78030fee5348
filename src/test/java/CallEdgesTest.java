/** The edges of promises 1 to 10, 12 and 20 to 22: each call at its last good argument and its first wrong one. */
public final class CallEdgesTest {
    private static final int NONE = TranslatingHost.NONE;
    private static final int LEAST = Integer.MIN_VALUE;
    private static final int GREATEST = Integer.MAX_VALUE;
    private static final int[] CSRS = {
        0x100, 0x104, 0x105, 0x140, 0x141, 0x142, 0x143, 0x144, 0x180, 0xc00, 0xc01, 0xc02, 0xc80, 0xc81, 0xc82,
    };

    public static void main(String[] args) {
        Edges.run(CallEdgesTest.class);
    }

    private static TranslatingHost fresh() {
        return new TranslatingHost();
    }

    // "An object is used for at most 512 calls"

    private static void theCalls511And512AnswerAsTheFirst() {
        TranslatingHost x = fresh();
        for (int call = 1; call <= 510; call++) {
            x.set(1, call);
        }
        Due.is("call 511", x.reg(1), 510);
        Due.is("call 512", x.reg(33), 1);
    }

    private static void theMostStepsThat512CallsCanDo() {
        TranslatingHost x = fresh();
        x.load(0, 0x0000006f, 0, 0, 0);
        for (int call = 2; call <= 510; call++) {
            Due.is("run", x.run(100000), 100000);
        }
        Due.is("TIME", x.count(0), 50900000);
        Due.is("reset()", x.reset(), 50900000);
    }

    // "where they are told as without sign they are 0 .. 2^32 - 1"

    private static void wordIsWithoutSign() {
        TranslatingHost x = fresh();
        x.load(0, GREATEST, LEAST, -1, 0);
        Due.is("the greatest int", x.word(0), 0x7fffffffL);
        Due.is("the least int", x.word(4), 0x80000000L);
        Due.is("-1", x.word(8), 0xffffffffL);
        Due.is("0", x.word(12), 0);
    }

    private static void diskIsWithoutSign() {
        TranslatingHost x = fresh();
        x.write(0, 0, GREATEST);
        x.write(0, 1, LEAST);
        x.write(0, 2, -1);
        Due.is("the greatest int", x.disk(0, 0), 0x7fffffffL);
        Due.is("the least int", x.disk(0, 1), 0x80000000L);
        Due.is("-1", x.disk(0, 2), 0xffffffffL);
    }

    private static void csrIsWithoutSign() {
        Due.is("the greatest int", scratch(GREATEST), 0x7fffffffL);
        Due.is("the least int", scratch(LEAST), 0x80000000L);
        Due.is("-1", scratch(-1), 0xffffffffL);
    }

    private static long scratch(int v) {
        TranslatingHost x = Due.with("csrrw x0, sscratch, x1");
        x.set(1, v);
        x.run(1);
        return x.csr(0x140);
    }

    private static void wordsLieLowestByteFirst() {
        TranslatingHost x = Due.with("lbu x1, 256(x0)\nlbu x2, 257(x0)\nlbu x3, 258(x0)\nlbu x4, 259(x0)");
        x.load(256, 0x44332211, 0, 0, 0);
        x.run(4);
        Due.is("byte 0", x.reg(1), 0x11);
        Due.is("byte 1", x.reg(2), 0x22);
        Due.is("byte 2", x.reg(3), 0x33);
        Due.is("byte 3", x.reg(4), 0x44);
    }

    // "Promise 1: All is 0, but COMPARE; LEVEL S; no INPUT, OUTPUT"

    private static void newRegistersAre0() {
        TranslatingHost x = fresh();
        for (int r = 0; r <= 32; r++) {
            Due.is("reg(" + r + ")", x.reg(r), 0);
        }
    }

    private static void newLevelIsS() {
        Due.is("reg(33)", fresh().reg(33), 1);
    }

    private static void newCsrsAre0() {
        TranslatingHost x = fresh();
        for (int number : CSRS) {
            Due.is("csr(" + number + ")", x.csr(number), 0);
        }
    }

    private static void newCountsAre0() {
        TranslatingHost x = fresh();
        for (int what = 0; what <= 6; what++) {
            Due.is("count(" + what + ")", x.count(what), 0);
        }
    }

    private static void newMemoryIs0FromTheFirstWordToTheLast() {
        for (int from = 0; from < 262144; from += 2048) {
            TranslatingHost x = fresh();
            for (int at = from; at < from + 2048; at += 4) {
                if (x.word(at) != 0) {
                    Due.is("word(" + at + ")", x.word(at), 0);
                }
            }
        }
        Due.is("word(262140)", fresh().word(262140), 0);
    }

    private static void newDiskIs0FromTheFirstWordToTheLast() {
        for (int sector = 0; sector < 64; sector++) {
            TranslatingHost x = fresh();
            for (int i = 0; i < 128; i++) {
                if (x.disk(sector, i) != 0) {
                    Due.is("disk(" + sector + ", " + i + ")", x.disk(sector, i), 0);
                }
            }
        }
        Due.is("disk(63, 127)", fresh().disk(63, 127), 0);
    }

    private static void newCompareIsAllOnes() {
        TranslatingHost x = Due.after(3, "lui x1, 0x10000\nlw x2, 0x108(x1)\nlw x3, 0x10c(x1)");
        Due.is("lower half", x.reg(2), -1);
        Due.is("upper half", x.reg(3), -1);
    }

    private static void newDiskRegistersAre0() {
        TranslatingHost x = Due.with("lui x1, 0x10000\nlw x2, 0x300(x1)\nlw x3, 0x304(x1)\nlw x4, 0x308(x1)");
        x.set(2, 5);
        x.set(3, 5);
        x.set(4, 5);
        x.run(4);
        Due.is("SECTOR", x.reg(2), 0);
        Due.is("PLACE", x.reg(3), 0);
        Due.is("ACT", x.reg(4), 0);
    }

    private static void newHasNoReservation() {
        TranslatingHost x = Due.after(1, "sc.w x3, x0, (x0)");
        Due.is("sc.w at 0", x.reg(3), 1);
    }

    private static void newHasNoOutput() {
        Due.is("out(0)", fresh().out(0), NONE);
    }

    private static void newHasNoInput() {
        TranslatingHost x = Due.after(2, "lui x1, 0x10000\nlw x2, 0(x1)");
        Due.is("DATA", x.reg(2), -1);
    }

    private static void newTapeIsEmpty() {
        Due.is("end(20)", fresh().end(20), NONE);
        Due.is("assemble(0)", fresh().assemble(0), 0);
    }

    private static void newHasNoPlace() {
        Due.is("place()", fresh().place(), NONE);
    }

    private static void newHasNoLabel() {
        Due.is("label(0)", fresh().label(0), NONE);
    }

    private static void newHasNothingTold() {
        Due.is("told(0)", fresh().told(0), NONE);
    }

    // "Promise 2: it is no multiple of 4, or they would not all lie in MEMORY"

    private static void loadTakesAddress0() {
        TranslatingHost x = fresh();
        Due.is("load(0, ..)", x.load(0, 1, 2, 3, 4), 4);
        Due.is("word(0)", x.word(0), 1);
        Due.is("word(4)", x.word(4), 2);
        Due.is("word(8)", x.word(8), 3);
        Due.is("word(12)", x.word(12), 4);
        Due.is("word(16)", x.word(16), 0);
        Due.is("word(262140)", x.word(262140), 0);
    }

    private static void loadTakesTheLastPlaceWhereAllLie() {
        TranslatingHost x = fresh();
        Due.is("load(262128, ..)", x.load(262128, 1, 2, 3, 4), 4);
        Due.is("word(262124)", x.word(262124), 0);
        Due.is("word(262128)", x.word(262128), 1);
        Due.is("word(262140)", x.word(262140), 4);
        Due.is("word(0)", x.word(0), 0);
    }

    private static void loadRefusesTheFirstPlaceWhereNotAllLie() {
        refusesLoad(262132);
    }

    private static void loadRefusesWhereOnlyOneWordLies() {
        refusesLoad(262140);
    }

    private static void loadRefusesTheEndOfMemory() {
        refusesLoad(262144);
    }

    private static void loadRefusesWhatEndsAtAddress0() {
        refusesLoad(-4);
        refusesLoad(-12);
        refusesLoad(-16);
    }

    private static void loadRefusesTheLeastAndTheGreatestAddress() {
        refusesLoad(LEAST);
        refusesLoad(GREATEST);
        refusesLoad(0x7ffffffc);
        refusesLoad(0x7ffffff0);
    }

    private static void loadRefusesNoMultipleOf4() {
        refusesLoad(1);
        refusesLoad(2);
        refusesLoad(3);
        refusesLoad(262125);
        refusesLoad(262126);
        refusesLoad(262127);
    }

    private static void loadRefusesADevice() {
        refusesLoad(0x10000000);
    }

    private static void refusesLoad(int address) {
        TranslatingHost x = fresh();
        x.load(262128, 9, 9, 9, 9);
        x.load(0, 9, 9, 9, 9);
        Due.is("load(" + address + ", ..)", x.load(address, 5, 6, 7, 8), NONE);
        for (int i = 0; i < 16; i += 4) {
            Due.is("word(" + i + ") after load(" + address + ", ..)", x.word(i), 9);
            Due.is("word behind load(" + address + ", ..)", x.word(262128 + i), 9);
        }
        Due.is("word(262124) after load(" + address + ", ..)", x.word(262124), 0);
    }

    // "Promise 3: Register r (1 .. 31), or pc (32) .. NONE: another r"

    private static void setTakesTheFirstRegister() {
        takesSet(1);
    }

    private static void setTakesTheLastRegister() {
        takesSet(31);
    }

    private static void setTakesPc() {
        takesSet(32);
    }

    private static void takesSet(int r) {
        int[] values = {0, 1, -1, LEAST, GREATEST};
        for (int v : values) {
            TranslatingHost x = fresh();
            x.set(r, 5);
            Due.is("set(" + r + ", " + v + ")", x.set(r, v), 1);
            for (int other = 0; other <= 32; other++) {
                Due.is("reg(" + other + ") after set(" + r + ", " + v + ")", x.reg(other), other == r ? v : 0);
            }
        }
    }

    private static void setRefuses0() {
        refusesSet(0);
    }

    private static void setRefuses33() {
        refusesSet(33);
    }

    private static void setRefusesNegativeOnes() {
        refusesSet(-1);
        refusesSet(-31);
        refusesSet(LEAST);
    }

    private static void setRefusesGreatOnes() {
        refusesSet(34);
        refusesSet(64);
        refusesSet(GREATEST);
    }

    private static void refusesSet(int r) {
        TranslatingHost x = fresh();
        Due.is("set(" + r + ", 0)", x.set(r, 0), NONE);
        Due.is("set(" + r + ", 7)", x.set(r, 7), NONE);
        for (int other = 0; other <= 32; other++) {
            Due.is("reg(" + other + ") after set(" + r + ", 7)", x.reg(other), 0);
        }
        Due.is("reg(33) after set(" + r + ", 7)", x.reg(33), 1);
    }

    // "Promise 4: A byte (0 .. 255) .. NONE: it is none, or INPUT has 200"

    private static void keyTakesTheLeastByte() {
        takesKey(0);
    }

    private static void keyTakesTheGreatestByte() {
        takesKey(255);
    }

    private static void takesKey(int b) {
        TranslatingHost x = Due.with("lui x1, 0x10000\nlw x2, 0(x1)");
        x.set(2, 77);
        Due.is("key(" + b + ")", x.key(b), 1);
        x.run(2);
        Due.is("the byte", x.reg(2), b);
    }

    private static void keyRefusesWhatIsNoByte() {
        int[] wrong = {-1, 256, LEAST, GREATEST, -256, 511};
        for (int b : wrong) {
            TranslatingHost x = fresh();
            Due.is("key(" + b + ")", x.key(b), NONE);
            Due.is("count(4) after key(" + b + ")", x.count(4), 0);
            Due.is("key(3) after key(" + b + ")", x.key(3), 1);
        }
    }

    private static TranslatingHost withKeys(int n) {
        TranslatingHost x = fresh();
        x.load(0, 0x100000b7, 0x0000a103, 0x0000006f, 0);
        for (int i = 1; i <= n; i++) {
            Due.is("key " + i, x.key(i & 255), i);
        }
        return x;
    }

    private static void keyTakesThe200th() {
        Due.is("count(4)", withKeys(200).count(4), 200);
    }

    private static void keyRefusesThe201st() {
        TranslatingHost x = withKeys(200);
        Due.is("key 201", x.key(1), NONE);
        Due.is("key 201 again", x.key(255), NONE);
        Due.is("count(4)", x.count(4), 200);
    }

    private static void keyTakesOneAgainWhenOneHasGone() {
        TranslatingHost x = withKeys(200);
        x.run(2);
        Due.is("the first byte goes", x.reg(2), 1);
        Due.is("count(4)", x.count(4), 199);
        Due.is("the 200th again", x.key(9), 200);
        Due.is("the 201st again", x.key(9), NONE);
    }

    private static void theByteBehindAFullInputIsTheLastRead() {
        TranslatingHost x = withKeys(200);
        Due.assemble(x, 0, "lui x1, 0x10000\nlw x2, 0(x1)\nj -4");
        x.run(2);
        x.key(99);
        x.run(2 * 199);
        Due.is("byte 200", x.reg(2), 200);
        x.run(2);
        Due.is("the byte that came behind", x.reg(2), 99);
        x.run(2);
        Due.is("behind all", x.reg(2), -1);
    }

    // "Promise 5: Up to n STEPS (0 .. 100000), as long as the machine is not HALTED .. NONE: n is none such"

    private static TranslatingHost looping() {
        return Due.with("j 0");
    }

    private static void runOf0DoesNothing() {
        TranslatingHost x = looping();
        Due.is("run(0)", x.run(0), 0);
        Due.is("TIME", x.count(0), 0);
    }

    private static void runOf1DoesOne() {
        TranslatingHost x = looping();
        Due.is("run(1)", x.run(1), 1);
        Due.is("TIME", x.count(0), 1);
    }

    private static void runTakes100000() {
        TranslatingHost x = looping();
        Due.is("run(100000)", x.run(100000), 100000);
        Due.is("TIME", x.count(0), 100000);
        Due.is("INSTRET", x.count(1), 100000);
    }

    private static void runRefuses100001() {
        refusesRun(100001);
    }

    private static void runRefusesNegativeOnes() {
        refusesRun(-1);
        refusesRun(LEAST);
    }

    private static void runRefusesTheGreatest() {
        refusesRun(GREATEST);
    }

    private static void refusesRun(int n) {
        TranslatingHost x = looping();
        Due.is("run(" + n + ")", x.run(n), NONE);
        Due.is("TIME after run(" + n + ")", x.count(0), 0);
    }

    private static TranslatingHost halting() {
        return Due.with("lui x1, 0x10000\nsw x1, 0x200(x1)\nnop");
    }

    private static void runEndsBehindTheStepThatHalts() {
        TranslatingHost x = halting();
        Due.is("run(3)", x.run(3), 2);
        Due.is("pc", x.reg(32), 8);
    }

    private static void runMayEndJustWithTheStepThatHalts() {
        TranslatingHost x = halting();
        Due.is("run(2)", x.run(2), 2);
        Due.is("HALTED", x.count(5), 1);
    }

    private static void runMayEndJustBeforeTheStepThatHalts() {
        TranslatingHost x = halting();
        Due.is("run(1)", x.run(1), 1);
        Due.is("not HALTED", x.count(5), 0);
        Due.is("run(100000)", x.run(100000), 1);
    }

    private static void runOfAHaltedMachineDoes0() {
        TranslatingHost x = halting();
        x.run(2);
        Due.is("run(0)", x.run(0), 0);
        Due.is("run(1)", x.run(1), 0);
        Due.is("run(100000)", x.run(100000), 0);
        Due.is("TIME", x.count(0), 2);
    }

    private static void runOfAHaltedMachineStillRefuses() {
        TranslatingHost x = halting();
        x.run(2);
        Due.is("run(-1)", x.run(-1), NONE);
        Due.is("run(100001)", x.run(100001), NONE);
    }

    // "Promise 6: Register r, pc (32), the LEVEL (33); -1 for others"

    private static void regOf0IsAlways0() {
        TranslatingHost x = Due.with("addi x0, x1, 1\nlw x0, 0(x0)\nlui x0, 1\njal x0, 4\ncsrrs x0, time, x0\nc.li x0, 5");
        x.set(1, 9);
        for (int i = 0; i < 6; i++) {
            x.run(1);
            Due.is("reg(0)", x.reg(0), 0);
        }
        Due.is("TRAPS", x.count(2), 0);
    }

    private static void regTellsTheLastRegisterAndPcAndLevel() {
        TranslatingHost x = fresh();
        x.set(31, 31);
        x.set(32, 32);
        Due.is("reg(31)", x.reg(31), 31);
        Due.is("reg(32)", x.reg(32), 32);
        Due.is("reg(33)", x.reg(33), 1);
    }

    private static void regTellsLevelU() {
        Due.is("reg(33)", Due.after(1, "sret").reg(33), 0);
    }

    private static void regOfOthersIsMinus1() {
        int[] others = {-1, 34, LEAST, GREATEST, -32, 64};
        for (int r : others) {
            Due.is("reg(" + r + ")", fresh().reg(r), -1);
        }
    }

    // "Promise 7: A CSR, as an instruction would read it at LEVEL S; NONE as a long (-1) when there is none such"

    private static void csrIsThereForItsNumbersAlone() {
        TranslatingHost x = fresh();
        for (int number = -2; number < 4100; number++) {
            if (number % 400 == 0) {
                x = fresh();
            }
            boolean some = false;
            for (int known : CSRS) {
                some |= known == number;
            }
            if (x.csr(number) != (some ? 0 : -1)) {
                Due.is("csr(" + number + ")", x.csr(number), some ? 0 : -1);
            }
        }
        Due.is("csr(4096)", x.csr(4096), -1);
    }

    private static void csrRefusesTheNeighboursOfEach() {
        int[] wrong = {
            0xff, 0x101, 0x103, 0x106, 0x13f, 0x145, 0x17f, 0x181, 0xbff, 0xc03, 0xc7f, 0xc83, -1, 0, 0xfff, 0x1000, 0x1100,
            0x10100, LEAST, GREATEST, LEAST | 0x100, 0xfffff100,
        };
        for (int number : wrong) {
            Due.is("csr(" + number + ")", fresh().csr(number), -1);
        }
    }

    private static void csrIsReadAsAtLevelSWhenTheLevelIsU() {
        TranslatingHost x = Due.with("csrrw x0, sscratch, x1\nsret");
        x.set(1, 8);
        x.run(2);
        Due.is("LEVEL", x.reg(33), 0);
        Due.is("sscratch", x.csr(0x140), 8);
        Due.is("sstatus", x.csr(0x100), 1 << 5);
    }

    private static void csrOfTimeIsThatOfNow() {
        TranslatingHost x = looping();
        x.run(7);
        Due.is("cycle", x.csr(0xc00), 7);
        Due.is("time", x.csr(0xc01), 7);
        Due.is("instret", x.csr(0xc02), 7);
        Due.is("cycleh", x.csr(0xc80), 0);
        Due.is("timeh", x.csr(0xc81), 0);
        Due.is("instreth", x.csr(0xc82), 0);
    }

    // "Promise 8: -1 when it is no multiple of 4, or none"

    private static void wordTakesTheFirstAndTheLast() {
        TranslatingHost x = fresh();
        x.load(0, 1, 0, 0, 0);
        x.load(262128, 0, 0, 0, 2);
        Due.is("word(0)", x.word(0), 1);
        Due.is("word(262140)", x.word(262140), 2);
    }

    private static void wordRefusesTheFirstBehindMemory() {
        Due.is("word(262144)", fresh().word(262144), -1);
    }

    private static void wordRefusesTheLastBeforeMemory() {
        Due.is("word(-4)", fresh().word(-4), -1);
    }

    private static void wordRefusesNoMultipleOf4() {
        int[] wrong = {1, 2, 3, 5, 262137, 262138, 262139, 262141, 262142, 262143};
        for (int address : wrong) {
            Due.is("word(" + address + ")", fresh().word(address), -1);
        }
    }

    private static void wordRefusesDevicesAndFarAddresses() {
        int[] wrong = {0x10000000, 0x10000100, 0x10000200, LEAST, GREATEST, 0x7ffffffc, -1};
        for (int address : wrong) {
            Due.is("word(" + address + ")", fresh().word(address), -1);
        }
    }

    // "Promise 9: .. -1 for others"

    private static void countOfOthersIsMinus1() {
        int[] others = {-1, 7, LEAST, GREATEST};
        for (int what : others) {
            Due.is("count(" + what + ")", fresh().count(what), -1);
        }
    }

    private static void countOfTrapsHasInterruptsToo() {
        TranslatingHost x = Due.with("csrrw x0, sie, x1\ncsrrwi x0, sstatus, 2\nnop");
        x.set(1, 1 << 9);
        x.key(1);
        x.run(2);
        Due.is("before", x.count(2), 0);
        x.run(1);
        Due.is("the INTERRUPT", x.count(2), 1);
        x.set(32, 1);
        x.run(1);
        Due.is("a TRAP", x.count(2), 2);
    }

    private static void countOfOutputHasThoseThatAreNotKept() {
        TranslatingHost x = putting(1001);
        Due.is("count(3)", x.count(3), 1001);
    }

    private static void countOfTheCodeIsAnInt() {
        Due.is("CODE -1", halted(-1).count(6), -1);
        Due.is("CODE least", halted(LEAST).count(6), LEAST);
        Due.is("CODE greatest", halted(GREATEST).count(6), GREATEST);
    }

    private static void haltWith0IsAHaltToo() {
        TranslatingHost x = halted(0);
        Due.is("HALTED", x.count(5), 1);
        Due.is("CODE", x.count(6), 0);
    }

    private static TranslatingHost halted(int code) {
        TranslatingHost x = Due.with("lui x1, 0x10000\nsw x2, 0x200(x1)");
        x.set(2, code);
        x.run(1);
        Due.is("CODE before", x.count(6), 0);
        Due.is("HALTED before", x.count(5), 0);
        x.run(1);
        return x;
    }

    // "Promise 10: NONE when there is none, or it is not kept"

    /** After so many bytes of OUTPUT: 1, 2, 3 and so on. */
    private static TranslatingHost putting(int bytes) {
        TranslatingHost x = Due.with("lui x1, 0x10000\naddi x2, x2, 1\nsw x2, 0(x1)\nj -8");
        x.run(3 * bytes);
        return x;
    }

    private static void outTellsTheOnlyByte() {
        TranslatingHost x = putting(1);
        Due.is("out(0)", x.out(0), 1);
        Due.is("out(1)", x.out(1), NONE);
    }

    private static void outTellsTheLastThatThereIs() {
        TranslatingHost x = putting(255);
        Due.is("out(254)", x.out(254), 255);
        Due.is("out(255)", x.out(255), NONE);
    }

    private static void outTellsTheLastThatIsKept() {
        TranslatingHost x = putting(1000);
        Due.is("out(999)", x.out(999), 1000 & 255);
        Due.is("out(1000)", x.out(1000), NONE);
        Due.is("count(3)", x.count(3), 1000);
    }

    private static void outRefusesTheFirstThatIsNotKept() {
        TranslatingHost x = putting(1002);
        Due.is("out(0)", x.out(0), 1);
        Due.is("out(1)", x.out(1), 2);
        Due.is("out(999)", x.out(999), 1000 & 255);
        Due.is("out(1000)", x.out(1000), NONE);
        Due.is("out(1001)", x.out(1001), NONE);
    }

    private static void outRefusesNegativeAndFarOnes() {
        TranslatingHost x = putting(3);
        Due.is("out(-1)", x.out(-1), NONE);
        Due.is("out(least)", x.out(LEAST), NONE);
        Due.is("out(greatest)", x.out(GREATEST), NONE);
    }

    // "Promise 12: The machine is as at first, MEMORY, THE TAPE, labels, place(), told() stay"

    private static void resetOfANewOneIs0() {
        TranslatingHost x = fresh();
        Due.is("reset()", x.reset(), 0);
        Due.is("reset() again", x.reset(), 0);
    }

    private static void resetTellsTheStepsSinceTheLastOne() {
        TranslatingHost x = looping();
        x.run(5);
        Due.is("reset()", x.reset(), 5);
        x.run(3);
        Due.is("reset() again", x.reset(), 3);
    }

    private static void resetCountsStepsThatTrap() {
        TranslatingHost x = Due.after(4, "ecall");
        Due.is("reset()", x.reset(), 4);
    }

    private static void resetTakesRegistersAndPc() {
        TranslatingHost x = fresh();
        for (int r = 1; r <= 32; r++) {
            x.set(r, -r);
        }
        x.reset();
        for (int r = 0; r <= 32; r++) {
            Due.is("reg(" + r + ")", x.reg(r), 0);
        }
    }

    private static void resetBringsLevelS() {
        TranslatingHost x = Due.after(1, "sret");
        x.reset();
        Due.is("reg(33)", x.reg(33), 1);
    }

    private static void resetTakesEachCsr() {
        TranslatingHost x = fresh();
        Due.assemble(x, 0, "csrrw x0, sstatus, x1\ncsrrw x0, sie, x1\ncsrrw x0, stvec, x1\ncsrrw x0, sscratch, x1\n"
            + "csrrw x0, sepc, x1\ncsrrw x0, scause, x1\ncsrrw x0, stval, x1\ncsrrw x0, satp, x1");
        x.set(1, 0x7fdfffff & ~2);
        x.run(8);
        Due.is("TRAPS", x.count(2), 0);
        Due.is("satp before", x.csr(0x180), 0x7fdffffd);
        Due.is("stval before", x.csr(0x143), 0x7fdffffd);
        x.reset();
        for (int number : CSRS) {
            Due.is("csr(" + number + ")", x.csr(number), 0);
        }
    }

    private static void resetTakesInputAndOutput() {
        TranslatingHost x = putting(2);
        x.key(5);
        x.reset();
        Due.is("INPUT", x.count(4), 0);
        Due.is("OUTPUT", x.count(3), 0);
        Due.is("out(0)", x.out(0), NONE);
        Due.is("key", x.key(6), 1);
    }

    private static void resetBeginsAllCountsAnew() {
        TranslatingHost x = Due.with("lui x1, 0x10000\nsw x1, 0(x1)\ncsrrw x0, stvec, x2\necall\nsw x1, 0x200(x1)");
        x.set(2, 16);
        x.key(1);
        x.run(100);
        for (int what = 0; what <= 6; what++) {
            Due.yes("count(" + what + ") before", x.count(what) > 0);
        }
        x.reset();
        for (int what = 0; what <= 6; what++) {
            Due.is("count(" + what + ")", x.count(what), 0);
        }
    }

    private static void resetLetsAHaltedMachineRun() {
        TranslatingHost x = halting();
        x.run(9);
        Due.is("reset()", x.reset(), 2);
        Due.is("run(9)", x.run(9), 2);
    }

    private static void resetBringsCompareBack() {
        TranslatingHost x = Due.with("lui x1, 0x10000\nlw x2, 0x108(x1)\nlw x3, 0x10c(x1)\nsw x0, 0x108(x1)\nsw x0, 0x10c(x1)");
        x.run(5);
        Due.is("PENDING", x.csr(0x144), 1 << 5);
        x.reset();
        Due.is("not PENDING", x.csr(0x144), 0);
        x.run(3);
        Due.is("lower half", x.reg(2), -1);
        Due.is("upper half", x.reg(3), -1);
    }

    private static void resetTakesTheDisksRegisters() {
        TranslatingHost x = Due.with("lui x1, 0x10000\nlw x2, 0x300(x1)\nlw x3, 0x304(x1)\nlw x4, 0x308(x1)\n"
            + "li x5, 8\nsw x5, 0x300(x1)\nsw x5, 0x304(x1)\nli x5, 2\nsw x5, 0x308(x1)\nlw x6, 0x308(x1)");
        x.run(10);
        Due.is("ACT before", x.reg(6), 1);
        x.reset();
        x.set(2, 7);
        x.set(3, 7);
        x.set(4, 7);
        x.run(4);
        Due.is("SECTOR", x.reg(2), 0);
        Due.is("PLACE", x.reg(3), 0);
        Due.is("ACT", x.reg(4), 0);
    }

    private static void resetKeepsTheDisk() {
        TranslatingHost x = fresh();
        x.write(0, 0, 5);
        x.write(63, 127, 6);
        x.reset();
        Due.is("disk(0, 0)", x.disk(0, 0), 5);
        Due.is("disk(63, 127)", x.disk(63, 127), 6);
    }

    private static void resetKeepsMemory() {
        TranslatingHost x = fresh();
        x.load(0, 5, 0, 0, 0);
        x.load(262128, 0, 0, 0, 6);
        x.reset();
        Due.is("word(0)", x.word(0), 5);
        Due.is("word(262140)", x.word(262140), 6);
    }

    private static void resetKeepsTheTape() {
        TranslatingHost x = fresh();
        Due.feed(x, "nop\nnop\nnop\nnop\nnop\n");
        x.reset();
        Due.is("end(8)", x.end(8), 8);
        Due.is("assemble(0)", x.assemble(0), 8);
    }

    private static void resetKeepsLabels() {
        TranslatingHost x = Due.with("nop\na: nop");
        x.reset();
        Due.is("label(0)", x.label(0), 4);
        Due.is("label(1)", x.label(1), NONE);
    }

    private static void resetKeepsThePlace() {
        TranslatingHost x = fresh();
        Due.assemble(x, 0, "nop\nbad");
        x.reset();
        Due.is("place()", x.place(), 4);
    }

    private static void resetKeepsWhatIsTold() {
        TranslatingHost x = Due.with("ecall");
        x.tell(0);
        x.reset();
        Due.is("told", Due.told(x), "ecall");
    }

    private static void resetTakesTheReservation() {
        TranslatingHost x = Due.with("lr.w x1, (x0)\nsc.w x3, x0, (x0)");
        x.run(1);
        x.reset();
        x.set(32, 4);
        x.run(1);
        Due.is("sc.w", x.reg(3), 1);
    }

    // "Promise 20, 21: -1, NONE when there is none such"

    private static void diskTakesItsFourCorners() {
        int[][] corners = {{0, 0}, {0, 127}, {63, 0}, {63, 127}};
        for (int[] at : corners) {
            TranslatingHost x = fresh();
            Due.is("write(" + at[0] + ", " + at[1] + ", 5)", x.write(at[0], at[1], 5), 1);
            for (int[] other : corners) {
                Due.is("disk(" + other[0] + ", " + other[1] + ")", x.disk(other[0], other[1]), other == at ? 5 : 0);
            }
        }
    }

    private static void diskRefusesTheSector64() {
        refusesDisk(64, 0);
        refusesDisk(64, 127);
    }

    private static void diskRefusesTheSectorMinus1() {
        refusesDisk(-1, 0);
        refusesDisk(-1, 127);
    }

    private static void diskRefusesTheWord128() {
        refusesDisk(0, 128);
        refusesDisk(62, 128);
        refusesDisk(63, 128);
    }

    private static void diskRefusesTheWordMinus1() {
        refusesDisk(0, -1);
        refusesDisk(1, -1);
        refusesDisk(63, -1);
    }

    private static void diskRefusesFarOnes() {
        refusesDisk(LEAST, 0);
        refusesDisk(GREATEST, 0);
        refusesDisk(0, LEAST);
        refusesDisk(0, GREATEST);
        refusesDisk(1 << 25, 0);
        refusesDisk(-1, 128);
    }

    private static void refusesDisk(int sector, int i) {
        TranslatingHost x = fresh();
        Due.is("disk(" + sector + ", " + i + ")", x.disk(sector, i), -1);
        Due.is("write(" + sector + ", " + i + ", 7)", x.write(sector, i, 7), NONE);
        int[][] near = {{0, 0}, {0, 127}, {1, 0}, {62, 127}, {63, 0}, {63, 127}};
        for (int[] at : near) {
            Due.is("disk(" + at[0] + ", " + at[1] + ") after it", x.disk(at[0], at[1]), 0);
        }
    }

    // "What it comes to is told by single steps, whatever the host does to be quicker"

    private static void oneRunIsAsManySingleSteps() {
        String[] programs = {
            "addi x5, x5, 1\nsw x6, 0(x0)\nj -8",
            "li x7, 0x00130313\nloop: addi x6, x6, 2\nsw x7, 8(x0)\nc.addi x5, 1\nc.j loop",
            "csrrwi x0, stvec, 4\necall\naddi x5, x5, 1\nj -8",
            "lui x1, 0x10000\nsw x5, 0(x1)\naddi x5, x5, 3\nlw x6, 0(x1)\nj -12",
            "lui x1, 0x10000\naddi x5, x5, 1\nslti x6, x5, 9\nbne x6, x0, -8\nsw x5, 0x200(x1)",
        };
        for (String program : programs) {
            TranslatingHost whole = Due.with(program);
            TranslatingHost threes = Due.with(program);
            TranslatingHost single = Due.with(program);
            long steps = whole.run(60);
            long byThrees = 0;
            long bySingle = 0;
            for (int i = 0; i < 60; i++) {
                bySingle += single.run(1);
                byThrees += i < 20 ? threes.run(3) : 0;
            }
            Due.is("steps by threes", byThrees, steps);
            Due.is("single steps", bySingle, steps);
            for (int r = 0; r <= 33; r++) {
                Due.is("reg(" + r + ") by threes", threes.reg(r), whole.reg(r));
                Due.is("reg(" + r + ") by single steps", single.reg(r), whole.reg(r));
            }
            for (int what = 0; what <= 6; what++) {
                Due.is("count(" + what + ") by threes", threes.count(what), whole.count(what));
                Due.is("count(" + what + ") by single steps", single.count(what), whole.count(what));
            }
            Due.is("check()", whole.check(), 1);
        }
    }

    // "Promise 22: 1; it would tell 0"

    private static void checkOfANewOneIs1() {
        Due.is("check()", fresh().check(), 1);
    }

    private static void checkIs1WhenEachWayHasWrittenTheNextInstruction() {
        TranslatingHost x = Due.after(2, "sw x0, 4(x0)\nnop\nj -8");
        Due.is("check() after a store", x.check(), 1);
        x.load(0, 0x0000006f, 0, 0, 0);
        Due.is("check() after load()", x.check(), 1);
        x.run(3);
        Due.assemble(x, 0, "nop\nj -4");
        Due.is("check() after assemble()", x.check(), 1);
        x.run(3);
        x.reset();
        Due.is("check() after reset()", x.check(), 1);
    }
}
