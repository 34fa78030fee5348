/** The edges of section 4: CSRs, INTERRUPTS, TRAPS and SRET (promises 5, 7). */
public final class ControlEdgesTest {
    private static final int SIE = 1 << 1;
    private static final int SPIE = 1 << 5;
    private static final int SPP = 1 << 8;
    private static final int SUM = 1 << 18;
    private static final int MXR = 1 << 19;
    private static final int TIMER = 1 << 5;
    private static final int LINE = 1 << 9;
    private static final long TIMER_CAUSE = 0x80000005L;
    private static final long LINE_CAUSE = 0x80000009L;
    private static final int[] WRITABLE = {0x100, 0x104, 0x105, 0x140, 0x141, 0x142, 0x143, 0x144, 0x180};
    private static final int[] TO_READ = {0xc00, 0xc01, 0xc02, 0xc80, 0xc81, 0xc82};

    public static void main(String[] args) {
        Edges.run(ControlEdgesTest.class);
    }

    private static TranslatingHost step(String statement, int x1) {
        TranslatingHost x = Due.with(statement);
        x.set(1, x1);
        x.set(3, 33);
        x.run(1);
        return x;
    }

    private static void illegal(String statement) {
        TranslatingHost x = step(statement, 0);
        Due.is(statement + ": scause", x.csr(0x142), 2);
        Due.is(statement + ": stval", x.csr(0x143), x.word(0));
        Due.is(statement + ": x3", x.reg(3), 33);
    }

    private static void legal(String statement) {
        TranslatingHost x = step(statement, 0);
        Due.is(statement + ": TRAPS", x.count(2), 0);
        Due.is(statement + ": INSTRET", x.count(1), 1);
    }

    // "TRAP 2: there is no such CSR"

    private static boolean isSome(int number) {
        boolean some = false;
        for (int n : WRITABLE) {
            some |= n == number;
        }
        for (int n : TO_READ) {
            some |= n == number;
        }
        return some;
    }

    private static void instructionsReadTheirNumbersAlone() {
        for (int number = 0; number < 4096; number++) {
            TranslatingHost x = new TranslatingHost();
            x.load(0, number << 20 | 0x21f3, 0, 0, 0);
            x.run(1);
            if (x.count(1) != (isSome(number) ? 1 : 0) || !isSome(number) && x.csr(0x142) != 2) {
                Due.is("csrrs x3, " + number + ", x0", x.count(1), isSome(number) ? 1 : 0);
            }
        }
        legal("csrrs x3, sstatus, x0");
    }

    private static void theNeighboursOfEachAreNone() {
        int[] none = {0, 0xff, 0x101, 0x103, 0x106, 0x13f, 0x145, 0x17f, 0x181, 0x1ff, 0xbff, 0xc03, 0xc7f, 0xc83, 0xfff};
        for (int number : none) {
            illegal("csrrs x3, " + number + ", x0");
            illegal("csrrw x3, " + number + ", x1");
            illegal("csrrci x3, " + number + ", 0");
        }
    }

    // "one to read alone would be written"

    private static void oneToReadAloneMayBeRead() {
        for (int number : TO_READ) {
            legal("csrrs x3, " + number + ", x0");
            legal("csrrc x3, " + number + ", x0");
            legal("csrrsi x3, " + number + ", 0");
            legal("csrrci x3, " + number + ", 0");
        }
    }

    private static void oneToReadAloneMayNotBeWritten() {
        for (int number : TO_READ) {
            illegal("csrrw x3, " + number + ", x0");
            illegal("csrrw x0, " + number + ", x1");
            illegal("csrrwi x3, " + number + ", 0");
            illegal("csrrs x3, " + number + ", x1");
            illegal("csrrs x3, " + number + ", x31");
            illegal("csrrc x3, " + number + ", x1");
            illegal("csrrsi x3, " + number + ", 1");
            illegal("csrrci x3, " + number + ", 31");
        }
    }

    // "RW, RWI: always; the others unless rs1, the immediate, is 0"

    private static TranslatingHost withScratch(String statement) {
        TranslatingHost x = Due.with("csrrw x0, sscratch, x1\n" + statement);
        x.set(1, 0xff);
        x.set(2, 0);
        x.run(2);
        Due.is(statement + ": TRAPS", x.count(2), 0);
        return x;
    }

    private static void scratch(String statement, int read, int left) {
        TranslatingHost x = withScratch(statement);
        Due.is(statement + ": rd", x.reg(3), read);
        Due.is(statement + ": sscratch", x.csr(0x140), left);
    }

    private static void rwWritesAlways() {
        scratch("csrrw x3, sscratch, x0", 0xff, 0);
        scratch("csrrw x3, sscratch, x2", 0xff, 0);
        scratch("csrrwi x3, sscratch, 0", 0xff, 0);
        scratch("csrrwi x3, sscratch, 31", 0xff, 31);
    }

    private static void rsAndRcOf0LeaveIt() {
        scratch("csrrs x3, sscratch, x0", 0xff, 0xff);
        scratch("csrrs x3, sscratch, x2", 0xff, 0xff);
        scratch("csrrc x3, sscratch, x0", 0xff, 0xff);
        scratch("csrrsi x3, sscratch, 0", 0xff, 0xff);
        scratch("csrrci x3, sscratch, 0", 0xff, 0xff);
    }

    private static void immediatesFrom0To31() {
        scratch("csrrci x3, sscratch, 31", 0xff, 0xe0);
        scratch("csrrci x3, sscratch, 16", 0xff, 0xef);
        scratch("csrrwi x3, sscratch, 16", 0xff, 16);
        TranslatingHost x = step("csrrsi x3, sscratch, 31", 0);
        Due.is("csrrsi 31", x.csr(0x140), 31);
    }

    private static void rdX0ReadsNothing() {
        TranslatingHost x = withScratch("csrrwi x0, sscratch, 5");
        Due.is("sscratch", x.csr(0x140), 5);
        Due.is("x0", x.reg(0), 0);
    }

    private static void rdMayBeRs1() {
        TranslatingHost x = withScratch("csrrc x1, sscratch, x1");
        Due.is("rd", x.reg(1), 0xff);
        Due.is("sscratch", x.csr(0x140), 0);
    }

    // "one with a number 100 .. 1ff at LEVEL U"

    private static TranslatingHost atU(String statement) {
        TranslatingHost x = Due.with("csrrwi x0, sepc, 8\nsret\n" + statement);
        x.run(2);
        Due.is("LEVEL", x.reg(33), 0);
        x.set(3, 33);
        x.run(1);
        return x;
    }

    private static void atUEachOf100To1ffIsRefused() {
        for (int number : WRITABLE) {
            TranslatingHost x = atU("csrrs x3, " + number + ", x0");
            Due.is("scause of " + number, x.csr(0x142), 2);
            Due.is("stval of " + number, x.csr(0x143), x.word(8));
            Due.is("x3 of " + number, x.reg(3), 33);
        }
    }

    private static void atUOneToReadAloneIsTaken() {
        for (int number : TO_READ) {
            TranslatingHost x = atU("csrrs x3, " + number + ", x0");
            Due.is("TRAPS of " + number, x.count(2), 0);
            Due.is("csr " + number, x.reg(3), number < 0xc80 ? 2 : 0);
            Due.is("csr " + number + " written", atU("csrrw x3, " + number + ", x0").csr(0x142), 2);
        }
    }

    // "Only the bits that are told of sstatus, sie can be set" and what stays 0 of the others

    private static long written(int number, int v) {
        TranslatingHost x = Due.with("csrrw x0, " + number + ", x1");
        x.set(1, v);
        x.run(1);
        Due.is("TRAPS", x.count(2), 0);
        return x.csr(number);
    }

    private static void eachBit(int number, int settable) {
        for (int bit = 0; bit < 32; bit++) {
            long want = (settable >>> bit & 1) == 0 ? 0 : 1L << bit;
            Due.is("bit " + bit + " of " + Integer.toHexString(number), written(number, 1 << bit), want);
        }
        Due.is("all bits of " + Integer.toHexString(number), written(number, -1), settable & 0xffffffffL);
    }

    private static void eachBitOfSstatus() {
        eachBit(0x100, SIE | SPIE | SPP | SUM | MXR);
    }

    private static void eachBitOfSie() {
        eachBit(0x104, TIMER | LINE);
    }

    private static void eachBitOfStvec() {
        eachBit(0x105, ~3);
    }

    private static void eachBitOfSscratch() {
        eachBit(0x140, -1);
    }

    private static void eachBitOfSepc() {
        eachBit(0x141, ~1);
    }

    private static void eachBitOfScause() {
        eachBit(0x142, -1);
    }

    private static void eachBitOfStval() {
        eachBit(0x143, -1);
    }

    private static void eachBitOfSip() {
        eachBit(0x144, 0);
    }

    private static void eachBitOfSatp() {
        eachBit(0x180, -1);
    }

    private static void bitsThatAreSetCanBeClearedAgain() {
        int[] numbers = {0x100, 0x104, 0x105, 0x140, 0x141, 0x142, 0x143};
        for (int number : numbers) {
            TranslatingHost x = Due.with("csrrw x0, " + number + ", x1\ncsrrc x0, " + number + ", x1");
            x.set(1, ~SIE);
            x.run(2);
            Due.is("csr " + number, x.csr(number), 0);
        }
    }

    private static void writingSipLeavesWhatIsPending() {
        TranslatingHost x = Due.with("csrrw x3, sip, x0\ncsrrc x4, sip, x1\ncsrrs x5, sip, x0");
        x.set(1, -1);
        x.key(7);
        x.run(3);
        Due.is("read first", x.reg(3), LINE);
        Due.is("read next", x.reg(4), LINE);
        Due.is("read last", x.reg(5), LINE);
        Due.is("csr", x.csr(0x144), LINE);
        Due.is("INPUT", x.count(4), 1);
    }

    // "TIME and INSTRET read by an instruction are those before its step"

    private static void timeAndInstretOfTheFirstStepAre0() {
        Due.is("time", step("csrrs x3, time, x0", 0).reg(3), 0);
        Due.is("cycle", step("csrrs x3, cycle, x0", 0).reg(3), 0);
        Due.is("instret", step("csrrs x3, instret, x0", 0).reg(3), 0);
    }

    private static void timeCountsStepsThatTrapAndInstretDoesNot() {
        TranslatingHost x = Due.with("csrrw x0, stvec, x1\necall\ncsrrs x3, time, x0\ncsrrs x4, instret, x0");
        x.set(1, 8);
        x.run(4);
        Due.is("time", x.reg(3), 2);
        Due.is("instret", x.reg(4), 2);
        Due.is("TIME", x.count(0), 4);
        Due.is("INSTRET", x.count(1), 3);
    }

    // "bit 5 (timer): TIME is at least the DEVICE's COMPARE (without sign)"

    /** After 4 steps and INTERRUPTS off: COMPARE is as told. */
    private static TranslatingHost comparing(int upper, int lower) {
        TranslatingHost x = Due.with("lui x4, 0x10000\nsw x5, 0x108(x4)\nsw x6, 0x10c(x4)\nj 0");
        x.set(5, lower);
        x.set(6, upper);
        x.run(4);
        return x;
    }

    private static void theTimerIsPendingFromCompareOn() {
        TranslatingHost x = comparing(0, 6);
        Due.is("TIME 4", x.csr(0x144), 0);
        x.run(1);
        Due.is("TIME 5", x.csr(0x144), 0);
        x.run(1);
        Due.is("TIME 6", x.csr(0x144), TIMER);
        x.run(1);
        Due.is("TIME 7", x.csr(0x144), TIMER);
    }

    private static void compareOf0IsPendingAtOnce() {
        Due.is("COMPARE 0", comparing(0, 0).csr(0x144), TIMER);
    }

    private static void compareIsWithoutSign() {
        Due.is("lower half 80000000", comparing(0, Integer.MIN_VALUE).csr(0x144), 0);
        Due.is("lower half ffffffff", comparing(0, -1).csr(0x144), 0);
        Due.is("upper half 80000000", comparing(Integer.MIN_VALUE, 0).csr(0x144), 0);
        Due.is("upper half ffffffff", comparing(-1, 0).csr(0x144), 0);
        Due.is("upper half 7fffffff", comparing(Integer.MAX_VALUE, 0).csr(0x144), 0);
        Due.is("upper half 1", comparing(1, 0).csr(0x144), 0);
        Due.is("all bits 1", comparing(-1, -1).csr(0x144), 0);
    }

    private static void sipReadByAnInstructionIsOfTheTimeBeforeItsStep() {
        TranslatingHost x = Due.with("lui x4, 0x10000\nsw x5, 0x108(x4)\nsw x0, 0x10c(x4)\ncsrrs x6, sip, x0\ncsrrs x7, sip, x0");
        x.set(5, 4);
        x.run(5);
        Due.is("TIME 3", x.reg(6), 0);
        Due.is("TIME 4", x.reg(7), TIMER);
    }

    // "bit 9 (line): there is INPUT"

    private static void theLineIsPendingWhileThereIsInput() {
        TranslatingHost x = Due.with("lui x4, 0x10000\nlw x5, 0(x4)\nlw x5, 0(x4)\nj 0");
        Due.is("no INPUT", x.csr(0x144), 0);
        x.key(1);
        x.key(2);
        Due.is("two bytes", x.csr(0x144), LINE);
        x.run(2);
        Due.is("one byte", x.csr(0x144), LINE);
        x.run(1);
        Due.is("none any more", x.csr(0x144), 0);
    }

    // "if it is PENDING, its bit in sie is set, and the LEVEL is U, or SIE is set: the line's first"

    /** So far that the next step may be an INTERRUPT, with both or one PENDING. */
    private static TranslatingHost waiting(int sie, int sstatus, boolean timer, boolean line, boolean user) {
        TranslatingHost x = Due.with("csrrw x0, stvec, x1\ncsrrw x0, sie, x2\ncsrrw x0, sstatus, x3\n"
            + "sw x5, 0x108(x4)\nsw x5, 0x10c(x4)\ncsrrw x0, sepc, x6\nsret\n.align 5\nj 0");
        x.set(1, 0x40);
        x.set(2, sie);
        x.set(3, (sstatus & SIE) != 0 ? SPIE | (user ? 0 : SPP) : user ? 0 : SPP);
        x.set(4, 0x10000000);
        x.set(5, timer ? 0 : -1);
        x.set(6, 0x20);
        x.run(7);
        if (line) {
            x.key(1);
        }
        Due.is("no TRAP so far", x.count(2), 0);
        Due.is("LEVEL", x.reg(33), user ? 0 : 1);
        Due.is("SIE", x.csr(0x100) & SIE, sstatus & SIE);
        x.run(1);
        return x;
    }

    private static void taken(String what, TranslatingHost x, long cause) {
        Due.is(what + ": TRAPS", x.count(2), 1);
        Due.is(what + ": scause", x.csr(0x142), cause);
        Due.is(what + ": stval", x.csr(0x143), 0);
        Due.is(what + ": sepc", x.csr(0x141), 0x20);
        Due.is(what + ": pc", x.reg(32), 0x40);
        Due.is(what + ": LEVEL", x.reg(33), 1);
        Due.is(what + ": TIME", x.count(0), 8);
        Due.is(what + ": INSTRET", x.count(1), 7);
    }

    private static void left(String what, TranslatingHost x) {
        Due.is(what + ": TRAPS", x.count(2), 0);
        Due.is(what + ": pc", x.reg(32), 0x20);
    }

    private static void atSWithSieEachIsTaken() {
        taken("the line", waiting(LINE, SIE, false, true, false), LINE_CAUSE);
        taken("the timer", waiting(TIMER, SIE, true, false, false), TIMER_CAUSE);
    }

    private static void atSWithoutSieNoneIsTaken() {
        left("the line", waiting(LINE | TIMER, 0, false, true, false));
        left("the timer", waiting(LINE | TIMER, 0, true, false, false));
        left("both", waiting(LINE | TIMER, 0, true, true, false));
    }

    private static void atUEachIsTakenWithSieAndWithout() {
        taken("the line without SIE", waiting(LINE, 0, false, true, true), LINE_CAUSE);
        taken("the line with SIE", waiting(LINE, SIE, false, true, true), LINE_CAUSE);
        taken("the timer without SIE", waiting(TIMER, 0, true, false, true), TIMER_CAUSE);
        taken("the timer with SIE", waiting(TIMER, SIE, true, false, true), TIMER_CAUSE);
    }

    private static void noneIsTakenThatIsNotPending() {
        left("at S", waiting(LINE | TIMER, SIE, false, false, false));
        left("at U", waiting(LINE | TIMER, SIE, false, false, true));
    }

    private static void noneIsTakenWithoutItsBitInSie() {
        left("the line by STIE", waiting(TIMER, SIE, false, true, false));
        left("the timer by SEIE", waiting(LINE, SIE, true, false, false));
        left("both by none", waiting(0, SIE, true, true, true));
    }

    private static void theLineIsFirst() {
        taken("both", waiting(LINE | TIMER, SIE, true, true, false), LINE_CAUSE);
        taken("both at U", waiting(LINE | TIMER, 0, true, true, true), LINE_CAUSE);
        taken("both, STIE alone", waiting(TIMER, SIE, true, true, false), TIMER_CAUSE);
    }

    private static void anInterruptLeavesItsInput() {
        TranslatingHost x = waiting(LINE, SIE, false, true, false);
        Due.is("INPUT", x.count(4), 1);
        Due.is("sip", x.csr(0x144), LINE);
    }

    private static void anInterruptIsAheadOfTheInstructionsOwnTrap() {
        TranslatingHost x = Due.with("csrrw x0, sie, x1\ncsrrwi x0, sstatus, 2\necall");
        x.set(1, LINE);
        x.key(1);
        x.run(3);
        Due.is("scause", x.csr(0x142), LINE_CAUSE);
        Due.is("sepc", x.csr(0x141), 8);
    }

    private static void anInterruptIsAheadOfAnOddPc() {
        TranslatingHost x = Due.with("csrrw x0, sie, x1\ncsrrwi x0, sstatus, 2");
        x.set(1, LINE);
        x.key(1);
        x.run(2);
        x.set(32, 0x101);
        x.run(1);
        Due.is("scause", x.csr(0x142), LINE_CAUSE);
        Due.is("stval", x.csr(0x143), 0);
        Due.is("sepc without its lowest bit", x.csr(0x141), 0x100);
    }

    private static void anInterruptIsTakenInTheStepBehindTheOneThatLetsIt() {
        TranslatingHost x = Due.with("csrrw x0, sie, x1\ncsrrwi x0, sstatus, 2\nnop");
        x.set(1, LINE);
        x.key(1);
        x.run(2);
        Due.is("by SIE: before", x.count(2), 0);
        x.run(1);
        Due.is("by SIE: taken", x.csr(0x141), 8);
        TranslatingHost y = Due.with("csrrwi x0, sstatus, 2\ncsrrw x0, sie, x1\nnop");
        y.set(1, LINE);
        y.key(1);
        y.run(2);
        Due.is("by sie: before", y.count(2), 0);
        y.run(1);
        Due.is("by sie: taken", y.csr(0x141), 8);
    }

    private static void anInterruptOfAHaltedMachineIsNotTaken() {
        TranslatingHost x = Due.with("csrrw x0, sie, x1\ncsrrwi x0, sstatus, 2\nsw x0, 0(x2)");
        x.set(1, LINE);
        x.set(2, 0x10000200);
        x.run(3);
        x.key(1);
        Due.is("run(5)", x.run(5), 0);
        Due.is("TRAPS", x.count(2), 0);
    }

    // "A TRAP: sepc is pc (its lowest bit 0) .. SPP is the LEVEL, SPIE is SIE, SIE 0; the LEVEL is S, pc is stvec"

    private static long statusAfterTrap(int sstatus) {
        TranslatingHost x = Due.with("csrrw x0, sstatus, x1\necall");
        x.set(1, sstatus);
        x.run(2);
        Due.is("LEVEL", x.reg(33), 1);
        return x.csr(0x100);
    }

    private static void aTrapFromSKeepsSieAsSpie() {
        Due.is("0", statusAfterTrap(0), SPP);
        Due.is("SIE", statusAfterTrap(SIE), SPP | SPIE);
        Due.is("SPIE", statusAfterTrap(SPIE), SPP);
        Due.is("SIE, SPIE", statusAfterTrap(SIE | SPIE), SPP | SPIE);
        Due.is("SPP", statusAfterTrap(SPP), SPP);
        Due.is("SUM, MXR", statusAfterTrap(SUM | MXR), SPP | SUM | MXR);
        Due.is("all", statusAfterTrap(-1), SPP | SPIE | SUM | MXR);
    }

    private static long statusAfterTrapFromU(int sstatus) {
        TranslatingHost x = Due.with("csrrw x0, sstatus, x1\ncsrrwi x0, sepc, 12\nsret\necall");
        x.set(1, sstatus & ~SPP);
        x.run(4);
        Due.is("scause", x.csr(0x142), 8);
        return x.csr(0x100);
    }

    private static void aTrapFromUClearsSpp() {
        Due.is("0", statusAfterTrapFromU(0), 0);
        Due.is("SPIE", statusAfterTrapFromU(SPIE), SPIE);
        Due.is("SUM, MXR", statusAfterTrapFromU(SUM | MXR), SUM | MXR);
    }

    private static void aTrapGoesToStvec() {
        int[] places = {0, 4, 0x3fffc, 0x40000, -4, 0x80000000};
        for (int place : places) {
            TranslatingHost x = Due.with("csrrw x0, stvec, x1\necall");
            x.set(1, place | 3);
            x.run(2);
            Due.is("stvec " + place, x.reg(32), place);
        }
    }

    private static void aTrapOfATrapsPlaceIsATrapAnew() {
        TranslatingHost x = Due.with("csrrw x0, stvec, x1\necall");
        x.set(1, 0x40000);
        x.run(5);
        Due.is("TRAPS", x.count(2), 4);
        Due.is("scause", x.csr(0x142), 1);
        Due.is("sepc", x.csr(0x141), 0x40000);
        Due.is("stval", x.csr(0x143), 0x40000);
    }

    // "SRET: the LEVEL is SPP, SIE is SPIE, SPIE is 1, SPP is 0, pc is sepc"

    private static void sret(int sstatus, int level, long want) {
        TranslatingHost x = Due.with("csrrw x0, sepc, x2\ncsrrw x0, sstatus, x1\nsret");
        x.set(1, sstatus);
        x.set(2, 0x103);
        x.run(3);
        Due.is("sret with " + sstatus + ": LEVEL", x.reg(33), level);
        Due.is("sret with " + sstatus + ": sstatus", x.csr(0x100), want);
        Due.is("sret with " + sstatus + ": pc", x.reg(32), 0x102);
        Due.is("sret with " + sstatus + ": INSTRET", x.count(1), 3);
    }

    private static void sretByEachOfItsBits() {
        sret(0, 0, SPIE);
        sret(SPIE, 0, SPIE | SIE);
        sret(SPP, 1, SPIE);
        sret(SPP | SPIE, 1, SPIE | SIE);
        sret(SIE, 0, SPIE);
        sret(SIE | SPP, 1, SPIE);
        sret(SUM | MXR, 0, SPIE | SUM | MXR);
        sret(-1, 1, SPIE | SIE | SUM | MXR);
    }

    private static void sretTwiceGoesToU() {
        TranslatingHost x = Due.with("csrrw x0, sstatus, x1\ncsrrwi x0, sepc, 8\nsret");
        x.set(1, SPP);
        x.run(3);
        Due.is("the first", x.reg(33), 1);
        x.run(1);
        Due.is("the second", x.reg(33), 0);
        x.run(1);
        Due.is("the third is TRAP 2", x.csr(0x142), 2);
        Due.is("LEVEL", x.reg(33), 1);
    }

    private static void sretToABadPlaceTrapsThere() {
        TranslatingHost x = Due.with("csrrw x0, sepc, x1\nsret");
        x.set(1, 0x40000);
        x.run(3);
        Due.is("scause", x.csr(0x142), 1);
        Due.is("stval", x.csr(0x143), 0x40000);
    }
}
