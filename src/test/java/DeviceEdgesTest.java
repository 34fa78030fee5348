/** The edges of section 5: the LINE, the clock, HALT and the DISK. */
public final class DeviceEdgesTest {
    private static final int BASE = 0x10000000;

    public static void main(String[] args) {
        Edges.run(DeviceEdgesTest.class);
    }

    /** A program with x1 at the DEVICES. */
    private static TranslatingHost with(String program) {
        TranslatingHost x = Due.with(program);
        x.set(1, BASE);
        return x;
    }

    // "DATA: read: the next byte of INPUT, which goes (-1 without any)"

    private static void dataWithoutInputIsMinus1() {
        TranslatingHost x = with("lw x2, 0(x1)");
        x.run(1);
        Due.is("DATA", x.reg(2), -1);
        Due.is("INPUT", x.count(4), 0);
    }

    private static void dataOfTheByte255IsNotMinus1() {
        TranslatingHost x = with("lw x2, 0(x1)\nlw x3, 0(x1)");
        x.key(255);
        x.run(2);
        Due.is("DATA", x.reg(2), 255);
        Due.is("DATA behind", x.reg(3), -1);
    }

    private static void dataOfTheByte0Is0() {
        TranslatingHost x = with("lw x2, 0(x1)\nlw x3, 0(x1)");
        x.set(2, 9);
        x.key(0);
        x.run(2);
        Due.is("DATA", x.reg(2), 0);
        Due.is("DATA behind", x.reg(3), -1);
    }

    private static void dataReadIntoX0GoesToo() {
        TranslatingHost x = with("lw x0, 0(x1)\nlw x2, 0(x1)");
        x.key(5);
        x.key(6);
        x.run(2);
        Due.is("DATA", x.reg(2), 6);
    }

    private static void dataByAShortLoad() {
        TranslatingHost x = Due.with("c.lw x9, 0(x8)");
        x.set(8, BASE);
        x.key(5);
        x.run(1);
        Due.is("DATA", x.reg(9), 5);
        Due.is("INPUT", x.count(4), 0);
    }

    private static void all200BytesComeInTheirOrder() {
        TranslatingHost x = with("lw x2, 0(x1)\nadd x4, x4, x3\nbne x2, x4, 12\naddi x3, x0, 1\nj -16\nj 0");
        for (int i = 0; i < 200; i++) {
            x.key(i);
        }
        x.run(5 * 200);
        Due.is("all in order", x.reg(4), 199);
        Due.is("INPUT", x.count(4), 0);
        Due.is("pc", x.reg(32), 0);
    }

    // "written: its lowest byte is OUTPUT (the first 1000 are kept, all are counted)"

    private static void outputIsTheLowestByte() {
        int[] values = {0, 255, 256, -1, Integer.MIN_VALUE, 0x12345680};
        for (int v : values) {
            TranslatingHost x = with("sw x2, 0(x1)");
            x.set(2, v);
            x.run(1);
            Due.is("OUTPUT of " + v, x.out(0), v & 255);
            Due.is("count(3)", x.count(3), 1);
        }
    }

    private static void writingDataLeavesInput() {
        TranslatingHost x = with("sw x2, 0(x1)");
        x.key(5);
        x.run(1);
        Due.is("INPUT", x.count(4), 1);
    }

    private static void theOutput1000IsKeptAnd1001IsCounted() {
        TranslatingHost x = with("addi x2, x2, 1\nsw x2, 0(x1)\nj -8");
        x.run(3 * 999);
        Due.is("999 bytes", x.count(3), 999);
        Due.is("out(999)", x.out(999), -1);
        x.run(3);
        Due.is("1000 bytes", x.count(3), 1000);
        Due.is("out(999)", x.out(999), 1000 & 255);
        x.run(3);
        Due.is("1001 bytes", x.count(3), 1001);
        Due.is("out(1000)", x.out(1000), -1);
        Due.is("out(999) stays", x.out(999), 1000 & 255);
        Due.is("out(0) stays", x.out(0), 1);
    }

    private static void muchOutputIsCounted() {
        TranslatingHost x = with("sw x1, 0(x1)\nj -4");
        x.run(100000);
        x.run(100000);
        Due.is("count(3)", x.count(3), 100000);
    }

    // "STATE: read: 1, if there is INPUT, else 0; writing does nothing"

    private static void stateIs1WithOneByteAndWith200() {
        TranslatingHost x = with("lw x2, 4(x1)\nlw x3, 4(x1)");
        x.set(2, 9);
        x.run(1);
        Due.is("none", x.reg(2), 0);
        for (int i = 0; i < 200; i++) {
            x.key(0);
        }
        x.run(1);
        Due.is("200", x.reg(3), 1);
        TranslatingHost one = with("lw x2, 4(x1)\nlw x3, 0(x1)\nlw x4, 4(x1)");
        one.key(0);
        one.set(4, 9);
        one.run(3);
        Due.is("one", one.reg(2), 1);
        Due.is("none any more", one.reg(4), 0);
    }

    private static void writingStateDoesNothing() {
        TranslatingHost x = with("sw x2, 4(x1)\nlw x3, 4(x1)");
        x.set(2, 1);
        x.set(3, 9);
        x.run(2);
        Due.is("STATE", x.reg(3), 0);
        Due.is("OUTPUT", x.count(3), 0);
        Due.is("TRAPS", x.count(2), 0);
    }

    // "TIME's lower, upper half: read; writing does nothing"

    private static void timeIsThatBeforeTheStep() {
        TranslatingHost x = with("lw x2, 0x100(x1)\nlw x3, 0x100(x1)\nlw x4, 0x104(x1)");
        x.set(2, 9);
        x.set(4, 9);
        x.run(3);
        Due.is("the first step", x.reg(2), 0);
        Due.is("the second step", x.reg(3), 1);
        Due.is("the upper half", x.reg(4), 0);
    }

    private static void writingTimeDoesNothing() {
        TranslatingHost x = with("sw x1, 0x100(x1)\nsw x1, 0x104(x1)\nlw x2, 0x100(x1)\nlw x3, 0x104(x1)");
        x.set(3, 9);
        x.run(4);
        Due.is("TIME", x.reg(2), 2);
        Due.is("its upper half", x.reg(3), 0);
        Due.is("count(0)", x.count(0), 4);
        Due.is("TRAPS", x.count(2), 0);
    }

    // "COMPARE's lower, upper half: read, written (all bits 1 at reset)"

    private static void compareHoldsEachHalf() {
        int[] values = {0, 1, -1, Integer.MIN_VALUE, Integer.MAX_VALUE};
        for (int v : values) {
            TranslatingHost lower = with("sw x2, 0x108(x1)\nlw x3, 0x108(x1)\nlw x4, 0x10c(x1)");
            lower.set(2, v);
            lower.run(3);
            Due.is("lower half " + v, lower.reg(3), v);
            Due.is("the upper half stays", lower.reg(4), -1);
            TranslatingHost upper = with("sw x2, 0x10c(x1)\nlw x3, 0x108(x1)\nlw x4, 0x10c(x1)");
            upper.set(2, v);
            upper.run(3);
            Due.is("upper half " + v, upper.reg(4), v);
            Due.is("the lower half stays", upper.reg(3), -1);
        }
    }

    // "HALT: read 0; written: the machine is HALTED behind this step, with that number as its CODE"

    private static void haltIsReadAs0AndDoesNotHalt() {
        TranslatingHost x = with("lw x2, 0x200(x1)\nnop");
        x.set(2, 9);
        Due.is("run(2)", x.run(2), 2);
        Due.is("HALT", x.reg(2), 0);
        Due.is("HALTED", x.count(5), 0);
    }

    private static void haltIsBehindItsStep() {
        TranslatingHost x = with("sw x2, 0x200(x1)\nnop");
        x.set(2, 5);
        Due.is("run(2)", x.run(2), 1);
        Due.is("pc", x.reg(32), 4);
        Due.is("INSTRET", x.count(1), 1);
        Due.is("CODE", x.count(6), 5);
    }

    private static void otherCallsAnswerWhenHalted() {
        TranslatingHost x = with("sw x0, 0x200(x1)\nnop");
        x.run(1);
        Due.is("key", x.key(1), 1);
        Due.is("set", x.set(2, 3), 1);
        Due.is("load", x.load(16, 1, 2, 3, 4), 4);
        Due.is("assemble", Due.assemble(x, 32, "nop"), 4);
        Due.is("write", x.write(0, 0, 1), 1);
        Due.is("leads", x.leads(5, 1, 1), 5);
        Due.is("run", x.run(3), 0);
    }

    // "The DISK: 64 SECTORS of 128 words .. SECTOR, PLACE: read, written"

    private static void sectorAndPlaceHoldAnyNumber() {
        int[] values = {0, 63, 64, -1, Integer.MIN_VALUE, Integer.MAX_VALUE};
        for (int v : values) {
            TranslatingHost x = with("sw x2, 0x300(x1)\nlw x3, 0x300(x1)\nlw x4, 0x304(x1)\nsw x2, 0x304(x1)\nlw x5, 0x304(x1)");
            x.set(2, v);
            x.set(4, 9);
            x.run(5);
            Due.is("SECTOR " + v, x.reg(3), v);
            Due.is("PLACE before", x.reg(4), 0);
            Due.is("PLACE " + v, x.reg(5), v);
        }
    }

    private static final String ACT = "sw x2, 0x300(x1)\nsw x3, 0x304(x1)\nsw x4, 0x308(x1)\nlw x5, 0x308(x1)";

    /** Behind an ACT; the code is at 8000, sectors and MEMORY's ends are marked. */
    private static TranslatingHost acted(int sector, int place, int what) {
        TranslatingHost x = new TranslatingHost();
        Due.assemble(x, 0x8000, ACT);
        for (int s = 0; s < 64; s += 63) {
            x.write(s, 0, 1000 + s);
            x.write(s, 1, 2000 + s);
            x.write(s, 127, 3000 + s);
        }
        x.write(1, 0, 1001);
        x.write(62, 127, 3062);
        x.load(0, 11, 12, 13, 14);
        x.load(0x1f0, 15, 16, 17, 18);
        x.load(0x200, 19, 20, 21, 22);
        x.load(0x3fdf0, 31, 32, 33, 34);
        x.load(0x3fe00, 35, 36, 37, 38);
        x.load(0x3fff0, 39, 40, 41, 42);
        x.set(1, BASE);
        x.set(2, sector);
        x.set(3, place);
        x.set(4, what);
        x.set(5, 9);
        x.set(32, 0x8000);
        x.run(4);
        Due.is("TRAPS", x.count(2), 0);
        Due.is("INSTRET", x.count(1), 4);
        return x;
    }

    private static void sector0ComesToPlace0() {
        TranslatingHost x = acted(0, 0, 1);
        Due.is("ACT", x.reg(5), 1);
        Due.is("word(0)", x.word(0), 1000);
        Due.is("word(4)", x.word(4), 2000);
        Due.is("word(8)", x.word(8), 0);
        Due.is("word(1f8)", x.word(0x1f8), 0);
        Due.is("word(1fc)", x.word(0x1fc), 3000);
        Due.is("word(200)", x.word(0x200), 19);
        Due.is("the sector stays", x.disk(0, 0), 1000);
    }

    private static void sector63ComesToTheLastPlace() {
        TranslatingHost x = acted(63, 0x3fe00, 1);
        Due.is("ACT", x.reg(5), 1);
        Due.is("word(3fdfc)", x.word(0x3fdfc), 34);
        Due.is("word(3fe00)", x.word(0x3fe00), 1063);
        Due.is("word(3fe04)", x.word(0x3fe04), 2063);
        Due.is("word(3fffc)", x.word(0x3fffc), 3063);
        Due.is("word(0)", x.word(0), 11);
    }

    private static void place0ComesToSector0() {
        TranslatingHost x = acted(0, 0, 2);
        Due.is("ACT", x.reg(5), 1);
        Due.is("disk(0, 0)", x.disk(0, 0), 11);
        Due.is("disk(0, 3)", x.disk(0, 3), 14);
        Due.is("disk(0, 4)", x.disk(0, 4), 0);
        Due.is("disk(0, 127)", x.disk(0, 127), 18);
        Due.is("disk(1, 0)", x.disk(1, 0), 1001);
        Due.is("MEMORY stays", x.word(0), 11);
    }

    private static void theLastPlaceComesToSector63() {
        TranslatingHost x = acted(63, 0x3fe00, 2);
        Due.is("ACT", x.reg(5), 1);
        Due.is("disk(62, 127)", x.disk(62, 127), 3062);
        Due.is("disk(63, 0)", x.disk(63, 0), 35);
        Due.is("disk(63, 127)", x.disk(63, 127), 42);
        Due.is("MEMORY stays", x.word(0x3fe00), 35);
    }

    private static void notWell(int sector, int place, int what) {
        TranslatingHost x = acted(sector, place, what);
        String call = "ACT " + what + " of " + sector + " at " + place;
        Due.is(call, x.reg(5), 0);
        int[] words = {0, 4, 8, 12, 0x1f0, 0x1f4, 0x1f8, 0x1fc, 0x200, 0x204, 0x208, 0x20c};
        for (int i = 0; i < words.length; i++) {
            Due.is(call + ": word(" + words[i] + ")", x.word(words[i]), 11 + i);
        }
        for (int i = 0; i < 8; i++) {
            Due.is(call + ": a word near the end", x.word(0x3fdf0 + 4 * i), 31 + i);
        }
        for (int i = 0; i < 4; i++) {
            Due.is(call + ": a word of the end", x.word(0x3fff0 + 4 * i), 39 + i);
        }
        Due.is(call + ": disk(0, 0)", x.disk(0, 0), 1000);
        Due.is(call + ": disk(0, 127)", x.disk(0, 127), 3000);
        Due.is(call + ": disk(1, 0)", x.disk(1, 0), 1001);
        Due.is(call + ": disk(62, 127)", x.disk(62, 127), 3062);
        Due.is(call + ": disk(63, 0)", x.disk(63, 0), 1063);
        Due.is(call + ": disk(63, 127)", x.disk(63, 127), 3063);
    }

    // "Not well, and nothing is done: another number, SECTOR is not 0 .. 63, PLACE is no multiple of 4, .."

    private static void actOfAnotherNumberIsNotWell() {
        int[] others = {0, 3, -1, Integer.MIN_VALUE, Integer.MAX_VALUE, 0x101, 0x102};
        for (int what : others) {
            notWell(0, 0, what);
        }
    }

    private static void theSector64IsNotWell() {
        notWell(64, 0, 1);
        notWell(64, 0, 2);
        notWell(64, 0x3fe00, 2);
    }

    private static void theSectorMinus1IsNotWell() {
        notWell(-1, 0, 1);
        notWell(-1, 0, 2);
    }

    private static void farSectorsAreNotWell() {
        notWell(Integer.MIN_VALUE, 0, 1);
        notWell(Integer.MAX_VALUE, 0, 2);
        notWell(1 << 25, 0, 1);
    }

    private static void aPlaceThatIsNoMultipleOf4IsNotWell() {
        for (int i = 1; i < 4; i++) {
            notWell(0, i, 1);
            notWell(0, i, 2);
            notWell(0, 0x3fdfc + i, 1);
        }
    }

    private static void theFirstPlaceWhereNotAllLiesIsNotWell() {
        notWell(63, 0x3fe04, 1);
        notWell(63, 0x3fe04, 2);
        notWell(63, 0x3fffc, 1);
        notWell(63, 0x40000, 1);
        notWell(63, 0x40000, 2);
    }

    private static void placesBeforeMemoryAndFarOnesAreNotWell() {
        notWell(0, -4, 1);
        notWell(0, -4, 2);
        notWell(0, -512, 1);
        notWell(0, Integer.MIN_VALUE, 1);
        notWell(0, 0x7ffffffc, 1);
        notWell(0, 0x7ffffffc, 2);
        notWell(0, BASE, 1);
        notWell(0, 0x40000000, 1);
    }

    // "ACT: read: how the last one went (1 well, 0 not; 0 at first)"

    private static void actTellsTheLastOne() {
        TranslatingHost x = Due.with("lw x5, 0x308(x1)\nsw x2, 0x308(x1)\nlw x6, 0x308(x1)\nsw x3, 0x308(x1)\nlw x7, 0x308(x1)\n"
            + "sw x2, 0x308(x1)\nlw x8, 0x308(x1)");
        x.set(1, BASE);
        x.set(2, 2);
        x.set(3, 3);
        x.set(5, 9);
        x.run(7);
        Due.is("at first", x.reg(5), 0);
        Due.is("behind one that went well", x.reg(6), 1);
        Due.is("behind one that did not", x.reg(7), 0);
        Due.is("behind one that went well again", x.reg(8), 1);
    }

    private static void sectorAndPlaceStayBehindAnAct() {
        TranslatingHost x = Due.with(ACT + "\nlw x6, 0x300(x1)\nlw x7, 0x304(x1)");
        x.set(1, BASE);
        x.set(2, 5);
        x.set(3, 0x600);
        x.set(4, 1);
        x.run(6);
        Due.is("SECTOR", x.reg(6), 5);
        Due.is("PLACE", x.reg(7), 0x600);
    }

    // "at once, within this step"

    private static void theDiskWritesTheNextInstruction() {
        TranslatingHost x = Due.with("sw x2, 0x308(x1)\naddi x3, x0, 1");
        x.write(0, 0, 0x13);
        x.write(0, 1, 0x00200193);
        x.set(1, BASE);
        x.set(2, 1);
        x.run(1);
        Due.is("MEMORY behind the step", x.word(4), 0x00200193);
        Due.is("check()", x.check(), 1);
        x.run(1);
        Due.is("the disk's instruction", x.reg(3), 2);
    }

    private static void theDiskWritesThePagesOfTheNextFetch() {
        TranslatingHost x = Due.with("csrrw x0, satp, x4\nsw x2, 0x308(x5)\nnop");
        x.load(0x10000, 0xcf, 0x40 << 20 | 0xcf, 0, 0);
        x.set(2, 1);
        x.set(4, 0x80000010);
        x.set(5, 0x400000);
        Due.assemble(x, 0x100, "sw x6, 0x304(x1)\nj -0x104");
        x.set(1, BASE);
        x.set(6, 0x10000);
        x.set(32, 0x100);
        x.run(5);
        Due.is("scause", x.csr(0x142), 12);
        Due.is("sepc", x.csr(0x141), 8);
    }

    private static void whatCameFromTheDiskIsACopy() {
        TranslatingHost x = acted(0, 0, 1);
        x.write(0, 0, 5);
        Due.is("MEMORY stays", x.word(0), 1000);
        TranslatingHost y = acted(0, 0, 2);
        y.load(0, 5, 5, 5, 5);
        Due.is("the disk stays", y.disk(0, 0), 11);
    }

    private static void resetKeepsTheDisk() {
        TranslatingHost x = acted(63, 0x3fe00, 2);
        x.reset();
        Due.is("disk(63, 0)", x.disk(63, 0), 35);
        Due.is("disk(0, 0)", x.disk(0, 0), 1000);
    }
}
