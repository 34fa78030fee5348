/** Section 5: the line, the clock, HALT and the disk (promises 4, 9, 10, 20, 21). */
public final class DevicesTest {
    public static void main(String[] args) {
        line();
        clock();
        halt();
        lessThanAWord();
        disk();
        diskNotWell();
        diskWritesThePrograms();
        Due.done();
    }

    private static TranslatingHost with(String program) {
        TranslatingHost x = Due.with(program);
        x.set(1, 0x10000000);
        return x;
    }

    private static void line() {
        TranslatingHost x = with("lw x2, 4(x1)\nlw x3, 0(x1)\nlw x4, 0(x1)\nlw x5, 0(x1)\nlw x6, 4(x1)\nsw x1, 4(x1)\n"
            + "sw x7, 0(x1)\nlw x0, 0(x1)");
        x.key(200);
        x.key(0);
        x.set(7, 0x1234);
        x.run(7);
        Due.is("STATE with INPUT", x.reg(2), 1);
        Due.is("the first byte", x.reg(3), 200);
        Due.is("the second byte", x.reg(4), 0);
        Due.is("no byte", x.reg(5), -1);
        Due.is("STATE without INPUT", x.reg(6), 0);
        Due.is("INPUT left", x.count(4), 0);
        Due.is("OUTPUT", x.count(3), 1);
        Due.is("its lowest byte", x.out(0), 0x34);
        x.key(7);
        x.run(1);
        Due.is("a load into x0 takes a byte", x.count(4), 0);
        TranslatingHost ring = with("lw x2, 0(x1)\nadd x3, x3, x2\nj -8");
        int sum = 0;
        for (int i = 0; i < 150; i++) {
            ring.key(i);
            sum += i;
        }
        ring.run(300 + 150);
        Due.is("150 bytes", ring.reg(3), sum);
        for (int i = 0; i < 200; i++) {
            Due.is("key again", ring.key(i), i + 1);
            sum += i;
        }
        ring.run(600);
        Due.is("200 bytes more", ring.reg(3), sum);
    }

    private static void clock() {
        TranslatingHost x = with("lw x2, 0x100(x1)\nlw x3, 0x104(x1)\nsw x1, 0x100(x1)\nsw x1, 0x104(x1)\nlw x4, 0x100(x1)\n"
            + "lw x5, 0x108(x1)\nlw x6, 0x10c(x1)\nsw x7, 0x108(x1)\nlw x8, 0x108(x1)\nlw x9, 0x10c(x1)\n"
            + "sw x7, 0x10c(x1)\nlw x10, 0x10c(x1)\nlw x11, 0x108(x1)");
        x.set(7, 0x80000001);
        x.run(13);
        Due.is("TIME", x.reg(2), 0);
        Due.is("TIME's upper half", x.reg(3), 0);
        Due.is("TIME is not written", x.reg(4), 4);
        Due.is("COMPARE at first", x.reg(5) & x.reg(6), -1);
        Due.is("COMPARE's lower half", x.reg(8), 0x80000001);
        Due.is("the upper half stays", x.reg(9), -1);
        Due.is("COMPARE's upper half", x.reg(10), 0x80000001);
        Due.is("the lower half stays", x.reg(11), 0x80000001);
        Due.is("count(0)", x.count(0), 13);
    }

    private static void halt() {
        TranslatingHost x = with("lw x2, 0x200(x1)\nc.sw x8, 0(x9)\nnop");
        x.set(2, 5);
        x.set(8, 0x80000000);
        x.set(9, 0x10000200);
        Due.is("run", x.run(10), 2);
        Due.is("HALT is read as 0", x.reg(2), 0);
        Due.is("CODE with sign", x.count(6), Integer.MIN_VALUE);
        Due.is("pc", x.reg(32), 6);
        Due.is("key when HALTED", x.key(1), 1);
        Due.is("set when HALTED", x.set(5, 1), 1);
        Due.is("run when HALTED", x.run(10), 0);
    }

    private static void lessThanAWord() {
        String[] loads = {"lb x2, 0(x1)", "lbu x2, 0(x1)", "lh x2, 0(x1)", "lhu x2, 2(x1)", "lw x2, 8(x1)"};
        for (String statement : loads) {
            TranslatingHost x = with(statement);
            x.key(1);
            x.run(1);
            Due.is(statement, x.csr(0x142), 5);
            Due.is(statement + " takes nothing", x.count(4), 1);
        }
        String[] stores = {"sb x2, 0(x1)", "sh x2, 0(x1)", "sb x2, 0x203(x1)", "sw x2, 0x204(x1)"};
        for (String statement : stores) {
            TranslatingHost x = with(statement);
            x.run(1);
            Due.is(statement, x.csr(0x142), 7);
            Due.is(statement + " writes nothing", x.count(3) + x.count(5), 0);
        }
        TranslatingHost crooked = with("lw x2, 2(x1)");
        crooked.run(1);
        Due.is("a crooked word of a device", crooked.csr(0x142), 4);
    }

    private static final String ACT = "sw x2, 0x300(x1)\nsw x3, 0x304(x1)\nlw x5, 0x308(x1)\nsw x4, 0x308(x1)\n"
        + "lw x6, 0x308(x1)\nlw x7, 0x300(x1)\nlw x8, 0x304(x1)";

    private static TranslatingHost acted(int sector, int place, int what) {
        TranslatingHost x = with(ACT);
        for (int i = 0; i < 128; i++) {
            x.write(3, i, 1000 + i);
        }
        x.load(0x3fe00, 1, 2, 3, 4);
        x.load(0x3fff0, 5, 6, 7, 8);
        x.set(2, sector);
        x.set(3, place);
        x.set(4, what);
        x.run(7);
        Due.is("SECTOR is read", x.reg(7), sector);
        Due.is("PLACE is read", x.reg(8), place);
        Due.is("ACT at first", x.reg(5), 0);
        return x;
    }

    private static void disk() {
        TranslatingHost x = acted(3, 0x3fe00, 1);
        Due.is("well", x.reg(6), 1);
        Due.is("the first word", x.word(0x3fe00), 1000);
        Due.is("the last word", x.word(0x3fffc), 1127);
        Due.is("the word before", x.word(0x3fdfc), 0);
        Due.is("the sector stays", x.disk(3, 127), 1127);
        TranslatingHost y = acted(63, 0x3fe00, 2);
        Due.is("well", y.reg(6), 1);
        Due.is("disk(63, 0)", y.disk(63, 0), 1);
        Due.is("disk(63, 3)", y.disk(63, 3), 4);
        Due.is("disk(63, 127)", y.disk(63, 127), 8);
        Due.is("MEMORY stays", y.word(0x3fe00), 1);
        TranslatingHost z = acted(3, 0x204, 1);
        Due.is("at any word", z.word(0x204), 1000);
        Due.is("the word behind", z.word(0x404), 0);
        Due.is("the last word", z.word(0x400), 1127);
    }

    private static void diskNotWell() {
        int[][] wrong = {
            {3, 0x3fe00, 0}, {3, 0x3fe00, 3}, {3, 0x3fe00, -1}, {64, 0x3fe00, 1}, {-1, 0x3fe00, 1}, {3, 0x3fe04, 1},
            {3, 0x3fe02, 1}, {3, 0x3fdfd, 1}, {3, -512, 1}, {3, 0x40000, 1}, {3, 0x7ffffe00, 1}, {64, 0x3fe00, 2},
            {3, 0x3fe04, 2}, {3, 0x10000000, 1},
        };
        for (int[] w : wrong) {
            TranslatingHost x = acted(w[0], w[1], w[2]);
            String what = "ACT " + w[0] + ", " + w[1] + ", " + w[2];
            Due.is(what, x.reg(6), 0);
            Due.is(what + " does nothing", x.word(0x3fe00), 1);
            Due.is(what + " does nothing", x.word(0x3fffc), 8);
            Due.is(what + " does nothing to the disk", x.disk(3, 0), 1000);
            Due.is(what + " is no TRAP", x.count(2), 0);
        }
        TranslatingHost again = acted(3, 0x200, 1);
        again.set(32, 0);
        again.set(4, 9);
        again.run(5);
        Due.is("how the last one went, before", again.reg(5), 1);
        Due.is("how the last one went", again.reg(6), 0);
    }

    /** The disk writes the instruction that comes next. */
    private static void diskWritesThePrograms() {
        TranslatingHost x = with("sw x4, 0x308(x1)\naddi x5, x0, 1\n");
        x.write(0, 0, 0x00000013);
        x.write(0, 1, 0x00200293);
        x.set(4, 1);
        x.run(1);
        Due.is("check()", x.check(), 1);
        x.run(1);
        Due.is("the instruction of the disk", x.reg(5), 2);
    }
}
