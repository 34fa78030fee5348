/** The edges of section 2's instructions of 16 bits, by their bits alone (promise 5). */
public final class ShortEdgesTest {
    private static final int LEAST = Integer.MIN_VALUE;
    private static final int PC = 0x2000;

    public static void main(String[] args) {
        Edges.run(ShortEdgesTest.class);
    }

    /** One step of the half at PC, each register r being 4000 + 100 r (of base 16). */
    private static TranslatingHost step(int half) {
        return step(half, 1, 0x4100);
    }

    private static TranslatingHost step(int half, int r, int v) {
        TranslatingHost x = new TranslatingHost();
        x.load(PC, half | 0xffff0000, 0, 0, 0);
        for (int i = 1; i < 32; i++) {
            x.set(i, register(i));
        }
        x.set(r, v);
        x.set(32, PC);
        x.run(1);
        return x;
    }

    private static int register(int r) {
        return r == 0 ? 0 : 0x4000 + 0x100 * r;
    }

    private static void gives(int half, int r, int want) {
        TranslatingHost x = step(half);
        String what = "half " + Integer.toHexString(half);
        Due.is(what + " is RETIRED", x.count(1), 1);
        Due.is(what + ": pc", x.reg(32), PC + 2);
        for (int i = 0; i < 32; i++) {
            Due.is(what + ": x" + i, x.reg(i), i == r ? want : register(i));
        }
    }

    private static void illegal(int half) {
        TranslatingHost x = step(half);
        String what = "half " + Integer.toHexString(half);
        Due.is(what + ": INSTRET", x.count(1), 0);
        Due.is(what + ": scause", x.csr(0x142), 2);
        Due.is(what + ": stval", x.csr(0x143), half);
        Due.is(what + ": sepc", x.csr(0x141), PC);
    }

    private static void goes(int half, int r, int v, int want) {
        TranslatingHost x = step(half, r, v);
        Due.is("half " + Integer.toHexString(half) + " with x" + r + " " + v, x.reg(32), want);
        Due.is("half " + Integer.toHexString(half) + " is RETIRED", x.count(1), 1);
    }

    // q 0

    private static void addi4spnOf0IsTrap2() {
        for (int rd = 0; rd < 8; rd++) {
            illegal(rd << 2);
        }
    }

    private static void addi4spnFrom4To1020() {
        gives(0x0040, 8, 0x4204);
        gives(0x1ffc, 15, 0x4200 + 1020);
    }

    private static void addi4spnHasEachBitOfItsNumber() {
        int[] halves = {0x0040, 0x0020, 0x0800, 0x1000, 0x0080, 0x0100, 0x0200, 0x0400};
        for (int i = 0; i < 8; i++) {
            gives(halves[i], 8, 0x4200 + (4 << i));
        }
    }

    private static void q0HasF0And2And6Alone() {
        int[] wrong = {1, 3, 4, 5, 7};
        for (int f : wrong) {
            illegal(f << 13);
            illegal(f << 13 | 0x1ffc);
        }
    }

    private static void lwHasEachBitOfItsNumber() {
        int[] halves = {0x4004, 0x4044, 0x4404, 0x4804, 0x5004, 0x4024, 0x5c64};
        int[] numbers = {0, 4, 8, 16, 32, 64, 124};
        for (int i = 0; i < halves.length; i++) {
            TranslatingHost x = new TranslatingHost();
            x.load(PC, halves[i], 0, 0, 0);
            x.load(0x300 + (numbers[i] & ~15), 0, 0, 0, 0);
            Due.assemble(x, 0x300 + numbers[i], ".word 77");
            x.set(8, 0x300);
            x.set(32, PC);
            x.run(1);
            Due.is("c.lw x9, " + numbers[i] + "(x8)", x.reg(9), 77);
        }
    }

    private static void swHasEachBitOfItsNumber() {
        int[] halves = {0xc004, 0xc044, 0xc404, 0xc804, 0xd004, 0xc024, 0xdc64};
        int[] numbers = {0, 4, 8, 16, 32, 64, 124};
        for (int i = 0; i < halves.length; i++) {
            TranslatingHost x = step(halves[i]);
            Due.is("c.sw x9, " + numbers[i] + "(x8)", x.word(register(8) + numbers[i]), register(9));
        }
    }

    private static void threeBitsAreX8ToX15() {
        for (int r = 0; r < 8; r++) {
            TranslatingHost x = step(0xc000 | r << 2 | r << 7);
            Due.is("c.sw of r' " + r, x.word(register(8 + r)), register(8 + r));
        }
    }

    private static void lwAndSwAreCrookedAsTheLongOnes() {
        TranslatingHost lw = step(0x4004, 8, 0x302);
        Due.is("c.lw: scause", lw.csr(0x142), 4);
        Due.is("c.lw: stval", lw.csr(0x143), 0x302);
        TranslatingHost sw = step(0xc044, 8, 0x301);
        Due.is("c.sw: scause", sw.csr(0x142), 6);
        Due.is("c.sw: stval", sw.csr(0x143), 0x305);
        TranslatingHost out = step(0xc044, 8, 0x3fffc);
        Due.is("c.sw outside: scause", out.csr(0x142), 7);
        Due.is("c.sw outside: stval", out.csr(0x143), 0x40000);
    }

    // q 1

    private static void addiFromMinus32To31() {
        gives(0x1081, 1, 0x4100 - 32);
        gives(0x0ffd, 31, register(31) + 31);
        gives(0x10fd, 1, 0x4100 - 1);
        gives(0x0081, 1, 0x4100);
    }

    private static void addiOfX0DoesNothing() {
        gives(0x0001, 0, 0);
        gives(0x0005, 0, 0);
        gives(0x1001, 0, 0);
    }

    private static void addiWrapsAround() {
        TranslatingHost x = step(0x0085, 1, Integer.MAX_VALUE);
        Due.is("the greatest and 1", x.reg(1), LEAST);
        TranslatingHost y = step(0x10fd, 1, LEAST);
        Due.is("the least less 1", y.reg(1), Integer.MAX_VALUE);
    }

    private static void liFromMinus32To31() {
        gives(0x5081, 1, -32);
        gives(0x4ffd, 31, 31);
        gives(0x4081, 1, 0);
        gives(0x4001, 0, 0);
        gives(0x4ffd & ~0xf80, 0, 0);
    }

    private static void jalAndJFromMinus2048To2046() {
        goes(0x3001, 5, 5, PC - 2048);
        goes(0x2ffd, 5, 5, PC + 2046);
        goes(0xb001, 5, 5, PC - 2048);
        goes(0xaffd, 5, 5, PC + 2046);
        goes(0x2001, 5, 5, PC);
        goes(0xa001, 5, 5, PC);
    }

    private static void jalAndJHaveEachBitOfTheirDistance() {
        int[] bits = {3, 4, 5, 11, 2, 7, 6, 9, 10, 8};
        for (int i = 0; i < bits.length; i++) {
            goes(0x2001 | 1 << bits[i], 5, 5, PC + (2 << i));
            goes(0xa001 | 1 << bits[i], 5, 5, PC + (2 << i));
        }
    }

    private static void jalLinksPcAnd2() {
        Due.is("x1 of c.jal", step(0x2ffd).reg(1), PC + 2);
        Due.is("x1 of c.j", step(0xaffd).reg(1), 0x4100);
    }

    private static void addi16spOf0IsTrap2() {
        illegal(0x6101);
    }

    private static void addi16spFromMinus512To496() {
        gives(0x7101, 2, 0x4200 - 512);
        gives(0x617d, 2, 0x4200 + 496);
        gives(0x717d, 2, 0x4200 - 16);
        gives(0x6141, 2, 0x4200 + 16);
    }

    private static void addi16spHasEachBitOfItsNumber() {
        int[] bits = {6, 2, 5, 3, 4};
        for (int i = 0; i < bits.length; i++) {
            gives(0x6101 | 1 << bits[i], 2, 0x4200 + (16 << i));
        }
    }

    private static void luiOf0IsTrap2() {
        for (int rd = 0; rd < 32; rd++) {
            illegal(0x6001 | rd << 7);
        }
    }

    private static void luiFrom1To31AndFromMinus32ToMinus1() {
        gives(0x6085, 1, 0x1000);
        gives(0x6ffd, 31, 0x1f000);
        gives(0x7081, 1, 0xfffe0000);
        gives(0x71fd, 3, 0xfffff000);
    }

    private static void luiOfX0DoesNothing() {
        gives(0x6005, 0, 0);
        gives(0x7001, 0, 0);
    }

    private static void luiOfX1AndX3AreBesideTheStack() {
        gives(0x6085, 1, 0x1000);
        gives(0x6185, 3, 0x1000);
        gives(0x6105, 2, 0x4200 + 32);
    }

    private static void srliAndSraiBy0And31() {
        Due.is("c.srli by 0", step(0x8001, 8, LEAST).reg(8), LEAST);
        Due.is("c.srli by 1", step(0x8005, 8, LEAST).reg(8), 0x40000000);
        Due.is("c.srli by 31", step(0x83fd, 15, LEAST).reg(15), 1);
        Due.is("c.srai by 0", step(0x8401, 8, LEAST).reg(8), LEAST);
        Due.is("c.srai by 1", step(0x8405, 8, LEAST).reg(8), 0xc0000000);
        Due.is("c.srai by 31", step(0x87fd, 15, LEAST).reg(15), -1);
    }

    private static void srliAndSraiWithBit12AreTrap2() {
        for (int by = 0; by < 32; by++) {
            illegal(0x9001 | by << 2);
            illegal(0x9401 | by << 2);
        }
    }

    private static void andiFromMinus32To31() {
        Due.is("-32", step(0x9801, 8, -1).reg(8), -32);
        Due.is("31", step(0x8bfd, 15, -1).reg(15), 31);
        Due.is("-1", step(0x987d, 8, 0x1234).reg(8), 0x1234);
        Due.is("0", step(0x8801, 8, -1).reg(8), 0);
    }

    private static void subXorOrAnd() {
        gives(0x8c1d, 8, register(8) - register(15));
        gives(0x8f81, 15, register(15) - register(8));
        gives(0x8c3d, 8, register(8) ^ register(15));
        gives(0x8c5d, 8, register(8) | register(15));
        gives(0x8c7d, 8, register(8) & register(15));
    }

    private static void subXorOrAndWithBit12AreTrap2() {
        for (int kind = 0; kind < 4; kind++) {
            illegal(0x9c01 | kind << 5);
            illegal(0x9f9d | kind << 5);
        }
    }

    private static void beqzAndBnezFromMinus256To254() {
        goes(0xd001, 8, 0, PC - 256);
        goes(0xcffd, 15, 0, PC + 254);
        goes(0xf001, 8, 1, PC - 256);
        goes(0xeffd, 15, 1, PC + 254);
    }

    private static void beqzAndBnezHaveEachBitOfTheirDistance() {
        int[] bits = {3, 4, 10, 11, 2, 5, 6};
        for (int i = 0; i < bits.length; i++) {
            goes(0xc001 | 1 << bits[i], 8, 0, PC + (2 << i));
            goes(0xe001 | 1 << bits[i], 8, 7, PC + (2 << i));
        }
    }

    private static void beqzAndBnezTurnAt0() {
        int[] others = {1, -1, LEAST, Integer.MAX_VALUE};
        for (int v : others) {
            goes(0xd001, 8, v, PC + 2);
            goes(0xf001, 8, v, PC - 256);
        }
        goes(0xf001, 8, 0, PC + 2);
        goes(0xd001, 8, 0, PC - 256);
    }

    // q 2

    private static void slliBy0And31() {
        Due.is("by 0", step(0x0082, 1, 3).reg(1), 3);
        Due.is("by 1", step(0x0086, 1, 3).reg(1), 6);
        Due.is("by 31", step(0x0ffe, 31, 3).reg(31), LEAST);
        gives(0x0002, 0, 0);
        gives(0x007e, 0, 0);
    }

    private static void slliWithBit12IsTrap2() {
        illegal(0x1082);
        illegal(0x1086);
        illegal(0x1ffe);
        illegal(0x1002);
    }

    private static void q2HasF0And2And4And6Alone() {
        int[] wrong = {1, 3, 5, 7};
        for (int f : wrong) {
            illegal(f << 13 | 2);
            illegal(f << 13 | 0x1ffe);
        }
    }

    private static void lwspOfX0IsTrap2() {
        for (int bits = 0; bits < 32; bits++) {
            illegal(0x4002 | bits << 2);
            illegal(0x5002 | bits << 2);
        }
    }

    private static void lwspHasEachBitOfItsNumber() {
        int[] halves = {0x4f82, 0x4f92, 0x4fa2, 0x4fc2, 0x5f82, 0x4f86, 0x4f8a, 0x5ffe};
        int[] numbers = {0, 4, 8, 16, 32, 64, 128, 252};
        for (int i = 0; i < halves.length; i++) {
            TranslatingHost x = new TranslatingHost();
            x.load(PC, halves[i], 0, 0, 0);
            Due.assemble(x, 0x300 + numbers[i], ".word 77");
            x.set(2, 0x300);
            x.set(32, PC);
            x.run(1);
            Due.is("c.lwsp x31, " + numbers[i] + "(sp)", x.reg(31), 77);
        }
    }

    private static void swspHasEachBitOfItsNumber() {
        int[] halves = {0xc07e, 0xc27e, 0xc47e, 0xc87e, 0xd07e, 0xc0fe, 0xc17e, 0xdffe};
        int[] numbers = {0, 4, 8, 16, 32, 64, 128, 252};
        for (int i = 0; i < halves.length; i++) {
            TranslatingHost x = step(halves[i]);
            Due.is("c.swsp x31, " + numbers[i] + "(sp)", x.word(0x4200 + numbers[i]), register(31));
        }
    }

    private static void swspTakesX0() {
        TranslatingHost x = new TranslatingHost();
        x.load(0x300, -1, -1, 0, 0);
        x.load(PC, 0xc002, 0, 0, 0);
        x.set(2, 0x300);
        x.set(32, PC);
        x.run(1);
        Due.is("word", x.word(0x300), 0);
        Due.is("the one behind", x.word(0x304), 0xffffffffL);
    }

    private static void jrOfX0IsTrap2() {
        illegal(0x8002);
    }

    private static void jrAndJalrOfX1AndX31() {
        goes(0x8082, 1, 0x301, 0x300);
        goes(0x8f82, 31, 0x302, 0x302);
        goes(0x9082, 1, 0x301, 0x300);
        goes(0x9f82, 31, 0x302, 0x302);
        Due.is("c.jr does not link", step(0x8f82).reg(1), 0x4100);
        Due.is("c.jalr links", step(0x9f82).reg(1), PC + 2);
        Due.is("c.jalr x1 links", step(0x9082).reg(1), PC + 2);
    }

    private static void bothX0WithBit12IsEbreak() {
        TranslatingHost x = step(0x9002);
        Due.is("scause", x.csr(0x142), 3);
        Due.is("stval", x.csr(0x143), PC);
        Due.is("sepc", x.csr(0x141), PC);
    }

    private static void mvAndAddOfX1AndX31() {
        gives(0x8086, 1, 0x4100);
        gives(0x80fe, 1, register(31));
        gives(0x8f86, 31, 0x4100);
        gives(0x9086, 1, 0x8200);
        gives(0x90fe, 1, 0x4100 + register(31));
        gives(0x9ffe, 31, 2 * register(31));
    }

    private static void mvAndAddOfRdX0DoNothing() {
        gives(0x8006, 0, 0);
        gives(0x9006, 0, 0);
    }

    // "the next instruction (and link) being pc + 2"

    private static void theLastHalfOfAPageOrOfMemoryGoesToTheNext() {
        TranslatingHost x = new TranslatingHost();
        x.load(0xff0, 0, 0, 0, 0x00010000);
        x.set(32, 0xffe);
        x.run(1);
        Due.is("pc", x.reg(32), 0x1000);
    }
}
