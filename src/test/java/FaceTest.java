import java.lang.reflect.Constructor;
import java.lang.reflect.Field;
import java.lang.reflect.Method;
import java.lang.reflect.Modifier;
import java.util.TreeSet;

/** The face itself, and promises 1 to 10, 12, 20 to 22 by plain calls and wrong ones. */
public final class FaceTest {
    private static final int NONE = TranslatingHost.NONE;
    private static final int[] CSRS = {
        0x100, 0x104, 0x105, 0x140, 0x141, 0x142, 0x143, 0x144, 0x180, 0xc00, 0xc01, 0xc02, 0xc80, 0xc81, 0xc82,
    };

    public static void main(String[] args) {
        face();
        newObject();
        loadAndWord();
        setAndReg();
        key();
        run();
        csr();
        count();
        out();
        reset();
        diskAndWrite();
        check();
        Due.done();
    }

    private static void face() {
        TreeSet<String> methods = new TreeSet<>();
        int exposed = 0;
        for (Method m : TranslatingHost.class.getDeclaredMethods()) {
            if (!Modifier.isPrivate(m.getModifiers())) {
                StringBuilder s = new StringBuilder(m.getReturnType().getName()).append(' ').append(m.getName());
                for (Class<?> type : m.getParameterTypes()) {
                    s.append(' ').append(type.getName());
                }
                methods.add(s.toString());
                Due.is(m.getName() + " is public", Modifier.isPublic(m.getModifiers()) ? 1 : 0, 1);
                Due.is(m.getName() + " is static", Modifier.isStatic(m.getModifiers()) ? 1 : 0, 0);
            }
        }
        Due.is("methods", methods.toString(), "[int assemble int, int check, int end int, int feed int int int int int,"
            + " int key int, int label int, int load int int int int int, int out int, int place, int reg int,"
            + " int reset, int run int, int set int int, int tell int, int told int, int write int int int,"
            + " long count int, long csr int, long disk int int, long leads int int int, long word int]");
        for (Field f : TranslatingHost.class.getDeclaredFields()) {
            exposed += Modifier.isPrivate(f.getModifiers()) ? 0 : 1;
        }
        Due.is("fields that are not private", exposed, 1);
        Constructor<?>[] made = TranslatingHost.class.getDeclaredConstructors();
        Due.is("constructors", made.length, 1);
        Due.is("constructor is public", Modifier.isPublic(made[0].getModifiers()) ? 1 : 0, 1);
        Due.is("class is final", Modifier.isFinal(TranslatingHost.class.getModifiers()) ? 1 : 0, 1);
        Due.is("NONE", NONE, -1);
    }

    private static void newObject() {
        TranslatingHost x = new TranslatingHost();
        for (int r = 0; r < 33; r++) {
            Due.is("reg(" + r + ")", x.reg(r), 0);
        }
        Due.is("level", x.reg(33), 1);
        for (int number : CSRS) {
            Due.is("csr " + Integer.toHexString(number), x.csr(number), 0);
        }
        for (int what = 0; what < 7; what++) {
            Due.is("count(" + what + ")", x.count(what), 0);
        }
        for (int address = 0; address < 262144; address += 4096) {
            Due.is("word(" + address + ")", x.word(address), 0);
        }
        for (int sector = 0; sector < 64; sector++) {
            Due.is("disk(" + sector + ", 127)", x.disk(sector, 127), 0);
        }
        Due.is("out(0)", x.out(0), NONE);
        Due.is("place()", x.place(), NONE);
        Due.is("label(0)", x.label(0), NONE);
        Due.is("told(0)", x.told(0), NONE);
        Due.is("end(20)", x.end(20), NONE);
        Due.is("assemble of nothing", x.assemble(0), 0);
        Due.is("COMPARE's lower half", compareAfterReset(0x108), 0xffffffffL);
        Due.is("COMPARE's upper half", compareAfterReset(0x10c), 0xffffffffL);
    }

    private static long compareAfterReset(int offset) {
        TranslatingHost x = Due.after(2, "lui x1, 0x10000\nlw x2, " + offset + "(x1)");
        return x.reg(2) & 0xffffffffL;
    }

    private static void loadAndWord() {
        TranslatingHost x = new TranslatingHost();
        Due.is("load(16, ..)", x.load(16, 1, -2, Integer.MIN_VALUE, 4), 4);
        Due.is("word(16)", x.word(16), 1);
        Due.is("word(20)", x.word(20), 0xfffffffeL);
        Due.is("word(24)", x.word(24), 0x80000000L);
        Due.is("word(28)", x.word(28), 4);
        Due.is("word(12)", x.word(12), 0);
        Due.is("word(32)", x.word(32), 0);
        int[] wrong = {1, 2, 3, 18, -4, -16, 262132, 262136, 262140, 262144, Integer.MIN_VALUE, Integer.MAX_VALUE};
        for (int address : wrong) {
            Due.is("load(" + address + ", ..)", x.load(address, 7, 7, 7, 7), NONE);
        }
        Due.is("word(262140) after wrong loads", x.word(262140), 0);
        Due.is("word(0) after wrong loads", x.word(0), 0);
        Due.is("load at the end", x.load(262128, 5, 6, 7, 8), 4);
        Due.is("word(262140)", x.word(262140), 8);
        int[] none = {1, 2, 3, 262141, 262144, -4, Integer.MIN_VALUE, 0x10000000, 0x7ffffffc};
        for (int address : none) {
            Due.is("word(" + address + ")", x.word(address), -1);
        }
    }

    private static void setAndReg() {
        TranslatingHost x = new TranslatingHost();
        for (int r = 1; r <= 32; r++) {
            Due.is("set(" + r + ", ..)", x.set(r, -r), 1);
        }
        for (int r = 1; r <= 32; r++) {
            Due.is("reg(" + r + ")", x.reg(r), -r);
        }
        int[] wrong = {0, 33, 34, -1, Integer.MIN_VALUE, Integer.MAX_VALUE};
        for (int r : wrong) {
            Due.is("set(" + r + ", 5)", x.set(r, 5), NONE);
        }
        Due.is("reg(0)", x.reg(0), 0);
        Due.is("reg(33)", x.reg(33), 1);
        Due.is("reg(34)", x.reg(34), -1);
        Due.is("reg(-1)", x.reg(-1), -1);
        Due.is("reg(least)", x.reg(Integer.MIN_VALUE), -1);
    }

    private static void key() {
        TranslatingHost x = new TranslatingHost();
        Due.is("key(-1)", x.key(-1), NONE);
        Due.is("key(256)", x.key(256), NONE);
        for (int i = 1; i <= 200; i++) {
            Due.is("key", x.key(i & 255), i);
        }
        Due.is("key at 200", x.key(1), NONE);
        Due.is("count(4)", x.count(4), 200);
    }

    private static void run() {
        TranslatingHost x = Due.with("nop\nnop\nj -4");
        Due.is("run(-1)", x.run(-1), NONE);
        Due.is("run(100001)", x.run(100001), NONE);
        Due.is("run(least)", x.run(Integer.MIN_VALUE), NONE);
        Due.is("TIME after wrong runs", x.count(0), 0);
        Due.is("run(0)", x.run(0), 0);
        Due.is("run(100000)", x.run(100000), 100000);
        Due.is("TIME", x.count(0), 100000);
        Due.is("INSTRET", x.count(1), 100000);
        TranslatingHost halts = Due.with("li x1, 0x10000200\nli x2, -7\nsw x2, 0(x1)\nnop");
        Due.is("run to HALT", halts.run(50), 4);
        Due.is("HALTED", halts.count(5), 1);
        Due.is("CODE", halts.count(6), -7);
        Due.is("INSTRET at HALT", halts.count(1), 4);
        Due.is("run when HALTED", halts.run(50), 0);
        Due.is("pc at HALT", halts.reg(32), 16);
    }

    private static void csr() {
        TranslatingHost x = Due.after(3, "li x1, -1\ncsrrw x0, sscratch, x1\ncsrrw x0, satp, x0");
        Due.is("csr(sscratch) is without sign", x.csr(0x140), 0xffffffffL);
        Due.is("csr(time)", x.csr(0xc01), 3);
        Due.is("csr(cycle)", x.csr(0xc00), 3);
        Due.is("csr(instret)", x.csr(0xc02), 3);
        Due.is("csr(timeh)", x.csr(0xc81), 0);
        x.key(5);
        Due.is("csr(sip) with INPUT", x.csr(0x144), 1 << 9);
        int[] none = {0, 0xff, 0x101, 0x102, 0x106, 0x145, 0x181, 0x300, 0xc03, 0xbff, 0xc83, 0x1100, -1, 0x80000100};
        for (int number : none) {
            Due.is("csr(" + Integer.toHexString(number) + ")", x.csr(number), -1);
        }
    }

    private static void count() {
        TranslatingHost x = Due.with("ecall");
        x.run(3);
        Due.is("TIME", x.count(0), 3);
        Due.is("INSTRET", x.count(1), 0);
        Due.is("TRAPS", x.count(2), 3);
        Due.is("count(7)", x.count(7), -1);
        Due.is("count(-1)", x.count(-1), -1);
    }

    private static void out() {
        TranslatingHost x = Due.with("lui x1, 0x10000\nli x2, 1003\naddi x3, x3, 1\nsw x3, 0(x1)\nbne x3, x2, -8\nj 0");
        x.run(5000);
        Due.is("OUTPUT", x.count(3), 1003);
        Due.is("out(0)", x.out(0), 1);
        Due.is("out(255)", x.out(255), 0);
        Due.is("out(999)", x.out(999), 1000 & 255);
        Due.is("out(1000)", x.out(1000), NONE);
        Due.is("out(1002)", x.out(1002), NONE);
        Due.is("out(-1)", x.out(-1), NONE);
        TranslatingHost one = Due.after(2, "lui x1, 0x10000\nsw x1, 0(x1)\nj 0");
        Due.is("out(0) of one", one.out(0), 0);
        Due.is("out(1) of one", one.out(1), NONE);
    }

    private static void reset() {
        TranslatingHost x = Due.with("a: li x1, 0x10000300\nli x3, 5\nsw x3, 0(x1)\nli x4, 512\nsw x4, 4(x1)\n"
            + "li x5, 1\nsw x5, 8(x1)\nsw x3, -0x300(x1)\nsw x3, -0x1f8(x1)\ncsrrw x0, sscratch, x1\n"
            + "csrrw x0, stvec, x3\necall");
        x.key(4);
        x.write(5, 0, 77);
        Due.is("run", x.run(13), 13);
        Due.is("disk to MEMORY", x.word(512), 77);
        x.tell(0);
        String told = Due.told(x);
        Due.feed(x, "bad text 12345678901");
        x.assemble(0);
        Due.feed(x, "12345678901234567890");
        long first = x.word(0);
        Due.is("reset()", x.reset(), 13);
        Due.is("reset() anew", x.reset(), 0);
        for (int r = 0; r < 33; r++) {
            Due.is("reg(" + r + ") after reset", x.reg(r), 0);
        }
        Due.is("LEVEL after reset", x.reg(33), 1);
        for (int number : CSRS) {
            Due.is("csr " + Integer.toHexString(number) + " after reset", x.csr(number), 0);
        }
        for (int what = 0; what < 7; what++) {
            Due.is("count(" + what + ") after reset", x.count(what), 0);
        }
        Due.is("out(0) after reset", x.out(0), NONE);
        Due.is("MEMORY stays", x.word(0), first);
        Due.is("the disk stays", x.disk(5, 0), 77);
        Due.is("labels stay", x.label(0), 0);
        Due.is("place() stays", x.place(), 0);
        Due.is("told() stays", Due.told(x), told);
        Due.is("THE TAPE stays", x.end(20), 20);
        x.assemble(0);
        Due.assemble(x, 0, "li x1, 0x10000300\nlw x2, 0(x1)\nlw x3, 4(x1)\nlw x4, 8(x1)\nlw x5, -0x1f8(x1)\n");
        x.run(6);
        Due.is("SECTOR after reset", x.reg(2), 0);
        Due.is("PLACE after reset", x.reg(3), 0);
        Due.is("ACT after reset", x.reg(4), 0);
        Due.is("COMPARE after reset", x.reg(5), -1);
        TranslatingHost halted = Due.after(3, "li x1, 0x10000200\nsw x1, 0(x1)");
        Due.is("HALTED", halted.count(5), 1);
        Due.is("reset() of a HALTED one", halted.reset(), 3);
        Due.is("HALTED after reset", halted.count(5), 0);
        Due.is("CODE after reset", halted.count(6), 0);
        Due.is("runs again", halted.run(2), 2);
    }

    private static void diskAndWrite() {
        TranslatingHost x = new TranslatingHost();
        Due.is("write(63, 127, -1)", x.write(63, 127, -1), 1);
        Due.is("write(0, 0, 9)", x.write(0, 0, 9), 1);
        Due.is("write(1, 0, 8)", x.write(1, 0, 8), 1);
        Due.is("disk(63, 127)", x.disk(63, 127), 0xffffffffL);
        Due.is("disk(0, 0)", x.disk(0, 0), 9);
        Due.is("disk(1, 0)", x.disk(1, 0), 8);
        Due.is("disk(0, 127)", x.disk(0, 127), 0);
        int[][] wrong = {{64, 0}, {-1, 0}, {0, 128}, {0, -1}, {63, 128}, {Integer.MIN_VALUE, 0}, {0, Integer.MAX_VALUE}};
        for (int[] w : wrong) {
            Due.is("disk(" + w[0] + ", " + w[1] + ")", x.disk(w[0], w[1]), -1);
            Due.is("write(" + w[0] + ", " + w[1] + ", 1)", x.write(w[0], w[1], 1), NONE);
        }
    }

    /** A program that writes itself, told by single steps and by one run. */
    private static void check() {
        String program = "li x5, 1\nli x6, 0x00258593\nfirst: addi x11, x11, 1\nsw x6, 12(x0)\nj first";
        TranslatingHost single = Due.with(program);
        TranslatingHost whole = Due.with(program);
        for (int i = 0; i < 40; i++) {
            single.run(1);
            Due.is("check()", single.check(), 1);
        }
        whole.run(40);
        Due.is("the program wrote itself", single.reg(11) > 12 ? 1 : 0, 1);
        Due.is("x11 by one run", whole.reg(11), single.reg(11));
        Due.is("check() by one run", whole.check(), 1);
    }
}
