import java.util.Random;

/** Runs of made-up programs beside PlainMachine, which was written apart; an object is used for 512 calls at most. */
public final class RandomRunsTest {
    private static final int[] CSRS = {
        0x100, 0x104, 0x105, 0x140, 0x141, 0x142, 0x143, 0x144, 0x180, 0xc00, 0xc01, 0xc02, 0xc80, 0xc81, 0xc82,
    };
    private static final int[] CODES = {0x37, 0x17, 0x6f, 0x67, 0x63, 0x03, 0x23, 0x13, 0x33, 0x2f, 0x0f, 0x73};
    private static final int[] DEVICES = {0, 4, 0x100, 0x104, 0x108, 0x10c, 0x200, 0x300, 0x304, 0x308, 0x30c, 2};
    private static final int ROOT = 0x20000;
    private static final int NEXT = 0x21000;

    private final Random random;
    private final TranslatingHost host = new TranslatingHost();
    private final PlainMachine plain = new PlainMachine();
    private final int seed;
    private boolean wrong;

    private RandomRunsTest(int seed) {
        this.seed = seed;
        random = new Random(seed);
    }

    public static void main(String[] args) {
        long traps = 0;
        long retired = 0;
        long interrupts = 0;
        for (int seed = 1; seed <= 8000; seed++) {
            RandomRunsTest one = new RandomRunsTest(seed);
            one.go();
            traps += one.plain.traps;
            retired += one.plain.instret;
            interrupts += one.plain.interrupts;
        }
        Due.is("TRAPS were taken", traps > 10000 ? 1 : 0, 1);
        Due.is("instructions were retired", retired > 10000 ? 1 : 0, 1);
        Due.is("INTERRUPTS were taken", interrupts > 100 ? 1 : 0, 1);
        Due.done();
    }

    private int below(int n) {
        return random.nextInt(n);
    }

    private void load(int at, int a, int b, int c, int d) {
        host.load(at, a, b, c, d);
        plain.putWord(at, a);
        plain.putWord(at + 4, b);
        plain.putWord(at + 8, c);
        plain.putWord(at + 12, d);
    }

    private void set(int r, int v) {
        host.set(r, v);
        if (r == 32) {
            plain.pc = v;
        } else {
            plain.x[r] = v;
        }
    }

    private void same(String what, long got, long want) {
        if (got != want && !wrong) {
            wrong = true;
            Due.is("seed " + seed + ", step " + plain.time + ": " + what, got, want);
        }
    }

    private void go() {
        for (int at = 0; at < 0x200; at += 16) {
            load(at, program(), program(), program(), program());
        }
        for (int at = 0x400; at < 0x440; at += 16) {
            load(at, program(), program(), program(), program());
        }
        if (below(3) > 0) {
            // A handler that goes on behind what trapped: csrrs x6, sepc; addi x6, x6, 4; csrrw sepc, x6; sret.
            load(0x400, 0x14102373, 0x00430313, 0x14131073, 0x10200073);
        }
        tables();
        for (int r = 1; r < 32; r++) {
            set(r, value());
        }
        for (int i = 0; i < 8; i++) {
            int where = below(64);
            int v = random.nextInt();
            host.write(where, i, v);
            plain.disk[where * 128 + i] = v;
        }
        begin();
        plain.written.clear();
        int turns = 1 + below(40);
        for (int i = 0; i < turns && !wrong && !plain.halted; i++) {
            if (below(12) == 0) {
                host.key(i);
                plain.input.add(i);
            }
            if (below(10) == 0) {
                set(below(33) == 0 ? 32 : 1 + below(31), value());
            }
            int steps = 1 + below(3);
            int want = 0;
            for (int k = 0; k < steps && !plain.halted; k++) {
                plain.step();
                want++;
            }
            same("run", host.run(steps), want);
            same("pc", host.reg(32), plain.pc);
        }
        compare();
        compareMemory();
    }

    /** Sets the CSRs by instructions, as a program would. */
    private void begin() {
        int[] numbers = {0x105, 0x104, 0x100, 0x141, 0x180};
        int satp = below(3) == 0 ? 0 : 0x80000000 | ROOT >> 12;
        int[] values = {below(4) == 0 ? random.nextInt() : 0x400, random.nextInt(), random.nextInt(), below(0x200), satp};
        for (int i = 0; i < 5; i++) {
            load(0x600, numbers[i] << 20 | 5 << 15 | 0x1073, 0, 0, 0);
            set(5, values[i]);
            set(32, 0x600);
            host.run(1);
            plain.step();
        }
        set(5, value());
        set(32, 2 * below(0x80));
    }

    private void tables() {
        int all = 0xcf;
        load(ROOT, below(3) == 0 ? NEXT >> 2 | 1 : all | (below(2) << 4), NEXT >> 2 | 1, entry(), entry());
        load(ROOT + 0x100, 0x10000 << 10 | all, entry(), random.nextInt(), 0x100000 << 10 | all);
        for (int at = NEXT; at < NEXT + 0x100; at += 16) {
            load(at, entry(), entry(), entry(), 0x10000 << 10 | all);
        }
        if (below(2) == 0) {
            load(NEXT, all | (below(2) << 4), entry(), entry(), entry());
        }
    }

    private int entry() {
        int flags = below(2) == 0 ? 0xcf | below(2) << 4 : below(256);
        int page = below(6) == 0 ? random.nextInt(1 << 22) : below(0x44);
        return page << 10 | flags;
    }

    private int value() {
        switch (below(9)) {
            case 0: return random.nextInt();
            case 1: return below(64) - 32;
            case 2: return 0x10000000 + DEVICES[below(DEVICES.length)];
            case 3: return 0x400000 + 4 * below(0x10000);
            case 4: return below(0x800);
            case 5: return ROOT + 4 * below(16);
            case 6: return NEXT + 4 * below(64);
            case 7: return 1 << below(32);
            default: return 4 * below(0x11000);
        }
    }

    private int program() {
        if (below(3) == 0) {
            return half() | half() << 16;
        }
        int code = CODES[below(CODES.length)];
        int w = random.nextInt() & ~127 | code;
        if (code == 0x33 || code == 0x13 && below(2) == 0) {
            int[] upper = {0, 0x20, 1, below(128)};
            w = w & 0x1ffffff | upper[below(4)] << 25;
        }
        if (code == 0x03 || code == 0x23 || code == 0x67) {
            w = w & 0x0007ffff | below(8) << 20 | below(2) * 0x12 << 15;
            w = below(2) == 0 ? w | random.nextInt(32) << 15 : w;
            w &= below(2) == 0 ? ~0x5000 : -1;
        }
        if (code == 0x6f || code == 0x63) {
            w = w & 0x01fff07f | below(16) << 8;
        }
        if (code == 0x2f) {
            w = w & ~0x7000 | 0x2000;
            w = below(3) == 0 ? w & 0x0e0fffff | 0x10000000 : below(2) == 0 ? w & 0x07ffffff | 0x18000000 : w;
        }
        return code == 0x73 ? systemOne(w) : w;
    }

    private int systemOne(int w) {
        int[] wholes = {0x73, 0x100073, 0x10200073, 0x10500073, 0x12000073 | random.nextInt(1024) << 15, 0x10200073};
        if (below(2) == 0) {
            return wholes[below(wholes.length)];
        }
        return w & 0xfffff | CSRS[below(CSRS.length)] << 20;
    }

    private int half() {
        int h = random.nextInt(65536);
        return (h & 3) == 3 ? h & ~2 : h;
    }

    private void compare() {
        for (int r = 0; r < 32; r++) {
            same("x" + r, host.reg(r), plain.x[r]);
        }
        same("pc", host.reg(32), plain.pc);
        same("LEVEL", host.reg(33), plain.level);
        for (int number : CSRS) {
            same("csr " + Integer.toHexString(number), host.csr(number), plain.csr(number) & 0xffffffffL);
        }
        same("TIME", host.count(0), plain.time);
        same("INSTRET", host.count(1), plain.instret);
        same("TRAPS", host.count(2), plain.traps);
        same("OUTPUT", host.count(3), plain.output.length());
        same("INPUT", host.count(4), plain.input.size());
        same("HALTED", host.count(5), plain.halted ? 1 : 0);
        same("CODE", host.count(6), plain.code);
        same("check()", host.check(), 1);
        for (int i = 0; i < 20; i++) {
            int address = value();
            int how = below(3);
            int level = below(2);
            same("leads " + Integer.toHexString(address) + " " + how + " " + level, host.leads(address, how, level),
                plain.leads(address, how, level));
        }
    }

    private void compareMemory() {
        int asked = 0;
        for (int at : plain.written) {
            if (asked < 80) {
                sameWord(at);
                asked++;
            }
        }
        for (int i = 0; i < 20; i++) {
            sameWord(4 * below(65536));
        }
        asked = 0;
        for (int i : plain.writtenOnDisk) {
            if (asked < 20) {
                same("disk " + i, host.disk(i / 128, i % 128), plain.disk[i] & 0xffffffffL);
                asked++;
            }
        }
        for (int i = 0; i < plain.output.length() && i < 20; i++) {
            same("out " + i, host.out(i), plain.output.charAt(i));
        }
    }

    private void sameWord(int at) {
        same("word " + Integer.toHexString(at), host.word(at), plain.word(at) & 0xffffffffL);
    }
}
