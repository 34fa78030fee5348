import java.math.BigInteger;
import java.util.ArrayDeque;
import java.util.LinkedHashSet;
import java.util.TreeMap;

/**
 * The machine once more, for the tests alone: written from the document in another way (bytes, maps, exceptions, and
 * the short instructions done by themselves), so that a slip in one of the two shows.
 */
final class PlainMachine {
    private static final class Trap extends Exception {
        private static final long serialVersionUID = 1;
        final int cause;
        final int value;

        Trap(int cause, int value) {
            super(null, null, false, false);
            this.cause = cause;
            this.value = value;
        }
    }

    final byte[] memory = new byte[262144];
    /** The words that were written, and those of the disk, the last ones last. */
    final LinkedHashSet<Integer> written = new LinkedHashSet<>();
    final LinkedHashSet<Integer> writtenOnDisk = new LinkedHashSet<>();
    final int[] disk = new int[64 * 128];
    final int[] x = new int[32];
    final TreeMap<Integer, Integer> csrs = new TreeMap<>();
    final ArrayDeque<Integer> input = new ArrayDeque<>();
    final StringBuilder output = new StringBuilder();
    int pc;
    int level = 1;
    long time;
    long instret;
    long traps;
    long interrupts;
    boolean halted;
    int code;
    private long compare = -1;
    private int sector;
    private int place;
    private int act;
    private Long reservation;
    private int after;

    PlainMachine() {
        for (int n : new int[] {0x100, 0x104, 0x105, 0x140, 0x141, 0x142, 0x143, 0x180}) {
            csrs.put(n, 0);
        }
    }

    int word(int at) {
        return half(at) | half(at + 2) << 16;
    }

    private int half(int at) {
        return memory[at] & 255 | (memory[at + 1] & 255) << 8;
    }

    void putWord(int at, int v) {
        put(at, v, 4);
    }

    private void put(int at, int v, int bytes) {
        written.add(at & ~3);
        for (int i = 0; i < bytes; i++) {
            memory[at + i] = (byte) (v >> 8 * i);
        }
    }

    private boolean status(int bit) {
        return (csrs.get(0x100) >> bit & 1) == 1;
    }

    private int pending() {
        boolean timer = unsigned(time).compareTo(unsigned(compare)) >= 0;
        return (timer ? 1 << 5 : 0) | (input.isEmpty() ? 0 : 1 << 9);
    }

    private static BigInteger unsigned(long v) {
        return new BigInteger(Long.toUnsignedString(v));
    }

    /** null for none such. */
    Integer csr(int number) {
        switch (number) {
            case 0x144: return pending();
            case 0xc00:
            case 0xc01: return (int) time;
            case 0xc80:
            case 0xc81: return (int) (time >> 32);
            case 0xc02: return (int) instret;
            case 0xc82: return (int) (instret >> 32);
            default: return csrs.get(number);
        }
    }

    void step() {
        int due = pending() & csrs.get(0x104);
        if (due != 0 && (level == 0 || status(1))) {
            enter((due & 1 << 9) != 0 ? 0x80000009 : 0x80000005, 0);
        } else {
            try {
                instruction();
                pc = after;
                instret++;
            } catch (Trap t) {
                enter(t.cause, t.value);
            }
        }
        x[0] = 0;
        time++;
    }

    private void enter(int cause, int value) {
        csrs.put(0x141, pc & -2);
        csrs.put(0x142, cause);
        csrs.put(0x143, value);
        int kept = csrs.get(0x100) & (1 << 18 | 1 << 19);
        csrs.put(0x100, kept | level << 8 | (status(1) ? 1 << 5 : 0));
        level = 1;
        pc = csrs.get(0x105);
        reservation = null;
        traps++;
        interrupts += cause < 0 ? 1 : 0;
    }

    /** how: 0 fetch, 1 load, 2 store; the physical address. */
    long translate(int address, int how, int atLevel) throws Trap {
        int[] page = {12, 13, 15};
        int[] access = {1, 5, 7};
        long physical = address & 0xffffffffL;
        int satp = csrs.get(0x180);
        if (satp < 0) {
            long table = satp & 0x3fffffL;
            physical = -1;
            for (int depth = 0; depth < 2 && physical < 0; depth++) {
                int shift = depth == 0 ? 22 : 12;
                long at = table * 4096 + 4 * ((address & 0xffffffffL) >> shift & 1023);
                if (at >= 262144) {
                    throw new Trap(access[how], address);
                }
                int e = word((int) at);
                boolean v = (e & 1) != 0;
                boolean r = (e & 2) != 0;
                boolean w = (e & 4) != 0;
                boolean ex = (e & 8) != 0;
                boolean u = (e & 16) != 0;
                boolean a = (e & 64) != 0;
                boolean d = (e & 128) != 0;
                if (!v || w && !r) {
                    throw new Trap(page[how], address);
                }
                table = e >>> 10;
                if (!r && !w && !ex) {
                    if (depth == 1) {
                        throw new Trap(page[how], address);
                    }
                    continue;
                }
                boolean good = depth == 1 || (table & 1023) == 0;
                good &= how == 0 ? ex : how == 1 ? r || ex && status(19) : w;
                good &= atLevel == 0 ? u : !u || how != 0 && status(18);
                good &= a && (how != 2 || d);
                if (!good) {
                    throw new Trap(page[how], address);
                }
                physical = table * 4096 + ((address & 0xffffffffL) & (1 << shift) - 1);
            }
        }
        if (physical >= 262144 && (how == 0 || !isDevice(physical))) {
            throw new Trap(access[how], address);
        }
        return physical;
    }

    static boolean isDevice(long at) {
        long[] all = {0, 4, 0x100, 0x104, 0x108, 0x10c, 0x200, 0x300, 0x304, 0x308};
        for (long one : all) {
            if (at == 0x10000000L + one) {
                return true;
            }
        }
        return false;
    }

    private int read(int address, int bytes) throws Trap {
        if (address % bytes != 0) {
            throw new Trap(4, address);
        }
        long at = translate(address, 1, level);
        if (at < 262144) {
            return bytes == 1 ? memory[(int) at] & 255 : bytes == 2 ? half((int) at) : word((int) at);
        }
        if (bytes < 4) {
            throw new Trap(5, address);
        }
        switch ((int) at & 0xfff) {
            case 0: return input.isEmpty() ? -1 : input.remove();
            case 4: return input.isEmpty() ? 0 : 1;
            case 0x100: return (int) time;
            case 0x104: return (int) (time >> 32);
            case 0x108: return (int) compare;
            case 0x10c: return (int) (compare >> 32);
            case 0x300: return sector;
            case 0x304: return place;
            case 0x308: return act;
            default: return 0;
        }
    }

    private void write(int address, int v, int bytes) throws Trap {
        if (address % bytes != 0) {
            throw new Trap(6, address);
        }
        long at = translate(address, 2, level);
        if (at < 262144) {
            put((int) at, v, bytes);
            return;
        }
        if (bytes < 4) {
            throw new Trap(7, address);
        }
        int offset = (int) at & 0xfff;
        if (offset == 0) {
            output.append((char) (v & 255));
        } else if (offset == 0x108) {
            compare = compare >> 32 << 32 | v & 0xffffffffL;
        } else if (offset == 0x10c) {
            compare = (long) v << 32 | compare & 0xffffffffL;
        } else if (offset == 0x200) {
            halted = true;
            code = v;
        } else if (offset == 0x300) {
            sector = v;
        } else if (offset == 0x304) {
            place = v;
        } else if (offset == 0x308) {
            boolean well = (v == 1 || v == 2) && sector >= 0 && sector < 64 && place % 4 == 0 && place >= 0 && place + 511L < 262144;
            act = well ? 1 : 0;
            for (int i = 0; well && i < 128; i++) {
                if (v == 1) {
                    putWord(place + 4 * i, disk[sector * 128 + i]);
                } else {
                    disk[sector * 128 + i] = word(place + 4 * i);
                    writtenOnDisk.add(sector * 128 + i);
                }
            }
        }
    }

    private void instruction() throws Trap {
        if (pc % 2 != 0) {
            throw new Trap(0, pc);
        }
        int h = half((int) translate(pc, 0, level));
        after = pc + 2;
        if (h % 4 != 3) {
            shortOne(h, h >> 13, h >> 7 & 31, h >> 2 & 31, 8 + (h >> 7 & 7), 8 + (h >> 2 & 7));
            return;
        }
        after = pc + 4;
        longOne(h | half((int) translate(pc + 2, 0, level)) << 16);
    }

    /** Bits of a half by a told list: "12:5 6..2:4..0" is {12, 5, 6, 4, 5, 3, ..}. */
    private static int gather(int h, boolean sign, int... pairs) {
        int v = 0;
        int top = 0;
        for (int i = 0; i < pairs.length; i += 2) {
            v += (h >> pairs[i] & 1) << pairs[i + 1];
            top = Math.max(top, pairs[i + 1]);
        }
        return sign && (v >> top & 1) == 1 ? v - (2 << top) : v;
    }

    private void shortOne(int h, int f, int rd, int rs2, int high, int low) throws Trap {
        Trap illegal = new Trap(2, h);
        int six = gather(h, true, 12, 5, 6, 4, 5, 3, 4, 2, 3, 1, 2, 0);
        int wordOffset = gather(h, false, 12, 5, 11, 4, 10, 3, 6, 2, 5, 6);
        boolean bit12 = (h & 0x1000) != 0;
        switch (h % 4 * 8 + f) {
            case 0: {
                int n = gather(h, false, 12, 5, 11, 4, 10, 9, 9, 8, 8, 7, 7, 6, 6, 2, 5, 3);
                if (n == 0) {
                    throw illegal;
                }
                x[low] = x[2] + n;
                return;
            }
            case 2: x[low] = read(x[high] + wordOffset, 4); return;
            case 6: write(x[high] + wordOffset, x[low], 4); return;
            case 8: x[rd] += six; return;
            case 9:
            case 13: {
                int to = gather(h, true, 12, 11, 11, 4, 10, 9, 9, 8, 8, 10, 7, 6, 6, 7, 5, 3, 4, 2, 3, 1, 2, 5);
                if (f == 1) {
                    x[1] = after;
                }
                after = pc + to;
                return;
            }
            case 10: x[rd] = six; return;
            case 11:
                if (six == 0) {
                    throw illegal;
                }
                if (rd == 2) {
                    x[2] += gather(h, true, 12, 9, 6, 4, 5, 6, 4, 8, 3, 7, 2, 5);
                } else {
                    x[rd] = six << 12;
                }
                return;
            case 12: {
                int kind = h >> 10 & 3;
                if (kind != 2 && bit12) {
                    throw illegal;
                }
                if (kind == 0) {
                    x[high] >>>= rs2;
                } else if (kind == 1) {
                    x[high] >>= rs2;
                } else if (kind == 2) {
                    x[high] &= six;
                } else {
                    int a = x[high];
                    int b = x[low];
                    int[] results = {a - b, a ^ b, a | b, a & b};
                    x[high] = results[h >> 5 & 3];
                }
                return;
            }
            case 14:
            case 15:
                if ((x[high] == 0) == (f == 6)) {
                    after = pc + gather(h, true, 12, 8, 11, 4, 10, 3, 6, 7, 5, 6, 4, 2, 3, 1, 2, 5);
                }
                return;
            case 16:
                if (bit12) {
                    throw illegal;
                }
                x[rd] <<= rs2;
                return;
            case 18:
                if (rd == 0) {
                    throw illegal;
                }
                x[rd] = read(x[2] + gather(h, false, 12, 5, 6, 4, 5, 3, 4, 2, 3, 7, 2, 6), 4);
                return;
            case 20:
                if (rs2 != 0) {
                    x[rd] = bit12 ? x[rd] + x[rs2] : x[rs2];
                } else if (rd != 0) {
                    int to = x[rd] & -2;
                    if (bit12) {
                        x[1] = after;
                    }
                    after = to;
                } else if (bit12) {
                    throw new Trap(3, pc);
                } else {
                    throw illegal;
                }
                return;
            case 22: write(x[2] + gather(h, false, 12, 5, 11, 4, 10, 3, 9, 2, 8, 7, 7, 6), x[rs2], 4); return;
            default: throw illegal;
        }
    }

    private void longOne(int w) throws Trap {
        Trap illegal = new Trap(2, w);
        int rd = w >> 7 & 31;
        int f3 = w >> 12 & 7;
        int a = x[w >> 15 & 31];
        int b = x[w >> 20 & 31];
        int f7 = w >>> 25;
        int i = w >> 20;
        switch (w & 127) {
            case 0x37: x[rd] = w & ~4095; return;
            case 0x17: x[rd] = pc + (w & ~4095); return;
            case 0x6f: {
                int to = (w >> 31) * (1 << 20) + (w & 0xff000) + (w >> 20 & 1) * 2048 + (w >> 21 & 1023) * 2;
                x[rd] = after;
                after = pc + to;
                return;
            }
            case 0x67:
                if (f3 != 0) {
                    throw illegal;
                }
                x[rd] = after;
                after = a + i & -2;
                return;
            case 0x63: {
                if (f3 == 2 || f3 == 3) {
                    throw illegal;
                }
                int order = f3 < 6 ? Integer.compare(a, b) : Integer.compareUnsigned(a, b);
                boolean taken = f3 < 2 ? order == 0 : order < 0;
                if (taken != (f3 % 2 == 1)) {
                    after = pc + (w >> 31) * 4096 + (w >> 7 & 1) * 2048 + (w >> 25 & 63) * 32 + (w >> 8 & 15) * 2;
                }
                return;
            }
            case 0x03: {
                if (f3 == 3 || f3 > 5) {
                    throw illegal;
                }
                int v = read(a + i, 1 << f3 % 4);
                x[rd] = f3 == 0 ? (byte) v : f3 == 1 ? (short) v : v;
                return;
            }
            case 0x23:
                if (f3 > 2) {
                    throw illegal;
                }
                write(a + (w >> 25) * 32 + rd, b, 1 << f3);
                return;
            case 0x13:
                if (f3 == 1 && f7 != 0 || f3 == 5 && f7 != 0 && f7 != 0x20) {
                    throw illegal;
                }
                x[rd] = compute(f3 == 5 && f7 == 0x20 ? 13 : f3, a, f3 % 4 == 1 ? i & 31 : i);
                return;
            case 0x33:
                if (f7 != 0 && f7 != 1 && !(f7 == 0x20 && (f3 == 0 || f3 == 5))) {
                    throw illegal;
                }
                x[rd] = f7 == 1 ? multiply(f3, a, b) : compute(f7 == 0 ? f3 : f3 + 8, a, b);
                return;
            case 0x2f: atomic(w, rd, f3, a, b, illegal); return;
            case 0x0f:
                if (f3 > 1) {
                    throw illegal;
                }
                return;
            case 0x73: system(w, rd, f3, a, illegal); return;
            default: throw illegal;
        }
    }

    private static int compute(int kind, int a, int b) {
        int s = b & 31;
        switch (kind) {
            case 0: return a + b;
            case 8: return a - b;
            case 1: return a << s;
            case 2: return a < b ? 1 : 0;
            case 3: return Integer.compareUnsigned(a, b) < 0 ? 1 : 0;
            case 4: return a ^ b;
            case 5: return a >>> s;
            case 13: return a >> s;
            case 6: return a | b;
            default: return a & b;
        }
    }

    private static int multiply(int kind, int a, int b) {
        BigInteger sa = BigInteger.valueOf(a);
        BigInteger sb = BigInteger.valueOf(b);
        BigInteger ua = BigInteger.valueOf(a & 0xffffffffL);
        BigInteger ub = BigInteger.valueOf(b & 0xffffffffL);
        switch (kind) {
            case 0: return sa.multiply(sb).intValue();
            case 1: return sa.multiply(sb).shiftRight(32).intValue();
            case 2: return sa.multiply(ub).shiftRight(32).intValue();
            case 3: return ua.multiply(ub).shiftRight(32).intValue();
            case 4: return b == 0 ? -1 : sa.divide(sb).intValue();
            case 5: return b == 0 ? -1 : ua.divide(ub).intValue();
            case 6: return b == 0 ? a : sa.remainder(sb).intValue();
            default: return b == 0 ? a : ua.remainder(ub).intValue();
        }
    }

    private void atomic(int w, int rd, int f3, int a, int b, Trap illegal) throws Trap {
        int kind = w >>> 27;
        boolean known = " 0 1 2 3 4 8 12 16 20 24 28 ".contains(" " + kind + " ") && (kind != 2 || (w >> 20 & 31) == 0);
        if (f3 != 2 || !known) {
            throw illegal;
        }
        int how = kind == 2 ? 1 : 2;
        if (a % 4 != 0) {
            throw new Trap(how == 1 ? 4 : 6, a);
        }
        long at = translate(a, how, level);
        if (at >= 262144) {
            throw new Trap(how == 1 ? 5 : 7, a);
        }
        int old = word((int) at);
        int made;
        switch (kind) {
            case 2:
                reservation = at;
                x[rd] = old;
                return;
            case 3: {
                boolean holds = reservation != null && reservation == at;
                reservation = null;
                if (holds) {
                    putWord((int) at, b);
                }
                x[rd] = holds ? 0 : 1;
                return;
            }
            case 1: made = b; break;
            case 0: made = old + b; break;
            case 4: made = old ^ b; break;
            case 12: made = old & b; break;
            case 8: made = old | b; break;
            case 16: made = Math.min(old, b); break;
            case 20: made = Math.max(old, b); break;
            case 24: made = Integer.compareUnsigned(old, b) < 0 ? old : b; break;
            default: made = Integer.compareUnsigned(old, b) > 0 ? old : b; break;
        }
        putWord((int) at, made);
        x[rd] = old;
    }

    private void system(int w, int rd, int f3, int a, Trap illegal) throws Trap {
        if (f3 == 0) {
            if (w == 0x73) {
                throw new Trap(8 + level, 0);
            }
            if (w == 0x100073) {
                throw new Trap(3, pc);
            }
            boolean fence = w >>> 25 == 9 && rd == 0;
            if (level == 0 || !fence && w != 0x10200073 && w != 0x10500073) {
                throw illegal;
            }
            if (w == 0x10200073) {
                level = status(8) ? 1 : 0;
                int kept = csrs.get(0x100) & (1 << 18 | 1 << 19);
                csrs.put(0x100, kept | 1 << 5 | (status(5) ? 2 : 0));
                after = csrs.get(0x141);
                reservation = null;
            }
            return;
        }
        int number = w >>> 20;
        int field = w >> 15 & 31;
        Integer old = csr(number);
        boolean writes = f3 % 4 == 1 || field != 0;
        if (f3 == 4 || old == null || number >= 0xc00 && writes || level == 0 && number >> 8 == 1) {
            throw illegal;
        }
        int v = f3 > 4 ? field : a;
        if (writes) {
            putCsr(number, f3 % 4 == 1 ? v : f3 % 4 == 2 ? old | v : old & ~v);
        }
        x[rd] = old;
    }

    private void putCsr(int number, int v) {
        switch (number) {
            case 0x100: csrs.put(number, v & (1 << 1 | 1 << 5 | 1 << 8 | 1 << 18 | 1 << 19)); break;
            case 0x104: csrs.put(number, v & (1 << 5 | 1 << 9)); break;
            case 0x105: csrs.put(number, v & -4); break;
            case 0x141: csrs.put(number, v & -2); break;
            case 0x144: break;
            default: csrs.put(number, v); break;
        }
    }

    long leads(int address, int how, int atLevel) {
        try {
            return translate(address, how, atLevel);
        } catch (Trap t) {
            return -1 - t.cause;
        }
    }
}
