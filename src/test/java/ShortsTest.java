/**
 * Section 2, the instructions of 16 bits: what each does, and which are none. Those that go through all halves use
 * one object for more than 512 calls, for this class does not count its calls.
 */
public final class ShortsTest {
    public static void main(String[] args) {
        each();
        linksAndTargets();
        none();
        sameAsLong();
        Due.done();
    }

    /** A machine whose registers all hold something else, after one instruction of 16 bits. */
    private static TranslatingHost one(String statement) {
        TranslatingHost x = new TranslatingHost();
        Due.is("assemble " + statement, Due.assemble(x, 0x200, statement), 2);
        for (int r = 1; r < 32; r++) {
            x.set(r, 0x1000 + 0x40 * r);
        }
        x.load(0x1200, 0x11111111, 0x22222222, 0x33333333, 0x44444444);
        x.set(32, 0x200);
        x.run(1);
        return x;
    }

    private static void gives(String statement, int r, int want) {
        TranslatingHost x = one(statement);
        Due.is(statement + " x" + r, x.reg(r), want);
        Due.is(statement + " pc", x.reg(32), 0x202);
        Due.is(statement + " retires", x.count(1), 1);
    }

    private static void each() {
        gives("c.addi4spn x8, 4", 8, 0x1084);
        gives("c.addi4spn x15, 1020", 15, 0x1080 + 1020);
        gives("c.addi x5, -32", 5, 0x1140 - 32);
        gives("c.addi x5, 31", 5, 0x1140 + 31);
        gives("c.addi x0, 31", 0, 0);
        gives("c.nop", 0, 0);
        gives("c.li x31, -32", 31, -32);
        gives("c.li x1, 31", 1, 31);
        gives("c.addi16sp -512", 2, 0x1080 - 512);
        gives("c.addi16sp 496", 2, 0x1080 + 496);
        gives("c.lui x5, 1", 5, 0x1000);
        gives("c.lui x5, 31", 5, 0x1f000);
        gives("c.lui x5, 1048544", 5, 0xfffe0000);
        gives("c.lui x5, 1048575", 5, 0xfffff000);
        gives("c.lui x0, 1", 0, 0);
        gives("c.srli x8, 3", 8, 0x1200 >> 3);
        gives("c.srai x9, 31", 9, 0);
        gives("c.andi x10, -32", 10, 0x1280);
        gives("c.andi x11, 31", 11, 0);
        gives("c.sub x8, x9", 8, -0x40);
        gives("c.xor x8, x9", 8, 0x40);
        gives("c.or x8, x9", 8, 0x1240);
        gives("c.and x8, x9", 8, 0x1200);
        gives("c.slli x8, 19", 8, 0x1200 << 19);
        gives("c.slli x0, 0", 0, 0);
        gives("c.mv x5, x6", 5, 0x1180);
        gives("c.mv x0, x6", 0, 0);
        gives("c.add x5, x6", 5, 0x22c0);
        gives("c.lw x9, 0(x8)", 9, 0x11111111);
        gives("c.lw x9, 8(x8)", 9, 0x33333333);
        TranslatingHost sw = one("c.sw x9, 124(x8)");
        Due.is("c.sw", sw.word(0x1200 + 124), 0x1240);
        TranslatingHost swsp = one("c.swsp x31, 252(sp)");
        Due.is("c.swsp", swsp.word(0x1080 + 252), 0x17c0);
        TranslatingHost lwsp = new TranslatingHost();
        Due.assemble(lwsp, 0, "c.lwsp x31, 252(sp)");
        lwsp.load(252, 77, 0, 0, 0);
        lwsp.run(1);
        Due.is("c.lwsp", lwsp.reg(31), 77);
        TranslatingHost logical = Due.with("c.srli x15, 31");
        logical.set(15, -1);
        logical.run(1);
        Due.is("c.srli by 31", logical.reg(15), 1);
        TranslatingHost arithmetic = Due.with("c.srai x15, 31");
        arithmetic.set(15, Integer.MIN_VALUE);
        arithmetic.run(1);
        Due.is("c.srai by 31", arithmetic.reg(15), -1);
    }

    private static void goes(String statement, int r, int v, int want) {
        TranslatingHost x = new TranslatingHost();
        Due.assemble(x, 0x200, statement);
        x.set(r, v);
        x.set(32, 0x200);
        x.run(1);
        Due.is(statement, x.reg(32), want);
    }

    private static void linksAndTargets() {
        goes("c.j -2048", 1, 5, 0x200 - 2048);
        goes("c.j 2046", 1, 5, 0x200 + 2046);
        for (int bit = 2; bit <= 1024; bit *= 2) {
            goes("c.j " + bit, 1, 5, 0x200 + bit);
            goes("c.jal " + bit, 1, 5, 0x200 + bit);
        }
        for (int bit = 2; bit <= 128; bit *= 2) {
            goes("c.beqz x8, " + bit, 8, 0, 0x200 + bit);
            goes("c.bnez x15, " + bit, 15, 1, 0x200 + bit);
        }
        goes("c.beqz x8, -256", 8, 0, 0x100);
        goes("c.beqz x8, -256", 8, 1, 0x202);
        goes("c.bnez x8, -256", 8, 0, 0x202);
        goes("c.bnez x8, 254", 8, 1, 0x200 + 254);
        goes("c.jr x5", 5, 0x303, 0x302);
        goes("c.jalr x5", 5, 0x303, 0x302);
        Due.is("c.jal links", one("c.jal 4").reg(1), 0x202);
        Due.is("c.j does not", one("c.j 4").reg(1), 0x1040);
        Due.is("c.jr does not", one("c.jr x5").reg(1), 0x1040);
        Due.is("c.jalr links", one("c.jalr x5").reg(1), 0x202);
        TranslatingHost own = one("c.jalr x1");
        Due.is("c.jalr x1 links", own.reg(1), 0x202);
        Due.is("c.jalr x1 goes", own.reg(32), 0x1040);
        TranslatingHost broken = one("c.ebreak");
        Due.is("c.ebreak TRAPS", broken.count(2), 1);
        Due.is("c.ebreak's cause", broken.csr(0x142), 3);
        Due.is("c.ebreak's value", broken.csr(0x143), 0x200);
    }

    private static boolean isSome(int h) {
        int f = h >> 13;
        int rd = h >> 7 & 31;
        boolean twelve = (h & 0x1000) != 0;
        switch (h & 3) {
            case 0:
                return f == 0 ? (h & 0x1fe0) != 0 : f == 2 || f == 6;
            case 1:
                if (f == 3) {
                    return (h & 0x107c) != 0;
                }
                return f != 4 || (h >> 10 & 3) == 2 || !twelve;
            default:
                if (f == 0) {
                    return !twelve;
                }
                if (f == 4) {
                    return twelve || (h & 0xffc) != 0 && !(rd == 0 && (h & 0x7c) == 0);
                }
                return f == 2 ? rd != 0 : f == 6;
        }
    }

    private static void none() {
        TranslatingHost x = new TranslatingHost();
        for (int h = 0; h < 65536; h++) {
            if ((h & 3) == 3) {
                continue;
            }
            if (h % 64 == 0) {
                x = new TranslatingHost();
            }
            x.reset();
            x.load(0x400, h, 0, 0, 0);
            x.set(32, 0x400);
            x.run(1);
            boolean illegal = x.csr(0x142) == 2;
            if (illegal == isSome(h) || illegal && x.csr(0x143) != h) {
                Due.is("half " + Integer.toHexString(h) + " is TRAP 2", illegal ? 1 : 0, isSome(h) ? 0 : 1);
            }
        }
        Due.is("the halves are through", x.check(), 1);
    }

    /** Every half that tell() can tell does what the long one of its name does. */
    private static void sameAsLong() {
        for (int h = 0; h < 65536; h++) {
            if ((h & 3) == 3 || !isSome(h)) {
                continue;
            }
            TranslatingHost x = new TranslatingHost();
            TranslatingHost y = new TranslatingHost();
            String name = begin(x, h);
            String longer = longOf(name);
            if (longer == null) {
                continue;
            }
            Due.feed(y, longer);
            if (y.assemble(0x4000) != 4) {
                Due.is(name + " as " + longer + " at place " + y.place(), 0, 4);
                continue;
            }
            x.run(1);
            prepare(y);
            y.set(32, 0x4000);
            y.run(1);
            compare(name, x, y);
        }
        Due.yes("the halves are through", true);
    }

    private static String begin(TranslatingHost x, int h) {
        x.load(0x4000, h, 0, 0, 0);
        x.tell(0x4000);
        prepare(x);
        x.set(32, 0x4000);
        return Due.told(x);
    }

    private static void prepare(TranslatingHost x) {
        x.reset();
        for (int r = 1; r < 32; r++) {
            x.set(r, 0x8000 + 0x104 * r);
        }
        x.set(13, 0);
        x.load(0x8200, 1, 2, 3, 4);
        x.load(0x8210, 5, 6, 7, 8);
    }

    private static void compare(String name, TranslatingHost x, TranslatingHost y) {
        for (int r = 1; r < 32; r++) {
            int want = y.reg(r) == 0x4004 ? 0x4002 : y.reg(r);
            if (x.reg(r) != want) {
                Due.is(name + " x" + r, x.reg(r), want);
            }
        }
        int pc = y.reg(32) == 0x4004 && x.reg(32) == 0x4002 ? 0x4002 : y.reg(32);
        if (x.reg(32) != pc || x.count(1) != y.count(1)) {
            Due.is(name + " pc", x.reg(32), pc);
        }
        for (int at = 0x8100; at < 0x8400; at += 4) {
            if (x.word(at) != y.word(at)) {
                Due.is(name + " word " + at, x.word(at), y.word(at));
            }
        }
    }

    private static String longOf(String told) {
        String[] p = told.split("[ ,]+");
        switch (p[0]) {
            case "c.addi4spn": return "addi " + p[1] + ", x2, " + p[2];
            case "c.lw": return "lw " + p[1] + ", " + p[2];
            case "c.sw": return "sw " + p[1] + ", " + p[2];
            case "c.lwsp": return "lw " + p[1] + ", " + p[2];
            case "c.swsp": return "sw " + p[1] + ", " + p[2];
            case "c.addi": return "addi " + p[1] + ", " + p[1] + ", " + p[2];
            case "c.li": return "addi " + p[1] + ", x0, " + p[2];
            case "c.lui": return "lui " + p[1] + ", " + p[2];
            case "c.addi16sp": return "addi x2, x2, " + p[1];
            case "c.srli": return "srli " + p[1] + ", " + p[1] + ", " + p[2];
            case "c.srai": return "srai " + p[1] + ", " + p[1] + ", " + p[2];
            case "c.andi": return "andi " + p[1] + ", " + p[1] + ", " + p[2];
            case "c.slli": return "slli " + p[1] + ", " + p[1] + ", " + p[2];
            case "c.sub": return "sub " + p[1] + ", " + p[1] + ", " + p[2];
            case "c.xor": return "xor " + p[1] + ", " + p[1] + ", " + p[2];
            case "c.or": return "or " + p[1] + ", " + p[1] + ", " + p[2];
            case "c.and": return "and " + p[1] + ", " + p[1] + ", " + p[2];
            case "c.add": return "add " + p[1] + ", " + p[1] + ", " + p[2];
            case "c.mv": return "add " + p[1] + ", x0, " + p[2];
            case "c.j": return "jal x0, " + p[1];
            case "c.jal": return "jal x1, " + p[1];
            case "c.beqz": return "beq " + p[1] + ", x0, " + p[2];
            case "c.bnez": return "bne " + p[1] + ", x0, " + p[2];
            case "c.jr": return "jalr x0, 0(" + p[1] + ")";
            case "c.jalr": return "jalr x1, 0(" + p[1] + ")";
            case "c.ebreak": return "ebreak";
            case "c.nop": return "addi x0, x0, 0";
            default:
                Due.is("a name of 16 bits: " + told, 0, 1);
                return null;
        }
    }
}
