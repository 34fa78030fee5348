/** Section 3: addresses and pages, by leads() (promise 11) and by steps. */
public final class PagesTest {
    private static final int V = 1;
    private static final int R = 2;
    private static final int W = 4;
    private static final int X = 8;
    private static final int U = 16;
    private static final int G = 32;
    private static final int A = 64;
    private static final int D = 128;
    private static final int ALL = V | R | W | X | A | D;
    private static final int ROOT = 0x10000;
    private static final int NEXT = 0x11000;
    private static final int SUM = 1 << 18;
    private static final int MXR = 1 << 19;

    public static void main(String[] args) {
        withoutPages();
        wrongArguments();
        bitsOfAPage();
        levels();
        greatPages();
        outsideMemory();
        physicalOf34Bits();
        devicesByPages();
        trapsByPages();
        fetchOfTwoPages();
        atomicsByPages();
        storesIntoPages();
        Due.done();
    }

    /** A machine with pages: code at 0 as a great page, and the page at 400000 as told. */
    private static TranslatingHost paged(int entry, int sstatus) {
        return paged(entry, sstatus, NEXT >> 2 | V);
    }

    private static TranslatingHost paged(int entry, int sstatus, int first) {
        TranslatingHost x = Due.with("csrrw x0, sstatus, x2\ncsrrw x0, satp, x1\nloop: j loop");
        x.load(ROOT, ALL, first, 0, 0);
        x.load(NEXT, entry, 0, 0, 0);
        x.set(1, 0x80000000 | ROOT >> 12);
        x.set(2, sstatus);
        x.run(3);
        Due.is("pages are on", x.csr(0x180), 0x80000000L | ROOT >> 12);
        Due.is("without TRAPS", x.count(2), 0);
        return x;
    }

    private static void withoutPages() {
        TranslatingHost x = new TranslatingHost();
        int[] devices = {0, 4, 0x100, 0x104, 0x108, 0x10c, 0x200, 0x300, 0x304, 0x308};
        for (int d : devices) {
            Due.is("load of " + d, x.leads(0x10000000 + d, 1, 0), 0x10000000 + d);
            Due.is("store to " + d, x.leads(0x10000000 + d, 2, 1), 0x10000000 + d);
            Due.is("fetch of " + d, x.leads(0x10000000 + d, 0, 1), -2);
            Due.is("load of a byte of " + d, x.leads(0x10000001 + d, 1, 1), -6);
            Due.is("store to a byte of " + d, x.leads(0x10000002 + d, 2, 1), -8);
        }
        int[] none = {0x10000008, 0x100000fc, 0x10000110, 0x10000204, 0x1000030c, 0x40000, 0x0ffffffc, -1, -4};
        for (int address : none) {
            Due.is("fetch of " + address, x.leads(address, 0, 1), -2);
            Due.is("load of " + address, x.leads(address, 1, 1), -6);
            Due.is("store to " + address, x.leads(address, 2, 0), -8);
        }
        Due.is("the last byte", x.leads(0x3ffff, 2, 0), 0x3ffff);
        Due.is("an odd fetch", x.leads(0x3ffff, 0, 1), 0x3ffff);
    }

    private static void wrongArguments() {
        TranslatingHost x = new TranslatingHost();
        int[][] wrong = {{3, 1}, {-1, 1}, {0, 2}, {0, -1}, {9, 9}, {Integer.MIN_VALUE, 0}, {1, Integer.MAX_VALUE}};
        for (int[] w : wrong) {
            Due.is("leads(4, " + w[0] + ", " + w[1] + ")", x.leads(4, w[0], w[1]), -100);
        }
    }

    private static void leads(String what, TranslatingHost x, long fetch, long load, long store) {
        Due.is(what + ": fetch", x.leads(0x400123, 0, 1), fetch);
        Due.is(what + ": load", x.leads(0x400123, 1, 1), load);
        Due.is(what + ": store", x.leads(0x400123, 2, 1), store);
    }

    private static void bitsOfAPage() {
        int page = 0x12000 >> 2;
        leads("all", paged(page | ALL, 0), 0x12123, 0x12123, 0x12123);
        leads("all and G", paged(page | ALL | G | 0x300, 0), 0x12123, 0x12123, 0x12123);
        leads("not V", paged(page | ALL & ~V, 0), -13, -14, -16);
        leads("not R", paged(page | ALL & ~R, 0), -13, -14, -16);
        leads("not W", paged(page | ALL & ~W, 0), 0x12123, 0x12123, -16);
        leads("not X", paged(page | ALL & ~X, 0), -13, 0x12123, 0x12123);
        leads("not A", paged(page | ALL & ~A, 0), -13, -14, -16);
        leads("not D", paged(page | ALL & ~D, 0), 0x12123, 0x12123, -16);
        leads("X alone", paged(page | V | X | A | D, 0), 0x12123, -14, -16);
        leads("X alone with MXR", paged(page | V | X | A | D, MXR), 0x12123, 0x12123, -16);
        leads("R alone", paged(page | V | R | A, 0), -13, 0x12123, -16);
        leads("R alone with MXR", paged(page | V | R | A, MXR), -13, 0x12123, -16);
        leads("no R, W, X in the second", paged(page | V | A | D, 0), -13, -14, -16);
        leads("first not V", paged(page | ALL, 0, NEXT >> 2), -13, -14, -16);
        leads("first without V leads nowhere", paged(page | ALL, 0, 0x3fffff << 10), -13, -14, -16);
        leads("first W without R", paged(page | ALL, 0, V | W | X | A | D), -13, -14, -16);
        leads("first with A, D, U and no R, W, X", paged(page | ALL, 0, NEXT >> 2 | V | A | D | U), 0x12123, 0x12123, 0x12123);
    }

    private static void levels() {
        TranslatingHost user = paged(0x12000 >> 2 | ALL | U, 0);
        leads("U without SUM", user, -13, -14, -16);
        leads("U with SUM", paged(0x12000 >> 2 | ALL | U, SUM), -13, 0x12123, 0x12123);
        for (int how = 0; how < 3; how++) {
            Due.is("U at U " + how, user.leads(0x400123, how, 0), 0x12123);
            int fault = how == 0 ? -13 : how == 1 ? -14 : -16;
            Due.is("not U at U " + how, user.leads(0x123, how, 0), fault);
            Due.is("not U at S " + how, user.leads(0x123, how, 1), 0x123);
        }
    }

    private static void greatPages() {
        TranslatingHost x = paged(0, 0, ALL);
        Due.is("a great page", x.leads(0x400000 + 0x3fffc, 1, 1), 0x3fffc);
        Due.is("a great page beyond MEMORY", x.leads(0x400000 + 0x40000, 1, 1), -6);
        for (int bit = 10; bit < 20; bit++) {
            leads("great page with bit " + bit, paged(0, 0, ALL | 1 << bit), -13, -14, -16);
        }
        leads("a great page elsewhere", paged(0, 0, ALL | 1 << 20), -2, -6, -8);
        leads("a great page not W", paged(0, 0, ALL & ~W), 0x123, 0x123, -16);
        leads("a great page not A", paged(0, 0, ALL & ~A), -13, -14, -16);
    }

    private static void outsideMemory() {
        leads("second table outside", paged(0, 0, 0x40000 >> 2 | V), -2, -6, -8);
        leads("second table far outside", paged(0, 0, 0xfffffc00 | V), -2, -6, -8);
        TranslatingHost x = Due.with("csrrw x0, satp, x1");
        x.set(1, 0x80000000 | 0x40);
        x.run(1);
        leads("first table outside", x, -2, -6, -8);
        TranslatingHost far = Due.with("csrrw x0, satp, x1");
        far.set(1, 0x803fffff);
        far.run(1);
        leads("first table far outside", far, -2, -6, -8);
        TranslatingHost last = new TranslatingHost();
        Due.assemble(last, 0, "csrrw x0, satp, x1");
        last.load(0x3fff0, 0, 0, 0, ALL);
        last.set(1, 0x8000003f);
        last.run(1);
        Due.is("the last word of MEMORY is a table's", last.leads(0xffc00010, 1, 1), 0x10);
        TranslatingHost bits = Due.with("csrrw x0, satp, x1");
        bits.set(1, 0xffc00000 | ROOT >> 12);
        bits.load(ROOT, ALL, 0, 0, 0);
        bits.run(1);
        Due.is("satp's bits 22 .. 30 do not count", bits.leads(0x20, 1, 1), 0x20);
    }

    private static void physicalOf34Bits() {
        leads("a page at 2^32", paged(0x100000 << 10 | ALL, 0), -2, -6, -8);
        leads("a page at 2^32 + 12000", paged(0x100012 << 10 | ALL, 0), -2, -6, -8);
        leads("a great page at 2^32", paged(0, 0, 0x400 << 20 | ALL), -2, -6, -8);
        TranslatingHost device = paged(0x110000 << 10 | ALL, 0);
        Due.is("2^32 + 10000000 is no device", device.leads(0x400000, 1, 1), -6);
        leads("tables at 2^32", paged(0, 0, 0x100011 << 10 | V), -2, -6, -8);
    }

    private static void devicesByPages() {
        TranslatingHost x = paged(0x10000 << 10 | ALL, 0);
        Due.is("a device's word", x.leads(0x400200, 2, 1), 0x10000200);
        Due.is("a device's word to fetch", x.leads(0x400200, 0, 1), -2);
        Due.is("a device's byte", x.leads(0x400201, 1, 1), -6);
        Due.assemble(x, 0x100, "li x5, 0x400200\nsw x5, 0(x5)");
        x.set(32, 0x100);
        x.run(9);
        Due.is("HALTED by a page", x.count(5), 1);
        Due.is("its CODE", x.count(6), 0x400200);
    }

    private static TranslatingHost does(int entry, String statement, int address) {
        TranslatingHost x = paged(entry, 0);
        Due.assemble(x, 0x100, statement);
        x.set(5, address);
        x.set(32, 0x100);
        x.run(1);
        return x;
    }

    private static void traps(String what, TranslatingHost x, int cause, int value) {
        Due.is(what + ": TRAPS", x.count(2), 1);
        Due.is(what + ": scause", x.csr(0x142), cause);
        Due.is(what + ": stval", x.csr(0x143), value);
        Due.is(what + ": sepc", x.csr(0x141), 0x100);
    }

    private static void trapsByPages() {
        int page = 0x12000 >> 2;
        traps("lw", does(page, "lw x6, 0(x5)", 0x400010), 13, 0x400010);
        traps("sw", does(page | ALL & ~D, "sw x6, 0(x5)", 0x400010), 15, 0x400010);
        traps("lw beyond", does(0x40000 >> 2 | ALL, "lw x6, 0(x5)", 0x400010), 5, 0x400010);
        traps("sb beyond", does(0x40000 >> 2 | ALL, "sb x6, 0(x5)", 0x400011), 7, 0x400011);
        traps("crooked ahead of pages", does(page, "lw x6, 0(x5)", 0x400011), 4, 0x400011);
        traps("crooked store ahead of pages", does(page, "sh x6, 0(x5)", 0x400011), 6, 0x400011);
        TranslatingHost fetch = paged(page | ALL & ~X, 0);
        fetch.set(32, 0x400010);
        fetch.run(1);
        Due.is("fetch: scause", fetch.csr(0x142), 12);
        Due.is("fetch: stval", fetch.csr(0x143), 0x400010);
        TranslatingHost works = does(page | ALL, "lw x6, 0(x5)", 0x400010);
        Due.is("a load by pages", works.count(2), 0);
        TranslatingHost stores = does(page | ALL, "sw x5, 0(x5)", 0x400010);
        Due.is("a store by pages", stores.word(0x12010), 0x400010);
    }

    private static void fetchOfTwoPages() {
        TranslatingHost x = paged(0x12000 >> 2 | ALL, 0);
        x.load(0x12ff0, 0, 0, 0, 0x00930001);
        x.load(0x13000, 0x70, 0, 0, 0);
        x.load(0x14000, 0x00010050, 0, 0, 0);
        x.set(32, 0x400ffe);
        x.run(1);
        Due.is("the second half's TRAP", x.csr(0x142), 12);
        Due.is("the second half's value", x.csr(0x143), 0x401000);
        Due.is("the second half's sepc", x.csr(0x141), 0x400ffe);
        x.load(NEXT, 0x12000 >> 2 | ALL, 0x14000 >> 2 | ALL, 0, 0);
        x.set(32, 0x400ffe);
        x.run(1);
        Due.is("an instruction of two pages", x.reg(1), 5);
        Due.is("pc behind it", x.reg(32), 0x401002);
        x.load(NEXT, 0x12000 >> 2 | ALL, 0x40000 >> 2 | ALL, 0, 0);
        x.set(32, 0x400ffe);
        x.run(1);
        Due.is("the second half outside", x.csr(0x142), 1);
        Due.is("the second half outside, its value", x.csr(0x143), 0x401000);
        x.load(0x12ff0, 0, 0, 0, 0x04850001);
        x.set(32, 0x400ffe);
        x.run(1);
        Due.is("one of 16 bits needs no second page", x.reg(32), 0x401000);
    }

    private static void atomicsByPages() {
        int page = 0x12000 >> 2;
        traps("amo not W", does(page | ALL & ~W, "amoadd.w x6, x7, (x5)", 0x400010), 15, 0x400010);
        traps("sc.w not D", does(page | ALL & ~D, "sc.w x6, x7, (x5)", 0x400010), 15, 0x400010);
        traps("lr.w not R", does(page | V | X | A | D, "lr.w x6, (x5)", 0x400010), 13, 0x400010);
        traps("lr.w of a device", does(0x10000 << 10 | ALL, "lr.w x6, (x5)", 0x400000), 5, 0x400000);
        traps("amo of a device", does(0x10000 << 10 | ALL, "amoor.w x6, x7, (x5)", 0x400108), 7, 0x400108);
        TranslatingHost x = paged(page | ALL, 0);
        Due.assemble(x, 0x100, "lr.w x6, (x5)\nsc.w x7, x5, (x8)");
        x.set(5, 0x400010);
        x.set(8, 0x12010);
        x.set(7, 9);
        x.set(32, 0x100);
        x.run(2);
        Due.is("the RESERVATION is physical", x.reg(7), 0);
        Due.is("sc.w by another address", x.word(0x12010), 0x400010);
    }

    /** What a store changed counts from the next step on, for fetches and pages, too. */
    private static void storesIntoPages() {
        TranslatingHost x = paged(0x12000 >> 2 | ALL, 0);
        Due.assemble(x, 0x100, "lw x6, 0(x5)\nsw x7, 0(x8)\nlw x9, 0(x5)\nsw x0, 0(x8)\nlw x9, 0(x5)");
        x.load(0x12000, 111, 0, 0, 0);
        x.load(0x13000, 222, 0, 0, 0);
        x.set(5, 0x400000);
        x.set(7, 0x13000 >> 2 | ALL);
        x.set(8, NEXT);
        x.set(32, 0x100);
        x.run(3);
        Due.is("the page before", x.reg(6), 111);
        Due.is("the page behind", x.reg(9), 222);
        Due.is("check()", x.check(), 1);
        x.run(2);
        Due.is("no page any more", x.csr(0x142), 13);
        TranslatingHost own = Due.with("sw x2, 4(x0)\nnop\naddi x3, x3, 1");
        own.set(2, 0x00500193);
        own.run(3);
        Due.is("a store into the next instruction", own.reg(3), 6);
    }
}
