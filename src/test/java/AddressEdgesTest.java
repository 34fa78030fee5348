/** The edges of section 3 and of promise 11: alignment, pages, places. */
public final class AddressEdgesTest {
    private static final int V = 1;
    private static final int R = 2;
    private static final int W = 4;
    private static final int X = 8;
    private static final int U = 16;
    private static final int A = 64;
    private static final int D = 128;
    private static final int ALL = V | R | W | X | A | D;
    private static final int ROOT = 0x10000;
    private static final int NEXT = 0x11000;
    private static final int PAGE = 0x12000;
    private static final int AT = 0x400000;
    private static final int SUM = 1 << 18;
    private static final int MXR = 1 << 19;
    private static final int[] DEVICES = {0, 4, 0x100, 0x104, 0x108, 0x10c, 0x200, 0x300, 0x304, 0x308};
    private static final int[] PAGE_FAULTS = {-13, -14, -16};
    private static final int[] ACCESS_FAULTS = {-2, -6, -8};

    public static void main(String[] args) {
        Edges.run(AddressEdgesTest.class);
    }

    /** One step of a statement with x1 = address, x2 = 77, x3 = 33. */
    private static TranslatingHost step(String statement, int address) {
        TranslatingHost x = Due.with(statement);
        x.set(1, address);
        x.set(2, 77);
        x.set(3, 33);
        x.run(1);
        return x;
    }

    private static void traps(String statement, int address, int cause) {
        TranslatingHost x = step(statement, address);
        String what = statement + " with x1 " + Integer.toHexString(address);
        Due.is(what + ": INSTRET", x.count(1), 0);
        Due.is(what + ": scause", x.csr(0x142), cause);
        Due.is(what + ": stval", x.csr(0x143), address & 0xffffffffL);
        Due.is(what + ": x3", x.reg(3), 33);
    }

    private static void retires(String statement, int address) {
        TranslatingHost x = step(statement, address);
        Due.is(statement + " with x1 " + Integer.toHexString(address) + " is RETIRED", x.count(1), 1);
    }

    /** Pages on: the code at 0 as a great page, first words told for 400000, a second one told for its page 0. */
    private static TranslatingHost paged(int first, int second, int sstatus) {
        return withSatp(0x80000000 | ROOT >> 12, first, second, sstatus);
    }

    private static TranslatingHost withSatp(int satp, int first, int second, int sstatus) {
        TranslatingHost x = Due.with("csrrw x0, sstatus, x2\ncsrrw x0, satp, x1");
        x.load(ROOT, ALL, first, 0, 0);
        x.load(NEXT, second, 0, 0, 0);
        x.set(1, satp);
        x.set(2, sstatus);
        x.run(2);
        Due.is("TRAPS", x.count(2), 0);
        return x;
    }

    /** A page of MEMORY at 400000 with these bits, by two words. */
    private static TranslatingHost page(int bits, int sstatus) {
        return paged(NEXT >> 2 | V, PAGE >> 2 | bits, sstatus);
    }

    private static void leads(String what, TranslatingHost x, int address, int level, long[] want) {
        for (int how = 0; how < 3; how++) {
            Due.is(what + ": leads(" + Integer.toHexString(address) + ", " + how + ", " + level + ")",
                x.leads(address, how, level), want[how]);
        }
    }

    private static long[] each(long fetch, long load, long store) {
        return new long[] {fetch, load, store};
    }

    private static long[] all(long at) {
        return each(at, at, at);
    }

    private static long[] faults(int[] of) {
        return each(of[0], of[1], of[2]);
    }

    // "A load or store of 2 or 4 bytes at an address that is no multiple of that: TRAP 4, 6"

    private static void halvesLieAtMultiplesOf2() {
        String[] loads = {"lh x3, 0(x1)", "lhu x3, 0(x1)"};
        for (String statement : loads) {
            retires(statement, 0x100);
            traps(statement, 0x101, 4);
            retires(statement, 0x102);
            traps(statement, 0x103, 4);
        }
        retires("sh x2, 0(x1)", 0x100);
        traps("sh x2, 0(x1)", 0x101, 6);
        retires("sh x2, 0(x1)", 0x102);
        traps("sh x2, 0(x1)", 0x103, 6);
    }

    private static void wordsLieAtMultiplesOf4() {
        for (int i = 0; i < 4; i++) {
            if (i == 0) {
                retires("lw x3, 0(x1)", 0x100);
                retires("sw x2, 0(x1)", 0x100);
            } else {
                traps("lw x3, 0(x1)", 0x100 + i, 4);
                traps("sw x2, 0(x1)", 0x100 + i, 6);
            }
        }
    }

    private static void bytesLieAnywhere() {
        for (int i = 0; i < 4; i++) {
            retires("lb x3, 0(x1)", 0x100 + i);
            retires("lbu x3, 0(x1)", 0x100 + i);
            retires("sb x2, 0(x1)", 0x100 + i);
        }
    }

    private static void aCrookedStoreStoresNothing() {
        Due.is("sw", step("sw x2, 0(x1)", 0x102).word(0x100), 0);
        Due.is("sh", step("sh x2, 0(x1)", 0x101).word(0x100), 0);
        Due.is("amoadd.w", step("amoadd.w x3, x2, (x1)", 0x102).word(0x100), 0);
    }

    private static void crookedIsAheadOfPlaces() {
        int[] places = {0x40001, 0x3ffff, -1, 0x10000001, 0x10000201, 0x20000001};
        for (int address : places) {
            traps("lh x3, 0(x1)", address, 4);
            traps("lw x3, 0(x1)", address, 4);
            traps("sh x2, 0(x1)", address, 6);
            traps("sw x2, 0(x1)", address, 6);
            traps("lr.w x3, (x1)", address, 4);
            traps("sc.w x3, x2, (x1)", address, 6);
            traps("amoxor.w x3, x2, (x1)", address, 6);
        }
    }

    private static void crookedIsAheadOfPages() {
        String[] statements = {
            "lh x3, 0(x5)", "lw x3, 0(x5)", "lr.w x3, (x5)", "sh x2, 0(x5)", "sw x2, 0(x5)", "sc.w x3, x2, (x5)",
            "amoadd.w x3, x2, (x5)",
        };
        for (int i = 0; i < statements.length; i++) {
            TranslatingHost x = paged(0, 0, 0);
            Due.assemble(x, 0x100, statements[i]);
            x.set(5, AT + 1);
            x.set(32, 0x100);
            x.run(1);
            Due.is(statements[i] + ": scause", x.csr(0x142), i < 3 ? 4 : 6);
            Due.is(statements[i] + ": stval", x.csr(0x143), AT + 1);
        }
    }

    // MEMORY's ends, without PAGES

    private static void loadsTakeTheLastOfMemory() {
        retires("lb x3, 0(x1)", 0x3ffff);
        retires("lbu x3, 0(x1)", 0x3ffff);
        retires("lh x3, 0(x1)", 0x3fffe);
        retires("lhu x3, 0(x1)", 0x3fffe);
        retires("lw x3, 0(x1)", 0x3fffc);
    }

    private static void loadsRefuseTheFirstBehindMemory() {
        traps("lb x3, 0(x1)", 0x40000, 5);
        traps("lbu x3, 0(x1)", 0x40000, 5);
        traps("lh x3, 0(x1)", 0x40000, 5);
        traps("lhu x3, 0(x1)", 0x40000, 5);
        traps("lw x3, 0(x1)", 0x40000, 5);
    }

    private static void loadsTakeTheFirstOfMemoryAndRefuseTheLastBefore() {
        retires("lb x3, 0(x1)", 0);
        retires("lw x3, 0(x1)", 0);
        traps("lb x3, 0(x1)", -1, 5);
        traps("lh x3, 0(x1)", -2, 5);
        traps("lw x3, 0(x1)", -4, 5);
    }

    private static void storesTakeTheLastOfMemory() {
        Due.is("sb", step("sb x2, 0(x1)", 0x3ffff).word(0x3fffc), 77L << 24);
        Due.is("sh", step("sh x2, 0(x1)", 0x3fffe).word(0x3fffc), 77L << 16);
        Due.is("sw", step("sw x2, 0(x1)", 0x3fffc).word(0x3fffc), 77);
    }

    private static void storesRefuseTheFirstBehindMemory() {
        traps("sb x2, 0(x1)", 0x40000, 7);
        traps("sh x2, 0(x1)", 0x40000, 7);
        traps("sw x2, 0(x1)", 0x40000, 7);
        Due.is("nothing comes to 0", step("sb x2, 1(x1)", 0x3ffff).word(0), 0x002080a3);
    }

    private static void storesRefuseTheLastBeforeMemory() {
        traps("sb x2, 0(x1)", -1, 7);
        traps("sh x2, 0(x1)", -2, 7);
        traps("sw x2, 0(x1)", -4, 7);
        Due.is("nothing comes to the end", step("sb x2, 0(x1)", -1).word(0x3fffc), 0);
    }

    // "access fault, if it is no byte of MEMORY nor a DEVICE's word: .. or less than a word of it"

    private static void lessThanAWordOfEachDeviceIsRefused() {
        for (int d : DEVICES) {
            for (int i = 0; i < 4; i++) {
                traps("lb x3, 0(x1)", 0x10000000 + d + i, 5);
                traps("lbu x3, 0(x1)", 0x10000000 + d + i, 5);
                traps("sb x2, 0(x1)", 0x10000000 + d + i, 7);
            }
            for (int i = 0; i < 4; i += 2) {
                traps("lh x3, 0(x1)", 0x10000000 + d + i, 5);
                traps("lhu x3, 0(x1)", 0x10000000 + d + i, 5);
                traps("sh x2, 0(x1)", 0x10000000 + d + i, 7);
            }
        }
    }

    private static void aWordOfEachDeviceIsTaken() {
        for (int d : DEVICES) {
            retires("lw x3, 0(x1)", 0x10000000 + d);
            retires("sw x2, 0(x1)", 0x10000000 + d);
        }
    }

    private static void theWordsBesideDevicesAreRefused() {
        int[] beside = {
            0x0ffffffc, 0x10000008, 0x100000fc, 0x10000110, 0x100001fc, 0x10000204, 0x100002fc, 0x1000030c, 0x20000000,
            0x90000000, 0x11000000, 0x10001000,
        };
        for (int address : beside) {
            traps("lw x3, 0(x1)", address, 5);
            traps("sw x2, 0(x1)", address, 7);
        }
    }

    private static void aLoadThatIsRefusedTakesNoInput() {
        TranslatingHost x = Due.with("lb x3, 0(x1)\nlbu x3, 0(x1)");
        x.set(1, 0x10000000);
        x.key(5);
        x.run(1);
        Due.is("INPUT", x.count(4), 1);
    }

    // "Without PAGES (satp's bit 31 is 0) an address is physical"

    private static void satpWithoutBit31LeavesAddressesPhysical() {
        TranslatingHost x = withSatp(0x7fffffff, 0, 0, 0);
        leads("satp 7fffffff", x, 0x123, 1, all(0x123));
        leads("satp 7fffffff", x, 0x3ffff, 0, all(0x3ffff));
        leads("satp 7fffffff", x, 0x40000, 0, faults(ACCESS_FAULTS));
    }

    private static void satpWithBit31AloneLooksAtPage0() {
        TranslatingHost x = withSatp(0x80000000, 0, 0, 0);
        x.load(0, 0, ALL, 0, 0);
        leads("satp 80000000", x, 0x400123, 1, all(0x123));
        leads("satp 80000000", x, 0x123, 1, faults(PAGE_FAULTS));
    }

    // "p satp's lowest 22 bits"

    private static void satpsBits22To30DoNotCount() {
        for (int bit = 22; bit < 31; bit++) {
            TranslatingHost x = withSatp(0x80000000 | ROOT >> 12 | 1 << bit, ALL, 0, 0);
            leads("bit " + bit, x, AT + 5, 1, all(5));
        }
    }

    private static void satpsBits6To21LeadOutOfMemory() {
        for (int bit = 6; bit < 22; bit++) {
            TranslatingHost x = withSatp(0x80000000 | ROOT >> 12 | 1 << bit, ALL, 0, 0);
            leads("bit " + bit, x, AT + 5, 1, faults(ACCESS_FAULTS));
        }
    }

    private static void theLastPageOfMemoryMayBeTheFirstTable() {
        TranslatingHost x = withSatp(0x8000003f, 0, 0, 0);
        x.load(0x3f000, ALL, 0, 0, 0);
        x.load(0x3fff0, 0, 0, 0, ALL);
        leads("the table's first word", x, 7, 1, all(7));
        leads("the table's last word", x, 0xffc00007, 1, all(7));
        leads("the word before", x, 0xff800007, 1, faults(PAGE_FAULTS));
    }

    private static void theFirstPageBehindMemoryMayNot() {
        TranslatingHost x = withSatp(0x80000040, 0, 0, 0);
        leads("the table's first word", x, 0, 1, faults(ACCESS_FAULTS));
        leads("the table's last word", x, -1, 1, faults(ACCESS_FAULTS));
    }

    // "a the address' bits 22 .. 31 .. b the address' bits 12 .. 21"

    private static void theFirstIndexHasEachOfItsBits() {
        for (int bit = 0; bit < 10; bit++) {
            TranslatingHost x = withSatp(0x80000000 | ROOT >> 12, 0, 0, 0);
            Due.assemble(x, ROOT + 4 * (1 << bit), ".word " + ALL);
            leads("index bit " + bit, x, (1 << 22 + bit) + 9, 1, all(9));
            leads("beside index bit " + bit, x, (1 << 22 + bit) + (1 << 22) + 9, 1, faults(PAGE_FAULTS));
        }
    }

    private static void theSecondIndexHasEachOfItsBits() {
        for (int bit = 0; bit < 10; bit++) {
            TranslatingHost x = paged(NEXT >> 2 | V, 0, 0);
            Due.assemble(x, NEXT + 4 * (1 << bit), ".word " + (PAGE >> 2 | ALL));
            leads("index bit " + bit, x, AT + (1 << 12 + bit) + 9, 1, all(PAGE + 9));
            leads("beside index bit " + bit, x, AT + 9, 1, faults(PAGE_FAULTS));
        }
    }

    private static void theLastIndexOfBoth() {
        TranslatingHost x = withSatp(0x80000000 | ROOT >> 12, 0, 0, 0);
        x.load(ROOT + 0xff0, 0, 0, 0, NEXT >> 2 | V);
        x.load(NEXT + 0xff0, 0, 0, 0, PAGE >> 2 | ALL);
        leads("the last address", x, -1, 1, all(PAGE + 0xfff));
        leads("the last page's first", x, -4096, 1, all(PAGE));
        leads("the page before", x, -4097, 1, faults(PAGE_FAULTS));
    }

    // "q its bits 10 .. 31"

    private static void theLastPageOfMemoryMayBeTheSecondTable() {
        TranslatingHost x = paged(0x3f000 >> 2 | V, 0, 0);
        x.load(0x3f000, PAGE >> 2 | ALL, 0, 0, 0);
        x.load(0x3fff0, 0, 0, 0, PAGE >> 2 | ALL);
        leads("the table's first word", x, AT, 1, all(PAGE));
        leads("the table's last word", x, AT + 0x3ff000, 1, all(PAGE));
    }

    private static void theFirstPageBehindMemoryMayNotBeTheSecondTable() {
        TranslatingHost x = paged(0x40000 >> 2 | V, 0, 0);
        leads("the table's first word", x, AT, 1, faults(ACCESS_FAULTS));
        leads("the table's last word", x, AT + 0x3ff000, 1, faults(ACCESS_FAULTS));
    }

    private static void eachHighBitOfTheFirstWordLeadsOutOfMemory() {
        for (int bit = 16; bit < 32; bit++) {
            TranslatingHost x = paged(NEXT >> 2 | V | 1 << bit, PAGE >> 2 | ALL, 0);
            leads("first word's bit " + bit, x, AT, 1, faults(ACCESS_FAULTS));
        }
    }

    private static void bits4To9OfTheFirstWordDoNotCount() {
        for (int bit = 4; bit < 10; bit++) {
            TranslatingHost x = paged(NEXT >> 2 | V | 1 << bit, PAGE >> 2 | ALL, 0);
            leads("first word's bit " + bit, x, AT + 3, 1, all(PAGE + 3));
        }
    }

    // "PAGE FAULT, if V is not set, or W without R, or the second one has none of R, W, X"

    private static void theSecondWordWithoutV() {
        leads("ALL but V", page(ALL & ~V, 0), AT, 1, faults(PAGE_FAULTS));
        leads("0", paged(NEXT >> 2 | V, 0, 0), AT, 1, faults(PAGE_FAULTS));
    }

    private static void theFirstWordWithoutV() {
        leads("leading on", paged(NEXT >> 2, PAGE >> 2 | ALL, 0), AT, 1, faults(PAGE_FAULTS));
        leads("a great page", paged(ALL & ~V, 0, 0), AT, 1, faults(PAGE_FAULTS));
        leads("0", paged(0, 0, 0), AT, 1, faults(PAGE_FAULTS));
    }

    private static void wWithoutRInTheSecond() {
        leads("W", page(V | W | A | D, MXR), AT, 1, faults(PAGE_FAULTS));
        leads("W, X", page(V | W | X | A | D, MXR), AT, 1, faults(PAGE_FAULTS));
    }

    private static void wWithoutRInTheFirst() {
        leads("W", paged(V | W | A | D, 0, MXR), AT, 1, faults(PAGE_FAULTS));
        leads("W, X", paged(V | W | X | A | D, 0, MXR), AT, 1, faults(PAGE_FAULTS));
        leads("W, leading out of MEMORY", paged(0xfff00000 | V | W | A | D, 0, 0), AT, 1, faults(PAGE_FAULTS));
    }

    private static void noneOfRWXInTheSecond() {
        leads("V, A, D", page(V | A | D, MXR), AT, 1, faults(PAGE_FAULTS));
        leads("V, A, D, U", page(V | A | D | U, MXR), AT, 0, faults(PAGE_FAULTS));
        leads("leading out of MEMORY", paged(NEXT >> 2 | V, 0xfffffc00 | V, 0), AT, 1, faults(PAGE_FAULTS));
    }

    // "if the first one's bits 10 .. 19 are not all 0"

    private static void eachOfBits10To19OfAGreatPage() {
        for (int bit = 10; bit < 20; bit++) {
            leads("bit " + bit, paged(ALL | 1 << bit, 0, 0), AT, 1, faults(PAGE_FAULTS));
        }
        leads("all of them", paged(ALL | 0xffc00, 0, 0), AT, 1, faults(PAGE_FAULTS));
    }

    private static void bit9AndBit20OfAGreatPageAreBesideThem() {
        leads("bit 9", paged(ALL | 1 << 9, 0, 0), AT, 1, all(0));
        leads("bit 20", paged(ALL | 1 << 20, 0, 0), AT, 1, faults(ACCESS_FAULTS));
    }

    private static void theSecondMayHaveThoseBits() {
        leads("bits 10, 12, 15", page(ALL, 0), AT, 1, all(PAGE));
        leads("MEMORY's last page", paged(NEXT >> 2 | V, 0x3f000 >> 2 | ALL, 0), AT, 1, all(0x3f000));
    }

    // "for a fetch: X is not set; a load: R is not set (with MXR: neither R nor X); a store: W is not set"

    private static void aFetchNeedsX() {
        long[] want = each(-13, PAGE, PAGE);
        leads("not X", page(ALL & ~X, 0), AT, 1, want);
        leads("not X with MXR", page(ALL & ~X, MXR), AT, 1, want);
        leads("a great page", paged(ALL & ~X, 0, 0), AT, 1, each(-13, 0, 0));
    }

    private static void aLoadNeedsR() {
        leads("X alone", page(V | X | A | D, 0), AT, 1, each(PAGE, -14, -16));
        leads("a great page", paged(V | X | A | D, 0, 0), AT, 1, each(0, -14, -16));
    }

    private static void aLoadWithMxrNeedsROrX() {
        leads("X alone", page(V | X | A | D, MXR), AT, 1, each(PAGE, PAGE, -16));
        leads("R alone", page(V | R | A | D, MXR), AT, 1, each(-13, PAGE, -16));
        leads("a great page", paged(V | X | A | D, 0, MXR), AT, 1, each(0, 0, -16));
    }

    private static void aStoreNeedsW() {
        leads("not W", page(ALL & ~W, 0), AT, 1, each(PAGE, PAGE, -16));
        leads("a great page", paged(ALL & ~W, 0, 0), AT, 1, each(0, 0, -16));
    }

    // "at LEVEL U: U is not set; at LEVEL S: U is set, for a fetch, or without SUM"

    private static void atUEachNeedsU() {
        leads("not U", page(ALL, 0), AT, 0, faults(PAGE_FAULTS));
        leads("not U with SUM", page(ALL, SUM), AT, 0, faults(PAGE_FAULTS));
        leads("U", page(ALL | U, 0), AT, 0, all(PAGE));
        leads("U with SUM", page(ALL | U, SUM), AT, 0, all(PAGE));
    }

    private static void atSWithoutSumNoneMayHaveU() {
        leads("U", page(ALL | U, 0), AT, 1, faults(PAGE_FAULTS));
        leads("not U", page(ALL, 0), AT, 1, all(PAGE));
    }

    private static void atSWithSumAFetchMayNotHaveU() {
        leads("U", page(ALL | U, SUM), AT, 1, each(-13, PAGE, PAGE));
        leads("not U", page(ALL, SUM), AT, 1, all(PAGE));
    }

    private static void theLevelsOfAGreatPage() {
        leads("U at S", paged(ALL | U, 0, 0), AT, 1, faults(PAGE_FAULTS));
        leads("U at S with SUM", paged(ALL | U, 0, SUM), AT, 1, each(-13, 0, 0));
        leads("U at U", paged(ALL | U, 0, 0), AT, 0, all(0));
        leads("not U at U", paged(ALL, 0, 0), AT, 0, faults(PAGE_FAULTS));
    }

    private static void mxrAndSumTogether() {
        leads("X, U at S", page(V | X | U | A, MXR | SUM), AT, 1, each(-13, PAGE, -16));
        leads("X, U at S with MXR alone", page(V | X | U | A, MXR), AT, 1, faults(PAGE_FAULTS));
        leads("X, U at U with MXR", page(V | X | U | A, MXR), AT, 0, each(PAGE, PAGE, -16));
    }

    // "A is not set; for a store: D is not set"

    private static void eachNeedsA() {
        leads("not A", page(ALL & ~A, 0), AT, 1, faults(PAGE_FAULTS));
        leads("not A at U", page(ALL & ~A | U, 0), AT, 0, faults(PAGE_FAULTS));
        leads("a great page", paged(ALL & ~A, 0, 0), AT, 1, faults(PAGE_FAULTS));
    }

    private static void aStoreNeedsD() {
        leads("not D", page(ALL & ~D, 0), AT, 1, each(PAGE, PAGE, -16));
        leads("a great page", paged(ALL & ~D, 0, 0), AT, 1, each(0, 0, -16));
    }

    private static void bits5And8And9OfAPageDoNotCount() {
        leads("bit 5", page(ALL | 1 << 5, 0), AT, 1, all(PAGE));
        leads("bit 8", page(ALL | 1 << 8, 0), AT, 1, all(PAGE));
        leads("bit 9", page(ALL | 1 << 9, 0), AT, 1, all(PAGE));
    }

    // "The physical address has the word's bits 10 .. 31 (of the first one 20 .. 31) above the address' lowest 12 (22)"

    private static void theLowest12BitsOfAPage() {
        TranslatingHost x = page(ALL, 0);
        leads("the first byte", x, AT, 1, all(PAGE));
        leads("the last byte", x, AT + 0xfff, 1, all(PAGE + 0xfff));
        leads("the next page", x, AT + 0x1000, 1, faults(PAGE_FAULTS));
    }

    private static void theLowest22BitsOfAGreatPage() {
        TranslatingHost x = paged(ALL, 0, 0);
        leads("the first byte", x, AT, 1, all(0));
        leads("the last byte of MEMORY", x, AT + 0x3ffff, 1, all(0x3ffff));
        leads("the first behind MEMORY", x, AT + 0x40000, 1, faults(ACCESS_FAULTS));
        leads("the last byte", x, AT + 0x3fffff, 1, faults(ACCESS_FAULTS));
        leads("the next great page", x, AT + 0x400000, 1, faults(PAGE_FAULTS));
    }

    private static void eachHighBitOfAPageLeadsOutOfMemory() {
        for (int bit = 16; bit < 32; bit++) {
            TranslatingHost x = paged(NEXT >> 2 | V, PAGE >> 2 | ALL | 1 << bit, 0);
            leads("bit " + bit, x, AT + 0x800, 1, faults(ACCESS_FAULTS));
        }
        leads("MEMORY's first page behind", paged(NEXT >> 2 | V, 0x40000 >> 2 | ALL, 0), AT, 1, faults(ACCESS_FAULTS));
    }

    private static void eachHighBitOfAGreatPageLeadsOutOfMemory() {
        for (int bit = 20; bit < 32; bit++) {
            leads("bit " + bit, paged(ALL | 1 << bit, 0, 0), AT + 0x800, 1, faults(ACCESS_FAULTS));
        }
    }

    private static void aPageOfDevices() {
        TranslatingHost x = paged(NEXT >> 2 | V, 0x10000 << 10 | ALL, 0);
        for (int d : DEVICES) {
            leads("device " + d, x, AT + d, 1, each(-2, 0x10000000 + d, 0x10000000 + d));
            leads("device " + d + " and 1", x, AT + d + 1, 1, faults(ACCESS_FAULTS));
        }
        leads("beside", x, AT + 8, 1, faults(ACCESS_FAULTS));
    }

    private static void aGreatPageOfDevices() {
        TranslatingHost x = paged(0x40 << 20 | ALL, 0, 0);
        leads("DATA", x, AT, 1, each(-2, 0x10000000, 0x10000000));
        leads("ACT", x, AT + 0x308, 1, each(-2, 0x10000308, 0x10000308));
        leads("behind ACT", x, AT + 0x30c, 1, faults(ACCESS_FAULTS));
    }

    private static void devicesWithBit32AreNone() {
        leads("a page", paged(NEXT >> 2 | V, 0x110000 << 10 | ALL, 0), AT, 1, faults(ACCESS_FAULTS));
        leads("a great page", paged(0x440 << 20 | ALL, 0, 0), AT, 1, faults(ACCESS_FAULTS));
    }

    // "ACCESS FAULT, if a word to be looked at does not lie in MEMORY, as soon as it would be"

    private static void theTableInADeviceIsOutOfMemory() {
        leads("the second in DEVICES", paged(0x10000 << 10 | V, 0, 0), AT, 1, faults(ACCESS_FAULTS));
        leads("the first in DEVICES", withSatp(0x80010000, 0, 0, 0), AT, 1, faults(ACCESS_FAULTS));
    }

    private static void aPagesOwnFaultIsAheadOfItsPlace() {
        leads("not A, out of MEMORY", paged(NEXT >> 2 | V, 0x40000 >> 2 | ALL & ~A, 0), AT, 1, faults(PAGE_FAULTS));
        leads("not W, out of MEMORY", paged(NEXT >> 2 | V, 0x40000 >> 2 | ALL & ~W, 0), AT, 1, each(-2, -6, -16));
    }

    // "TRAPS: page faults 12 fetch, 13 load, 15 store; access faults 1, 5, 7; value: the address (not the physical one)"

    private static TranslatingHost does(int second, String statement, int address) {
        TranslatingHost x = paged(NEXT >> 2 | V, second, 0);
        Due.assemble(x, 0x100, statement);
        x.set(5, address);
        x.set(32, 0x100);
        x.run(1);
        return x;
    }

    private static void faults(String what, TranslatingHost x, int cause, int value, int sepc) {
        Due.is(what + ": TRAPS", x.count(2), 1);
        Due.is(what + ": scause", x.csr(0x142), cause);
        Due.is(what + ": stval", x.csr(0x143), value);
        Due.is(what + ": sepc", x.csr(0x141), sepc & 0xffffffffL);
    }

    private static void pageFaultsOfLoadsAndStores() {
        String[] loads = {"lb", "lbu", "lh", "lhu", "lw"};
        for (String name : loads) {
            faults(name, does(0, name + " x3, 4(x5)", AT), 13, AT + 4, 0x100);
        }
        faults("lr.w", does(0, "lr.w x3, (x5)", AT + 4), 13, AT + 4, 0x100);
        String[] stores = {"sb", "sh", "sw"};
        for (String name : stores) {
            faults(name, does(PAGE >> 2 | ALL & ~W, name + " x3, 4(x5)", AT), 15, AT + 4, 0x100);
        }
        faults("sc.w", does(PAGE >> 2 | ALL & ~W, "sc.w x3, x2, (x5)", AT + 4), 15, AT + 4, 0x100);
        faults("amoor.w", does(PAGE >> 2 | ALL & ~W, "amoor.w x3, x2, (x5)", AT + 4), 15, AT + 4, 0x100);
        faults("amoor.w of no page", does(0, "amoor.w x3, x2, (x5)", AT + 4), 15, AT + 4, 0x100);
    }

    private static void accessFaultsOfLoadsAndStores() {
        int outside = 0x40000 >> 2 | ALL;
        faults("lw", does(outside, "lw x3, 4(x5)", AT), 5, AT + 4, 0x100);
        faults("lr.w", does(outside, "lr.w x3, (x5)", AT), 5, AT, 0x100);
        faults("sw", does(outside, "sw x3, 4(x5)", AT), 7, AT + 4, 0x100);
        faults("sc.w", does(outside, "sc.w x3, x2, (x5)", AT), 7, AT, 0x100);
        faults("amoor.w", does(outside, "amoor.w x3, x2, (x5)", AT), 7, AT, 0x100);
        int device = 0x10000 << 10 | ALL;
        faults("lb of a DEVICE", does(device, "lb x3, 4(x5)", AT), 5, AT + 4, 0x100);
        faults("sh of a DEVICE", does(device, "sh x3, 0x200(x5)", AT), 7, AT + 0x200, 0x100);
        faults("lr.w of a DEVICE", does(device, "lr.w x3, (x5)", AT), 5, AT, 0x100);
        faults("amoswap.w of a DEVICE", does(device, "amoswap.w x3, x2, (x5)", AT + 0x200), 7, AT + 0x200, 0x100);
    }

    private static TranslatingHost fetches(int second, int pc) {
        TranslatingHost x = paged(NEXT >> 2 | V, second, 0);
        x.set(32, pc);
        x.run(1);
        return x;
    }

    private static void faultsOfFetches() {
        faults("not X", fetches(PAGE >> 2 | ALL & ~X, AT + 6), 12, AT + 6, AT + 6);
        faults("no page", fetches(0, AT), 12, AT, AT);
        faults("outside", fetches(0x40000 >> 2 | ALL, AT + 6), 1, AT + 6, AT + 6);
        faults("a DEVICE", fetches(0x10000 << 10 | ALL, AT + 0x100), 1, AT + 0x100, AT + 0x100);
        faults("odd is ahead", fetches(0, AT + 1), 0, AT + 1, AT);
    }

    // "Pages are looked at anew for each fetch (also for the second two bytes), load and store"

    /** Steps over an instruction of 32 bits whose second half is in the page at 401000. */
    private static TranslatingHost across(int nextPage, int sstatus) {
        TranslatingHost x = paged(NEXT >> 2 | V, PAGE >> 2 | ALL, sstatus);
        x.load(NEXT, PAGE >> 2 | ALL, nextPage, 0, 0);
        x.load(PAGE + 0xff0, 0, 0, 0, 0x01930000);
        x.load(0x14000, 0x00000050, 0, 0, 0);
        x.set(32, AT + 0xffe);
        x.run(1);
        return x;
    }

    private static void theSecondTwoBytesHaveAPageOfTheirOwn() {
        TranslatingHost x = across(0x14000 >> 2 | ALL, 0);
        Due.is("TRAPS", x.count(2), 0);
        Due.is("addi x3, x0, 5", x.reg(3), 5);
        Due.is("pc", x.reg(32), AT + 0x1002);
    }

    private static void theSecondTwoBytesHaveFaultsOfTheirOwn() {
        faults("no page", across(0, 0), 12, AT + 0x1000, AT + 0xffe);
        faults("not X", across(0x14000 >> 2 | ALL & ~X, 0), 12, AT + 0x1000, AT + 0xffe);
        faults("not A", across(0x14000 >> 2 | ALL & ~A, 0), 12, AT + 0x1000, AT + 0xffe);
        faults("U", across(0x14000 >> 2 | ALL | U, SUM), 12, AT + 0x1000, AT + 0xffe);
        faults("outside", across(0x40000 >> 2 | ALL, 0), 1, AT + 0x1000, AT + 0xffe);
        faults("a DEVICE", across(0x10000 << 10 | ALL, 0), 1, AT + 0x1000, AT + 0xffe);
    }

    private static void oneOf16BitsAtAPagesEndNeedsNoNextPage() {
        TranslatingHost x = paged(NEXT >> 2 | V, PAGE >> 2 | ALL, 0);
        x.load(PAGE + 0xff0, 0, 0, 0, 0x00010000);
        x.set(32, AT + 0xffe);
        x.run(1);
        Due.is("TRAPS", x.count(2), 0);
        Due.is("pc", x.reg(32), AT + 0x1000);
    }

    private static void oneOf32BitsJustBeforeAPagesEndNeedsNoNextPage() {
        TranslatingHost x = paged(NEXT >> 2 | V, PAGE >> 2 | ALL, 0);
        x.load(PAGE + 0xff0, 0, 0, 0, 0x13);
        x.set(32, AT + 0xffc);
        x.run(1);
        Due.is("TRAPS", x.count(2), 0);
        Due.is("pc", x.reg(32), AT + 0x1000);
    }

    private static void pcWrapsAroundBehindTheLastPage() {
        TranslatingHost x = withSatp(0x80000000 | ROOT >> 12, 0, 0, 0);
        x.load(ROOT + 0xff0, 0, 0, 0, NEXT >> 2 | V);
        x.load(NEXT + 0xff0, 0, 0, 0, PAGE >> 2 | ALL);
        x.load(PAGE + 0xff0, 0, 0, 0, 0x01930001);
        x.load(0, 0x00010050, 0, 0, 0);
        x.set(32, -2);
        x.run(1);
        Due.is("TRAPS", x.count(2), 0);
        Due.is("addi x3, x0, 5", x.reg(3), 5);
        Due.is("pc", x.reg(32), 2);
        x.load(PAGE + 0xff0, 0, 0, 0, 0x00010001);
        x.set(32, -2);
        x.run(1);
        Due.is("pc of one of 16 bits", x.reg(32), 0);
    }

    private static void theTwoBytesBehindTheLastOnesAreAt0() {
        TranslatingHost x = withSatp(0x80000000 | ROOT >> 12, 0, 0, 0);
        x.load(ROOT, 0, 0, 0, 0);
        x.load(ROOT + 0xff0, 0, 0, 0, NEXT >> 2 | V);
        x.load(NEXT + 0xff0, 0, 0, 0, PAGE >> 2 | ALL);
        x.load(PAGE + 0xff0, 0, 0, 0, 0x01930001);
        x.set(32, -2);
        x.run(1);
        faults("no page at 0", x, 12, 0, -2);
    }

    // "what a store changed counts from the next step on, for fetches and pages, too"

    private static void aStoreIntoTheNextInstruction() {
        TranslatingHost x = Due.with("sw x2, 4(x0)\naddi x3, x0, 1");
        x.set(2, 0x00200193);
        x.run(2);
        Due.is("sw", x.reg(3), 2);
        TranslatingHost sh = Due.with("sh x2, 6(x0)\naddi x3, x0, 1");
        sh.set(2, 0x0030);
        sh.run(2);
        Due.is("sh into its second half", sh.reg(3), 3);
        TranslatingHost sb = Due.with("sb x2, 6(x0)\naddi x3, x0, 1");
        sb.set(2, 0x40);
        sb.run(2);
        Due.is("sb into its second half", sb.reg(3), 4);
        TranslatingHost amo = Due.with("amoadd.w x4, x2, (x6)\naddi x3, x0, 1");
        amo.set(2, 0x00400000);
        amo.set(6, 4);
        amo.run(2);
        Due.is("amoadd.w", amo.reg(3), 5);
        TranslatingHost sc = Due.with("lr.w x4, (x6)\nsc.w x5, x2, (x6)\naddi x3, x0, 1");
        sc.set(2, 0x00600193);
        sc.set(6, 8);
        sc.run(3);
        Due.is("sc.w", sc.reg(3), 6);
    }

    private static void aStoreIntoAnInstructionThatHasRunBefore() {
        TranslatingHost x = Due.with("addi x3, x3, 1\nsw x2, 0(x0)\nj -8");
        x.set(2, 0x06418193);
        x.run(3);
        Due.is("before", x.reg(3), 1);
        x.run(1);
        Due.is("behind", x.reg(3), 101);
    }

    private static void aStoreIntoTheOwnInstructionIsForTheNextTime() {
        TranslatingHost x = Due.with("sw x2, 0(x0)\nj -4");
        x.set(2, 0x00700193);
        x.run(1);
        Due.is("RETIRED", x.count(1), 1);
        x.run(2);
        Due.is("the next time", x.reg(3), 7);
    }

    private static void aStoreCountsForThePageOfTheNextFetch() {
        TranslatingHost x = paged(NEXT >> 2 | V, PAGE >> 2 | ALL, 0);
        Due.assemble(x, PAGE, "sw x0, 0(x5)\naddi x3, x0, 1");
        x.set(5, NEXT);
        x.set(32, AT);
        x.run(2);
        Due.is("scause", x.csr(0x142), 12);
        Due.is("stval", x.csr(0x143), AT + 4);
        Due.is("INSTRET", x.count(1), 3);
    }

    private static void aStoreCountsForThePageOfTheNextLoad() {
        TranslatingHost x = paged(NEXT >> 2 | V, PAGE >> 2 | ALL, 0);
        Due.assemble(x, 0x100, "lw x3, 0(x6)\nsw x2, 0(x5)\nlw x4, 0(x6)");
        x.load(PAGE, 11, 0, 0, 0);
        x.load(0x14000, 22, 0, 0, 0);
        x.set(2, 0x14000 >> 2 | ALL);
        x.set(5, NEXT);
        x.set(6, AT);
        x.set(32, 0x100);
        x.run(3);
        Due.is("before", x.reg(3), 11);
        Due.is("behind", x.reg(4), 22);
        Due.is("check()", x.check(), 1);
    }

    private static void loadAndAssembleIntoAnInstructionThatHasRunBefore() {
        TranslatingHost x = Due.with("addi x3, x3, 1\nj -4");
        x.run(4);
        Due.is("before", x.reg(3), 2);
        x.load(0, 0x06418193, 0xffdff06f, 0, 0);
        x.run(2);
        Due.is("behind load()", x.reg(3), 102);
        Due.assemble(x, 0, "addi x3, x3, 1000");
        x.run(2);
        Due.is("behind assemble()", x.reg(3), 1102);
        Due.is("check()", x.check(), 1);
    }

    private static void aStoreIntoOneOf16BitsThatHasRunBefore() {
        TranslatingHost x = Due.with("c.addi x3, 1\nc.addi x3, 2\nsh x2, 2(x0)\nj -8");
        x.set(2, 0x01fd);
        x.run(4);
        Due.is("before", x.reg(3), 3);
        x.run(2);
        Due.is("behind", x.reg(3), 3 + 1 + 31);
    }

    private static void aStoreThatMakesOneOf32BitsOfTwoOf16() {
        TranslatingHost x = Due.with("c.addi x3, 1\n.half 0x0640\nsb x2, 0(x0)\nj -8");
        x.set(2, 0x93);
        x.run(1);
        Due.is("before", x.reg(32), 2);
        x.set(32, 4);
        x.run(2);
        x.run(1);
        Due.is("behind", x.reg(32), 4);
        Due.is("addi x3, x0, 100", x.reg(3), 100);
    }

    private static void aStoreByAnotherAddressOfTheSamePlace() {
        TranslatingHost x = page(ALL, 0);
        Due.assemble(x, PAGE, "addi x3, x3, 1\nj -4");
        Due.assemble(x, 0x100, "sw x2, 0(x5)");
        x.set(32, AT);
        x.run(2);
        x.set(2, 0x06418193);
        x.set(5, PAGE);
        x.set(32, 0x100);
        x.run(1);
        x.set(32, AT);
        x.run(1);
        Due.is("behind", x.reg(3), 101);
        Due.is("check()", x.check(), 1);
    }

    private static void loadIntoAPageThatHasBeenLookedAt() {
        TranslatingHost x = page(ALL, 0);
        leads("before", x, AT, 1, all(PAGE));
        x.load(NEXT, 0x14000 >> 2 | ALL, 0, 0, 0);
        leads("another page", x, AT, 1, all(0x14000));
        x.load(NEXT, 0, 0, 0, 0);
        leads("no page", x, AT, 1, faults(PAGE_FAULTS));
        x.load(ROOT, ALL, ALL, 0, 0);
        leads("a great page", x, AT, 1, all(0));
    }

    private static void sumAndMxrCountFromTheNextStepOn() {
        TranslatingHost x = page(V | X | U | A, 0);
        Due.assemble(x, 0x100, "lw x3, 0(x5)\ncsrrw x0, sstatus, x6\nlw x4, 0(x5)\ncsrrw x0, sstatus, x0\nlw x7, 0(x5)");
        x.load(PAGE, 55, 0, 0, 0);
        x.set(5, AT);
        x.set(6, SUM | MXR);
        x.set(32, 0x100);
        x.run(1);
        Due.is("before", x.csr(0x142), 13);
        x.set(32, 0x104);
        x.run(2);
        Due.is("with SUM, MXR", x.reg(4), 55);
        x.run(2);
        Due.is("without again", x.csr(0x141), 0x110);
        Due.is("TRAPS", x.count(2), 2);
    }

    private static void theLevelCountsFromTheNextFetchOn() {
        TranslatingHost x = page(ALL, 0);
        Due.assemble(x, 0x100, "csrrw x0, sepc, x5\nsret");
        x.set(5, 0x10c);
        x.set(32, 0x100);
        x.run(3);
        Due.is("scause", x.csr(0x142), 12);
        Due.is("stval", x.csr(0x143), 0x10c);
        Due.is("SPP", x.csr(0x100) & 1 << 8, 0);
    }

    // "the RESERVATION is that physical address"

    private static void theReservationIsOfThePhysicalAddressNotOfThePages() {
        TranslatingHost x = page(ALL, 0);
        Due.assemble(x, 0x100, "lr.w x4, (x5)\nsc.w x3, x2, (x6)");
        x.set(5, AT + 8);
        x.set(6, PAGE + 8);
        x.set(32, 0x100);
        x.run(2);
        Due.is("another address, the same place", x.reg(3), 0);
        Due.is("TRAPS", x.count(2), 0);
    }

    private static void theReservationDoesNotFollowAChangedPage() {
        TranslatingHost x = page(ALL, 0);
        Due.assemble(x, 0x100, "lr.w x4, (x5)\nsw x2, 0(x6)\nsc.w x3, x2, (x5)");
        x.set(2, 0x14000 >> 2 | ALL);
        x.set(5, AT + 8);
        x.set(6, NEXT);
        x.set(32, 0x100);
        x.run(3);
        Due.is("the same address, another place", x.reg(3), 1);
        Due.is("nothing is stored", x.word(0x14008), 0);
    }

    private static void satpCountsForTheNextFetch() {
        TranslatingHost x = Due.with("csrrw x0, satp, x1\naddi x3, x0, 1");
        x.load(ROOT, 0, 0, 0, 0);
        x.set(1, 0x80000000 | ROOT >> 12);
        x.run(2);
        Due.is("scause", x.csr(0x142), 12);
        Due.is("stval", x.csr(0x143), 4);
    }

    // "Promise 11: how or LEVEL none such: -100"

    private static void leadsTakesHow0To2AndLevel0And1() {
        TranslatingHost x = new TranslatingHost();
        for (int level = 0; level < 2; level++) {
            leads("new", x, 0x123, level, all(0x123));
        }
    }

    private static void leadsRefusesAnotherHow() {
        int[] wrong = {-1, 3, Integer.MIN_VALUE, Integer.MAX_VALUE};
        for (int how : wrong) {
            for (int level = 0; level < 2; level++) {
                Due.is("leads(0, " + how + ", " + level + ")", new TranslatingHost().leads(0, how, level), -100);
            }
        }
    }

    private static void leadsRefusesAnotherLevel() {
        int[] wrong = {-1, 2, Integer.MIN_VALUE, Integer.MAX_VALUE, 3};
        for (int level : wrong) {
            for (int how = 0; how < 3; how++) {
                Due.is("leads(0, " + how + ", " + level + ")", new TranslatingHost().leads(0, how, level), -100);
            }
        }
    }

    private static void leadsRefusesThemAheadOfFaults() {
        Due.is("leads(-1, 3, 1)", new TranslatingHost().leads(-1, 3, 1), -100);
        Due.is("leads(-1, 1, 2)", new TranslatingHost().leads(-1, 1, 2), -100);
    }

    // "it need be no multiple of anything: a byte of MEMORY is enough, of the DEVICES just the words' own addresses"

    private static void leadsTakesEachByteOfMemory() {
        int[] places = {0, 1, 2, 3, 0x3fffc, 0x3fffd, 0x3fffe, 0x3ffff};
        for (int address : places) {
            leads("a byte", new TranslatingHost(), address, 1, all(address));
        }
    }

    private static void leadsRefusesTheFirstByteBehindMemoryAndTheLastBefore() {
        int[] places = {0x40000, -1, Integer.MIN_VALUE, Integer.MAX_VALUE};
        for (int address : places) {
            leads("no byte", new TranslatingHost(), address, 1, faults(ACCESS_FAULTS));
        }
    }

    private static void leadsTakesTheDevicesOwnAddresses() {
        TranslatingHost x = new TranslatingHost();
        for (int d : DEVICES) {
            leads("device " + d, x, 0x10000000 + d, 0, each(-2, 0x10000000 + d, 0x10000000 + d));
        }
    }

    private static void leadsRefusesTheOtherBytesOfDevices() {
        for (int d : DEVICES) {
            TranslatingHost x = new TranslatingHost();
            for (int i = 1; i < 4; i++) {
                leads("device " + d + " and " + i, x, 0x10000000 + d + i, 1, faults(ACCESS_FAULTS));
            }
        }
    }

    private static void leadsRefusesTheWordsBesideDevices() {
        int[] beside = {
            0x0ffffffc, 0x0fffffff, 0x10000008, 0x100000fc, 0x10000110, 0x100001fc, 0x10000204, 0x100002fc, 0x1000030c, 0x30000000,
            0x90000000,
        };
        for (int address : beside) {
            leads("beside", new TranslatingHost(), address, 1, faults(ACCESS_FAULTS));
        }
    }

    private static void leadsChangesNothing() {
        TranslatingHost x = new TranslatingHost();
        x.key(5);
        x.leads(0x10000000, 1, 1);
        x.leads(0x10000000, 2, 1);
        x.leads(0x10000200, 2, 1);
        x.leads(-1, 0, 0);
        Due.is("INPUT", x.count(4), 1);
        Due.is("OUTPUT", x.count(3), 0);
        Due.is("HALTED", x.count(5), 0);
        Due.is("TRAPS", x.count(2), 0);
    }

    private static void leadsIsOfItsOwnLevelNotOfTheMachines() {
        TranslatingHost x = page(ALL | U, 0);
        Due.is("LEVEL", x.reg(33), 1);
        leads("at U", x, AT, 0, all(PAGE));
        leads("at S", x, AT, 1, faults(PAGE_FAULTS));
    }
}
