/** The edges of THE TAPE, of tokens, labels and FAULTS: section 6 and promises 13 to 17. */
public final class TextEdgesTest {
    private static final int NONE = TranslatingHost.NONE;
    private static final int SYNTAX = 3;
    private static final int LABEL = 4;
    private static final int RANGE = 5;
    private static final int NO_LABEL = 6;
    private static final int NO_ROOM = 7;
    private static final int BLANKS = 0x20202020;

    public static void main(String[] args) {
        Edges.run(TextEdgesTest.class);
    }

    /** So many bytes on THE TAPE, all blanks. */
    private static TranslatingHost taped(int bytes) {
        TranslatingHost x = new TranslatingHost();
        for (int n = 0; n < bytes; n += 20) {
            x.feed(BLANKS, BLANKS, BLANKS, BLANKS, BLANKS);
        }
        if (bytes % 20 != 0) {
            x.end(bytes % 20);
        }
        return x;
    }

    private static int feedBlanks(TranslatingHost x) {
        return x.feed(BLANKS, BLANKS, BLANKS, BLANKS, BLANKS);
    }

    private static boolean isIn(int b, String set) {
        return set.indexOf(b) >= 0;
    }

    private static boolean isLetter(int b) {
        return b >= 'a' && b <= 'z' || b >= 'A' && b <= 'Z' || b == '_' || b == '.';
    }

    private static boolean isDigit(int b) {
        return b >= '0' && b <= '9';
    }

    // "Promise 13: Twenty bytes .. the first number's highest one first .. NONE (none comes): it would have more than 4000"

    private static void feedTellsHowManyThereAre() {
        TranslatingHost x = new TranslatingHost();
        Due.is("the first", feedBlanks(x), 20);
        Due.is("the second", feedBlanks(x), 40);
    }

    private static void feedBringsTheHighestByteFirst() {
        TranslatingHost x = new TranslatingHost();
        x.feed(0x2e776f72, 0x64203078, 0x31323334, 0x35363738, 0x0a202020);
        Due.is("assemble", x.assemble(0), 4);
        Due.is("word(0)", x.word(0), 0x12345678);
    }

    private static void feedBringsBytesFrom128On() {
        TranslatingHost x = new TranslatingHost();
        x.feed(0x23ff80ff, 0xffffffff, 0x80808080, 0x800a6e6f, 0x700a2020);
        Due.is("assemble", x.assemble(0), 4);
    }

    private static void feedTakesThe4000thByte() {
        TranslatingHost x = taped(3980);
        Due.is("feed", feedBlanks(x), 4000);
    }

    private static void feedRefusesThe4001st() {
        Due.is("behind 4000", feedBlanks(taped(4000)), NONE);
        Due.is("behind 3981", feedBlanks(taped(3981)), NONE);
        Due.is("behind 3999", feedBlanks(taped(3999)), NONE);
    }

    private static void feedThatIsRefusedBringsNone() {
        TranslatingHost x = taped(3981);
        x.feed(0x6e6f700a, 0x6e6f700a, 0x6e6f700a, 0x6e6f700a, 0x6e6f700a);
        Due.is("end(20)", x.end(20), 3981);
        Due.is("assemble", x.assemble(0), 0);
        Due.is("word(0)", x.word(0), 0);
    }

    private static void feedTakesAgainWhenThereIsRoom() {
        TranslatingHost x = taped(4000);
        Due.is("end(0)", x.end(0), 3980);
        Due.is("feed", feedBlanks(x), 4000);
        Due.is("assemble", x.assemble(0), 0);
        Due.is("feed of an empty one", feedBlanks(x), 20);
    }

    // "Promise 14: Of the last 20 bytes only the first n stay .. NONE: n is not 0 .. 20, or there are not 20"

    private static void endTakes0And20() {
        Due.is("end(0)", taped(20).end(0), 0);
        Due.is("end(1)", taped(20).end(1), 1);
        Due.is("end(19)", taped(20).end(19), 19);
        Due.is("end(20)", taped(20).end(20), 20);
    }

    private static void endRefusesMinus1() {
        refusesEnd(-1);
        refusesEnd(Integer.MIN_VALUE);
    }

    private static void endRefuses21() {
        refusesEnd(21);
        refusesEnd(Integer.MAX_VALUE);
    }

    private static void refusesEnd(int n) {
        TranslatingHost x = taped(40);
        Due.is("end(" + n + ")", x.end(n), NONE);
        Due.is("all stay", x.end(20), 40);
    }

    private static void endRefusesWhenThereAreNot20() {
        for (int n = 0; n <= 20; n++) {
            Due.is("end(" + n + ") of none", new TranslatingHost().end(n), NONE);
            Due.is("end(" + n + ") of 19", taped(19).end(n), NONE);
        }
        TranslatingHost x = taped(19);
        x.end(0);
        Due.is("19 stay", feedBlanks(x), 39);
    }

    private static void endTakesWhenThereAreJust20() {
        TranslatingHost x = taped(21);
        Due.is("end(19) of 21", x.end(19), 20);
        Due.is("end(19) of 20", x.end(19), 19);
        Due.is("end(19) of 19", x.end(19), NONE);
    }

    private static void endKeepsTheFirstOfTheLast20() {
        TranslatingHost x = new TranslatingHost();
        Due.feed(x, ".word 5 # 2345678901.word 6 # 2345678901");
        Due.is("end(0)", x.end(0), 20);
        Due.is("end(7)", x.end(7), 7);
        Due.is("assemble", x.assemble(0), 4);
        Due.is("word(0)", x.word(0), 5);
    }

    private static void endMayBeCalledAgainAndAgain() {
        TranslatingHost x = taped(4000);
        int due = 4000;
        for (int i = 0; i < 200; i++) {
            due -= 20;
            Due.is("end(0)", x.end(0), due);
        }
        Due.is("end(0) of none", x.end(0), NONE);
    }

    // "Promise 15: .. and it is empty .. NONE: the address is odd or not in MEMORY (it is empty all the same)"

    private static void assembleTakesAddress0AndTheLastEvenOne() {
        TranslatingHost x = new TranslatingHost();
        Due.is("assemble(0)", Due.assemble(x, 0, "c.nop"), 2);
        Due.is("word(0)", x.word(0), 1);
        Due.is("assemble(262142)", Due.assemble(x, 262142, "c.nop"), 2);
        Due.is("word(262140)", x.word(262140), 0x00010000);
    }

    private static void assembleRefusesOddAddresses() {
        int[] odd = {1, 3, 262141, 262143, -1, Integer.MAX_VALUE};
        for (int address : odd) {
            refusesAssemble(address);
        }
    }

    private static void assembleRefusesAddressesOutOfMemory() {
        int[] outside = {262144, 262146, -2, Integer.MIN_VALUE, 0x10000000, 0x7ffffffe};
        for (int address : outside) {
            refusesAssemble(address);
        }
    }

    private static void refusesAssemble(int address) {
        TranslatingHost x = new TranslatingHost();
        Due.assemble(x, 0x100, "a: nop\nbad");
        Due.is("assemble(" + address + ")", Due.assemble(x, address, ".word 1, 2, 3, 4, 5, 6"), NONE);
        Due.is("place() behind it", x.place(), NONE);
        Due.is("THE TAPE is empty", x.end(20), NONE);
        Due.is("assemble of nothing", x.assemble(0), 0);
        Due.is("word(0)", x.word(0), 0);
        Due.is("word(262140)", x.word(262140), 0);
    }

    private static void assembleRefusesAheadOfFaults() {
        TranslatingHost x = new TranslatingHost();
        Due.is("assemble(1) of a bad text", Due.assemble(x, 1, "bad"), NONE);
        Due.is("place()", x.place(), NONE);
    }

    private static void assembleOfNothingIs0() {
        TranslatingHost x = new TranslatingHost();
        Due.is("assemble(0)", x.assemble(0), 0);
        Due.is("place()", x.place(), NONE);
    }

    private static void aTextKnowsNothingOfTheOneBefore() {
        String[] before = {
            "a: j a\nb: .word 1, 2, 3, 4, 5, 6", "a: addi x1, x2, 2048\nb: nop", "a: j nowhere\nb: j 1", "a: bad", "a: a:",
            "c.lw x1, 1(x1)", "a: b: c: .byte 256, 256, 256",
        };
        for (String text : before) {
            TranslatingHost x = new TranslatingHost();
            Due.assemble(x, 0x100, text);
            Due.is("nop behind " + text, Due.assemble(x, 0x200, "nop"), 4);
            Due.is("word(200) behind " + text, x.word(0x200), 0x13);
            Due.is("place() behind " + text, x.place(), NONE);
            Due.is("label(0) behind " + text, x.label(0), NONE);
            Due.is("its labels behind " + text, Due.assemble(x, 0x300, "j a"), -NO_LABEL);
            Due.is("a label behind " + text, Due.assemble(x, 0x300, "a: j a"), 4);
            Due.is("label(0) of it", x.label(0), 0x300);
        }
    }

    private static void aShorterTextHasNoStatementOfALongerOneBefore() {
        TranslatingHost x = new TranslatingHost();
        Due.is("eight TARGETS", Due.assemble(x, 0x100, "j 0\n".repeat(8)), 32);
        Due.is("four without any", Due.assemble(x, 0x100, "nop\n".repeat(4)), 16);
        Due.is("the fourth", x.word(0x10c), 0x13);
        Due.is("the fifth stays", x.word(0x110), 0x6f);
        Due.is("eight NUMBERS", Due.assemble(x, 0x100, ".byte 255\n".repeat(8)), 8);
        Due.is("two", Due.assemble(x, 0x100, ".align 1\n.align 2"), 0);
    }

    private static void theTapeIsEmptyBehindAGoodOneAndABadOne() {
        TranslatingHost x = new TranslatingHost();
        Due.assemble(x, 0, "nop # 01234567890123456789");
        Due.is("behind a good one", x.end(20), NONE);
        Due.assemble(x, 0, "bad # 01234567890123456789");
        Due.is("behind a bad one", x.end(20), NONE);
        Due.is("feed", feedBlanks(x), 20);
    }

    private static void aTextOf4000Bytes() {
        Due.takes("#".repeat(3994) + "\nnop\n ", 4);
        Due.takes("#".repeat(3996) + "\nnop", 4);
        Due.fails("#".repeat(3998) + "\n$", SYNTAX, 3999);
        Due.fails("#".repeat(3996) + "\nadd", SYNTAX, 4000);
    }

    private static void theMostOfEachThatATextCanHave() {
        Due.takes("\n".repeat(4000), 0);
        Due.takes("j 0\n".repeat(1000), 4000);
        Due.takes("nop\n".repeat(998) + ".byte 1", 3993);
        Due.takes(".byte 1" + ",1".repeat(1996), 1997);
        Due.takes(".word 1" + ",1".repeat(1996), 4 * 1997);
        Due.fails(":".repeat(4000), SYNTAX, 0);
        Due.fails("nop" + "(".repeat(3997), SYNTAX, 3);
        Due.fails("\n".repeat(3999) + "$", SYNTAX, 3999);
        Due.fails("\n".repeat(3999) + "5", SYNTAX, 3999);
        Due.fails("\n".repeat(3999) + "a", SYNTAX, 3999);
        Due.takes("\n".repeat(3998) + "a:", 0);
    }

    // "Promise 16: The place of the FAULT of the latest assemble(); NONE (also behind one that was NONE)"

    private static void placeIsThatOfTheLatest() {
        TranslatingHost x = new TranslatingHost();
        Due.assemble(x, 0, "bad");
        Due.is("the first byte", x.place(), 0);
        Due.assemble(x, 0, "nop\nbad");
        Due.is("another", x.place(), 4);
        Due.assemble(x, 0, "nop");
        Due.is("behind a good one", x.place(), NONE);
        Due.assemble(x, 0, "nop\nbad");
        Due.assemble(x, 1, "nop");
        Due.is("behind NONE", x.place(), NONE);
    }

    private static void placeStaysByFeedAndEnd() {
        TranslatingHost x = new TranslatingHost();
        Due.assemble(x, 0, "nop\nbad");
        Due.feed(x, "nop");
        Due.is("place()", x.place(), 4);
    }

    // "Promise 17: label k of the latest assemble() that told how many bytes .. NONE when there is none such"

    private static void labelTakesTheFirstAndTheLast() {
        TranslatingHost x = new TranslatingHost();
        Due.assemble(x, 0x100, "b: nop\na: nop\nc:");
        Due.is("label(0)", x.label(0), 0x100);
        Due.is("label(1)", x.label(1), 0x104);
        Due.is("label(2)", x.label(2), 0x108);
        Due.is("label(3)", x.label(3), NONE);
        Due.is("label(-1)", x.label(-1), NONE);
        Due.is("label(least)", x.label(Integer.MIN_VALUE), NONE);
        Due.is("label(greatest)", x.label(Integer.MAX_VALUE), NONE);
    }

    private static void labelsOf32() {
        TranslatingHost x = new TranslatingHost();
        Due.assemble(x, 0, labels(32));
        for (int k = 0; k < 32; k++) {
            Due.is("label(" + k + ")", x.label(k), 4 * k);
        }
        Due.is("label(32)", x.label(32), NONE);
    }

    private static void labelsStayBehindAFaultAndBehindNone() {
        String[] bad = {"x: bad", "x: x:", "x: slli x1, x1, 32", "x: j nowhere", "x: j 1"};
        for (String text : bad) {
            TranslatingHost x = new TranslatingHost();
            Due.assemble(x, 0x100, "nop\na: nop");
            Due.assemble(x, 0x200, text);
            Due.is("label(0) behind " + text, x.label(0), 0x104);
            Due.is("label(1) behind " + text, x.label(1), NONE);
        }
        TranslatingHost x = new TranslatingHost();
        Due.assemble(x, 0x100, "nop\na: nop");
        Due.assemble(x, 262140, "x: nop\nnop");
        Due.is("label(0) behind 7", x.label(0), 0x104);
        Due.assemble(x, 0x101, "x: nop");
        Due.is("label(0) behind NONE", x.label(0), 0x104);
    }

    private static void labelsGoWithAGoodOneThatHasNone() {
        TranslatingHost x = new TranslatingHost();
        Due.assemble(x, 0x100, "a: nop\nb: nop");
        Due.assemble(x, 0x200, "c: nop");
        Due.is("label(0)", x.label(0), 0x200);
        Due.is("label(1)", x.label(1), NONE);
        x.assemble(0x300);
        Due.is("label(0) behind nothing", x.label(0), NONE);
    }

    private static void aLabelAtTheEndOfMemory() {
        TranslatingHost x = new TranslatingHost();
        Due.is("assemble", Due.assemble(x, 262140, "nop\na:"), 4);
        Due.is("label(0)", x.label(0), 262144);
    }

    private static void aLabelAtAnOddAddress() {
        TranslatingHost x = new TranslatingHost();
        Due.assemble(x, 0x100, ".byte 1\na: .byte 2\nb:");
        Due.is("label(0)", x.label(0), 0x101);
        Due.is("label(1)", x.label(1), 0x102);
    }

    // "Lines end with byte 10 (or the text); a # and what is behind it in its line do not count"

    private static void aLineEndsWithByte10OrTheText() {
        Due.takes("nop", 4);
        Due.takes("nop\n", 4);
        Due.takes("nop\nnop", 8);
        Due.takes("\n\nnop\n\n", 4);
        Due.fails("nop nop", SYNTAX, 4);
        Due.fails("nop\rnop", SYNTAX, 4);
    }

    private static void aCommentEndsWithItsLine() {
        Due.takes("#nop", 0);
        Due.takes("#nop\nnop", 4);
        Due.takes("nop#", 4);
        Due.takes("nop # nop # nop\nnop", 8);
        Due.takes("#\n#\n#", 0);
        Due.takes("a: # nop\nnop", 4);
        Due.takes("a:#\nnop", 4);
        Due.takes("# \u0000\u00ff $ :\nnop", 4);
        Due.fails("addi x1, # x2, 3\nx2, 3", SYNTAX, 16);
    }

    private static void theLinesEndAsAFaultsPlace() {
        Due.fails("add", SYNTAX, 3);
        Due.fails("add ", SYNTAX, 4);
        Due.fails("add\n", SYNTAX, 3);
        Due.fails("add \n", SYNTAX, 4);
        Due.fails("add # x\n", SYNTAX, 7);
        Due.fails("add # x", SYNTAX, 7);
        Due.fails("add \t\r", SYNTAX, 6);
        Due.fails("add x1,\nx2, x3", SYNTAX, 7);
    }

    // "In a line: { LABEL : } [ statement ]"

    private static void aLineMayHaveNothingOrLabelsOrAStatementOrBoth() {
        Due.takes("", 0);
        Due.takes(" ", 0);
        Due.takes("a:", 0);
        Due.takes("a: b: c:", 0);
        Due.takes("a:b:c:nop", 4);
        Due.takes("a : b : nop", 4);
        Due.takes("a\t:\rnop", 4);
    }

    private static void aLabelMayNotFollowAStatement() {
        Due.fails("nop a:", SYNTAX, 4);
        Due.fails("nop:nop:", LABEL, 4);
        Due.fails("j a:", SYNTAX, 3);
    }

    private static void aColonNeedsItsLabel() {
        Due.fails(":", SYNTAX, 0);
        Due.fails("a::", SYNTAX, 2);
        Due.fails("a\n:", SYNTAX, 0);
        Due.fails("5:", SYNTAX, 0);
        Due.fails("a: :", SYNTAX, 3);
    }

    private static void namesOfAllKindsMayBeLabels() {
        Due.takes("nop: add: x1: sp: sie: c.nop: .word: x32: j nop\nj x1\nj sie\nj .word\nj x32\nj c.nop", 24);
    }

    // "blanks 9, 13, 32 may stand between tokens"

    private static void eachByteBetweenTokens() {
        for (int b = 0; b < 256; b++) {
            String text = "nop" + (char) b;
            if (b == 9 || b == 10 || b == 13 || b == 32 || b == '#') {
                Due.takes(text, 4);
            } else if (isLetter(b) || isDigit(b)) {
                Due.fails(text, SYNTAX, 0);
            } else if (b == ':') {
                Due.takes(text, 0);
            } else {
                Due.fails(text, SYNTAX, 3);
            }
        }
    }

    private static void blanksMayStandBetweenAllTokensOrNowhere() {
        Due.takes("\t lw \t x1 \r , \t -4 \r ( x2 ) \t", 4);
        Due.takes("lw x1,-4(x2)", 4);
        Due.takes("sc.w x1,x2,(x3)", 4);
        Due.takes(".word 1,2,3", 12);
    }

    private static void blanksMayNotStandWithinTokens() {
        Due.fails("no p", SYNTAX, 0);
        Due.fails("mv x 1, x2", SYNTAX, 3);
        Due.fails(".word - 1", SYNTAX, 6);
        Due.fails(".word 0 x1", SYNTAX, 8);
        Due.fails("fence .i", SYNTAX, 6);
    }

    // "NAMES (a letter, _ or . , then these and digits, 20 at most)"

    private static void eachByteAsANamesFirst() {
        for (int b = 0; b < 256; b++) {
            String text = (char) b + ":";
            if (isLetter(b) || b == '#') {
                Due.takes(text, 0);
            } else {
                Due.fails(text, SYNTAX, b == 9 || b == 10 || b == 13 || b == 32 ? 1 : 0);
            }
        }
    }

    private static void eachByteAsANamesSecond() {
        for (int b = 0; b < 256; b++) {
            String text = "a" + (char) b + ":";
            if (isLetter(b) || isDigit(b) || b == 9 || b == 13 || b == 32) {
                Due.takes(text, 0);
            } else {
                Due.fails(text, SYNTAX, b == ':' ? 2 : 0);
            }
        }
    }

    private static void aNameOf20BytesIsTaken() {
        Due.takes("abcdefghijklmnopqrst: j abcdefghijklmnopqrst", 4);
        Due.takes("_2345678901234567890:", 0);
        Due.takes("...................." + ":", 0);
    }

    private static void aNameOf21BytesIsNone() {
        Due.fails("abcdefghijklmnopqrstu:", SYNTAX, 0);
        Due.fails("j abcdefghijklmnopqrstu", SYNTAX, 2);
        Due.fails("_23456789012345678901:", SYNTAX, 0);
        Due.fails("nop\n  abcdefghijklmnopqrstu: nop", SYNTAX, 6);
    }

    private static void namesOf20BytesThatDifferInTheLastAreTwo() {
        Due.takes("abcdefghijklmnopqrst: abcdefghijklmnopqrsu:", 0);
        Due.fails("abcdefghijklmnopqrst: abcdefghijklmnopqrst:", LABEL, 22);
        Due.takes("a: aa: aaa:", 0);
    }

    private static void namesInGreatLettersAreOthers() {
        Due.takes("a: A: j A\nj a", 8);
        Due.fails("a: j A", NO_LABEL, 5);
        Due.fails("NOP", SYNTAX, 0);
        Due.fails("Add x1, x2, x3", SYNTAX, 0);
        Due.fails("mv X1, x2", SYNTAX, 3);
        Due.fails("mv SP, x2", SYNTAX, 3);
        Due.fails("csrrw x1, SIE, x2", SYNTAX, 10);
        Due.fails(".WORD 1", SYNTAX, 0);
    }

    // "NUMBERS (0x and 1 .. 8 digits of base 16, a .. f or A .. F"

    private static void hexOf1And8Digits() {
        Due.is("0x0", Due.takes(".word 0x0", 4).word(0x1000), 0);
        Due.is("0xf", Due.takes(".word 0xf", 4).word(0x1000), 15);
        Due.is("0xffffffff", Due.takes(".word 0xffffffff", 4).word(0x1000), 0xffffffffL);
        Due.is("0x00000001", Due.takes(".word 0x00000001", 4).word(0x1000), 1);
        Due.is("0xabcdefAB", Due.takes(".word 0xabcdefAB", 4).word(0x1000), 0xabcdefabL);
        Due.is("0xCDEF0189", Due.takes(".word 0xCDEF0189", 4).word(0x1000), 0xcdef0189L);
    }

    private static void hexOf0And9Digits() {
        Due.fails(".word 0x", SYNTAX, 6);
        Due.fails(".word 0x ", SYNTAX, 6);
        Due.fails(".word 0x,1", SYNTAX, 6);
        Due.fails(".word 0x000000000", SYNTAX, 6);
        Due.fails(".word 0x100000000", SYNTAX, 6);
        Due.fails(".word -0x", SYNTAX, 6);
        Due.fails(".word -0x000000001", SYNTAX, 6);
    }

    private static void eachByteAsADigitOfHex() {
        for (int b = 0; b < 256; b++) {
            String text = ".word 0x" + (char) b;
            if (isDigit(b) || isIn(b, "abcdefABCDEF")) {
                int want = Character.digit(b, 16);
                Due.is(text, Due.takes(text, 4).word(0x1000), want);
            } else {
                Due.fails(text, SYNTAX, 6);
            }
        }
    }

    private static void hexNeedsASmallX() {
        Due.fails(".word 0X1", SYNTAX, 6);
        Due.fails(".word 1x1", SYNTAX, 6);
        Due.fails(".word 00x1", SYNTAX, 6);
    }

    // "or 1 .. 10 digits, at most 4294967295; perhaps - right before; not right before what a NAME may have)"

    private static void decimalOf1And10Digits() {
        Due.is("0", Due.takes(".word 0", 4).word(0x1000), 0);
        Due.is("9", Due.takes(".word 9", 4).word(0x1000), 9);
        Due.is("0000000009", Due.takes(".word 0000000009", 4).word(0x1000), 9);
        Due.is("4294967295", Due.takes(".word 4294967295", 4).word(0x1000), 0xffffffffL);
        Due.is("-0", Due.takes(".word -0", 4).word(0x1000), 0);
        Due.is("-0000000009", Due.takes(".word -0000000009", 4).word(0x1000), 0xfffffff7L);
    }

    private static void decimalOf11Digits() {
        Due.fails(".word 00000000001", SYNTAX, 6);
        Due.fails(".word 42949672950", SYNTAX, 6);
        Due.fails(".word -00000000001", SYNTAX, 6);
        Due.fails(".word 99999999999999999999", SYNTAX, 6);
        Due.fails(".word 18446744073709551617", SYNTAX, 6);
    }

    private static void decimalOverTheGreatest() {
        Due.fails(".word 4294967296", SYNTAX, 6);
        Due.fails(".word 9999999999", SYNTAX, 6);
        Due.fails(".word -4294967296", SYNTAX, 6);
        Due.fails(".word -4294967295", RANGE, 6);
    }

    private static void aMinusRightBefore() {
        Due.is("-1", Due.takes(".word -1", 4).word(0x1000), 0xffffffffL);
        Due.is("-0x1", Due.takes(".word -0x1", 4).word(0x1000), 0xffffffffL);
        Due.is("-0x80000000", Due.takes(".word -0x80000000", 4).word(0x1000), 0x80000000L);
        Due.fails(".word -0x80000001", RANGE, 6);
        Due.fails(".word -0xffffffff", RANGE, 6);
        Due.fails(".word --1", SYNTAX, 6);
        Due.fails(".word -", SYNTAX, 6);
        Due.fails(".word -,1", SYNTAX, 6);
        Due.fails(".word -a", SYNTAX, 6);
        Due.fails(".word +1", SYNTAX, 6);
    }

    private static void eachByteRightBehindANumber() {
        for (int b = 0; b < 256; b++) {
            String text = ".byte 1" + (char) b;
            if (isDigit(b) || b == 9 || b == 10 || b == 13 || b == 32 || b == '#') {
                Due.takes(text, 1);
            } else if (isLetter(b)) {
                Due.fails(text, SYNTAX, 6);
            } else {
                Due.fails(text, SYNTAX, b == ',' ? 8 : 7);
            }
        }
    }

    private static void eachByteRightBehindAHexNumber() {
        for (int b = 0; b < 256; b++) {
            String text = ".byte 0x1" + (char) b;
            boolean digit = isDigit(b) || isIn(b, "abcdefABCDEF");
            if (digit || b == 9 || b == 10 || b == 13 || b == 32 || b == '#') {
                Due.takes(text, 1);
            } else if (isLetter(b)) {
                Due.fails(text, SYNTAX, 6);
            } else {
                Due.fails(text, SYNTAX, b == ',' ? 10 : 9);
            }
        }
    }

    // "REGISTERS x0 .. x31, also zero ra sp gp tp t0 t1 t2 s0 s1 a0 .. a7 s2 .. s11 t3 .. t6"

    private static void eachNameOfARegister() {
        String[] names = {
            "zero", "ra", "sp", "gp", "tp", "t0", "t1", "t2", "s0", "s1", "a0", "a1", "a2", "a3", "a4", "a5", "a6", "a7",
            "s2", "s3", "s4", "s5", "s6", "s7", "s8", "s9", "s10", "s11", "t3", "t4", "t5", "t6",
        };
        for (int r = 0; r < 32; r++) {
            Due.is(names[r], Due.takes("mv x1, " + names[r], 4).word(0x1000), 0x93 | r << 15);
            Due.is("x" + r, Due.takes("mv x1, x" + r, 4).word(0x1000), 0x93 | r << 15);
        }
    }

    private static void namesBesideThoseOfRegisters() {
        String[] none = {
            "x32", "x99", "x100", "x00", "x01", "x031", "x", "x_", "x1.", "t7", "t00", "t", "s12", "s20", "s01", "s", "a8", "a10",
            "a00", "a", "zer", "zeroo", "r", "raa", "spp", "gp0", "tpp", "fp", "pc", "b0", "w0", "y0", "X0", "A0",
        };
        for (String name : none) {
            Due.fails("mv x1, " + name, SYNTAX, 7);
        }
    }

    // "CSR: its NUMBER (0 .. 4095), or its name in section 4"

    private static void eachNameOfACsr() {
        String[] names = {
            "sstatus", "sie", "stvec", "sscratch", "sepc", "scause", "stval", "sip", "satp", "cycle", "time", "cycleh",
            "timeh", "instret", "instreth",
        };
        int[] numbers = {
            0x100, 0x104, 0x105, 0x140, 0x141, 0x142, 0x143, 0x144, 0x180, 0xc00, 0xc01, 0xc80, 0xc81, 0xc02, 0xc82,
        };
        for (int i = 0; i < names.length; i++) {
            Due.is(names[i], Due.takes("csrrw x0, " + names[i] + ", x0", 4).word(0x1000), numbers[i] * 0x100000L + 0x1073);
        }
    }

    private static void namesBesideThoseOfCsrs() {
        String[] none = {"sstatu", "sstatuss", "si", "siee", "mstatus", "cyclehh", "x1", "sp", "instre", "csr", "Time"};
        for (String name : none) {
            Due.fails("csrrw x0, " + name + ", x0", SYNTAX, 10);
        }
    }

    private static void aCsrsNameStandsForACsrAlone() {
        Due.fails("mv x1, sie", SYNTAX, 7);
        Due.fails("addi x1, x2, time", SYNTAX, 13);
        Due.fails("csrrwi x1, sie, sip", SYNTAX, 16);
    }

    // "3 SYNTAX: a token that cannot stand there"

    private static void eachTokenOfAStatementMissing() {
        Due.fails("add", SYNTAX, 3);
        Due.fails("add x1", SYNTAX, 6);
        Due.fails("add x1,", SYNTAX, 7);
        Due.fails("add x1, x2", SYNTAX, 10);
        Due.fails("add x1, x2,", SYNTAX, 11);
        Due.fails("lw x1, 4", SYNTAX, 8);
        Due.fails("lw x1, 4(", SYNTAX, 9);
        Due.fails("lw x1, 4(x2", SYNTAX, 11);
        Due.fails("lw x1, (x2)", SYNTAX, 7);
        Due.fails("lr.w x1, x2", SYNTAX, 9);
        Due.fails("sc.w x1, x2", SYNTAX, 11);
        Due.fails("sc.w x1, x2, x3", SYNTAX, 13);
        Due.fails("j", SYNTAX, 1);
        Due.fails("li x1", SYNTAX, 5);
        Due.fails("mv x1", SYNTAX, 5);
        Due.fails("csrrw x1, sie", SYNTAX, 13);
        Due.fails("c.lwsp x1, 4", SYNTAX, 12);
        Due.fails("c.addi x1", SYNTAX, 9);
        Due.fails(".space", SYNTAX, 6);
        Due.fails(".align", SYNTAX, 6);
        Due.fails("sfence.vma x1", SYNTAX, 13);
    }

    private static void oneTokenTooMany() {
        Due.fails("add x1, x2, x3, x4", SYNTAX, 14);
        Due.fails("add x1, x2, x3 x4", SYNTAX, 15);
        Due.fails("lw x1, 4(x2))", SYNTAX, 12);
        Due.fails("ecall x1", SYNTAX, 6);
        Due.fails("nop 0", SYNTAX, 4);
        Due.fails("ret ra", SYNTAX, 4);
        Due.fails("c.nop 0", SYNTAX, 6);
        Due.fails(".space 1, 2", SYNTAX, 8);
        Due.fails(".align 1, 2", SYNTAX, 8);
        Due.fails("li x1, 2, 3", SYNTAX, 8);
        Due.fails(".word 1 2", SYNTAX, 8);
        Due.fails("j 4, 4", SYNTAX, 3);
    }

    private static void anotherKindOfToken() {
        Due.fails("add x1, x2, 3", SYNTAX, 12);
        Due.fails("add 1, x2, x3", SYNTAX, 4);
        Due.fails("addi x1, x2, x3", SYNTAX, 13);
        Due.fails("addi x1, x2, a", SYNTAX, 13);
        Due.fails("lw x1, a(x2)", SYNTAX, 7);
        Due.fails("lw x1, 4(4)", SYNTAX, 9);
        Due.fails("lw x1, 4)x2)", SYNTAX, 8);
        Due.fails("lw x1, 4(x2(", SYNTAX, 11);
        Due.fails("lw x1, 4,x2,", SYNTAX, 8);
        Due.fails("add x1( x2, x3", SYNTAX, 6);
        Due.fails("add x1: x2, x3", SYNTAX, 6);
        Due.fails("lui x1, a", SYNTAX, 8);
        Due.fails("jal 4, x1", SYNTAX, 4);
        Due.fails("j (", SYNTAX, 2);
        Due.fails("j ,", SYNTAX, 2);
        Due.fails("jalr x1, x2", SYNTAX, 9);
        Due.fails(".word a", SYNTAX, 6);
        Due.fails(".word x1", SYNTAX, 6);
        Due.fails("5", SYNTAX, 0);
        Due.fails(",", SYNTAX, 0);
        Due.fails("(", SYNTAX, 0);
        Due.fails(")", SYNTAX, 0);
        Due.fails("x1", SYNTAX, 0);
        Due.fails("sie", SYNTAX, 0);
    }

    private static void aNameThatIsNoStatement() {
        String[] none = {
            "foo", "ad", "addd", "add.", "amoadd", "lr", "fence.", "sfence", "c.lwspp", "c.nopp", "c", ".wor", ".words", "word",
            "beqz", "call", "la", "c.mul", "subi", "amoadd.d", "csrr", "_", ".",
        };
        for (String name : none) {
            Due.fails(name, SYNTAX, 0);
            Due.fails("nop\n  " + name + " x1", SYNTAX, 6);
        }
    }

    // "4 a LABEL that there is already, or the 33rd"

    private static String labels(int n) {
        StringBuilder text = new StringBuilder();
        for (int i = 0; i < n; i++) {
            text.append('l').append(i).append(":nop\n");
        }
        return text.toString();
    }

    private static String labelsInALine(int n) {
        return labels(n).replace("nop\n", "");
    }

    private static void aLabelThatThereIsAlready() {
        Due.fails("a: a:", LABEL, 3);
        Due.fails("a: nop\nb: nop\na: nop", LABEL, 14);
        Due.fails("a:\n a: bad", LABEL, 4);
        Due.fails("a: b: b:", LABEL, 6);
    }

    private static void the32ndLabelIsTaken() {
        Due.takes(labels(32), 128);
        Due.takes(labels(31) + "a: j a", 128);
        Due.takes(labelsInALine(32), 0);
        Due.takes(labelsInALine(32) + "nop", 4);
    }

    private static void the33rdLabelIsNot() {
        String most = labels(32);
        Due.fails(most + "a:", LABEL, most.length());
        Due.fails(most + "  a: nop", LABEL, most.length() + 2);
        Due.fails(most + "l5:", LABEL, most.length());
        Due.fails(most + "j a\na:", LABEL, most.length() + 4);
        String line = labelsInALine(32);
        Due.fails(line + "a:", LABEL, line.length());
        Due.fails(line + "l31:", LABEL, line.length());
        Due.fails(line + "nop:", LABEL, line.length());
        Due.fails(line + "a:b:c: nop", LABEL, line.length());
    }

    private static void aNameBehind32LabelsIsNotALabel() {
        String most = labels(32);
        Due.fails(most + "a", SYNTAX, most.length());
        Due.takes(most + "nop", 132);
    }

    private static void labelsAndSyntaxAreOfOneOrder() {
        Due.fails("a: bad\na:", SYNTAX, 3);
        Due.fails("a: a: bad", LABEL, 3);
        Due.fails("a: nop\na: nop\nbad", LABEL, 7);
        Due.fails("a: nop\nbad\na: nop", SYNTAX, 7);
    }

    // "Then, from the beginning, 5 RANGE: a NUMBER (but a TARGET's), register or CSR's NUMBER that may not be"

    private static void rangeIsBehindAllSyntaxAndLabels() {
        Due.fails("addi x1, x1, 2048\nbad", SYNTAX, 18);
        Due.fails("addi x1, x1, 2048\na: a:", LABEL, 21);
        Due.fails("addi x1, x1, 2048\nnop", RANGE, 13);
    }

    private static void rangeIsFromTheBeginning() {
        Due.fails("nop\nslli x1, x1, 32\nslli x1, x1, 33", RANGE, 17);
        Due.fails("c.lw x1, 1(x1)", RANGE, 5);
        Due.fails("c.lw x8, 1(x1)", RANGE, 9);
        Due.fails("c.lw x8, 0(x1)", RANGE, 11);
        Due.fails("csrrwi x1, 4096, 32", RANGE, 11);
        Due.fails("csrrwi x1, 4095, 32", RANGE, 17);
        Due.fails(".byte 1, 256, 257", RANGE, 9);
    }

    private static void aTargetsNumberIsNotOfThisPass() {
        Due.fails("j 1\naddi x1, x1, 2048", RANGE, 17);
        Due.fails("j 1\nj 3", RANGE, 2);
        Due.fails("c.beqz x8, 1\nc.lw x1, 0(x8)", RANGE, 18);
    }

    // "Then, from the beginning, 7 the first statement that does not fit into MEMORY any more (at its name)"

    private static void fits(int address, String text, int bytes) {
        TranslatingHost x = new TranslatingHost();
        Due.is("assemble(" + address + ") of '" + text + "'", Due.assemble(x, address, text), bytes);
        Due.is("place of '" + text + "'", x.place(), NONE);
    }

    private static void hasNoRoom(int address, String text, int place) {
        TranslatingHost x = new TranslatingHost();
        x.load(262128, -1, -1, -1, -1);
        Due.is("assemble(" + address + ") of '" + text + "'", Due.assemble(x, address, text), -NO_ROOM);
        Due.is("place of '" + text + "'", x.place(), place);
        for (int at = 262128; at < 262144; at += 4) {
            Due.is("word(" + at + ")", x.word(at), 0xffffffffL);
        }
        Due.is("word(0)", x.word(0), 0);
    }

    private static void theLastStatementThatFits() {
        fits(262140, "nop", 4);
        fits(262142, "c.nop", 2);
        fits(262140, "c.nop\nc.nop", 4);
        fits(262136, "li x1, 0x12345", 8);
        fits(262140, "li x1, 1", 4);
        fits(262140, ".word 1", 4);
        fits(262136, ".word 1, 2", 8);
        fits(262142, ".half 1", 2);
        fits(262142, ".byte 1, 2", 2);
        fits(262142, ".space 2", 2);
        fits(258048, ".space 4096", 4096);
        fits(262142, ".align 12", 2);
        fits(262142, ".byte 1\n.align 1", 2);
    }

    private static void theFirstStatementThatDoesNot() {
        hasNoRoom(262142, "nop", 0);
        hasNoRoom(262140, "nop\nc.nop", 4);
        hasNoRoom(262142, "c.nop\n  c.nop", 8);
        hasNoRoom(262138, "li x1, 0x12345", 0);
        hasNoRoom(262140, "li x1, 0x12345", 0);
        hasNoRoom(262142, "li x1, 1", 0);
        hasNoRoom(262142, ".word 1", 0);
        hasNoRoom(262138, ".word 1, 2", 0);
        hasNoRoom(262142, ".half 1, 2", 0);
        hasNoRoom(262142, ".byte 1, 2, 3", 0);
        hasNoRoom(262142, ".space 3", 0);
        hasNoRoom(258050, ".space 4096", 0);
        hasNoRoom(262140, "nop\nnop\nnop", 4);
    }

    private static void theFirstIsToldNotALaterOne() {
        hasNoRoom(262140, "nop\n a: .space 5\nnop", 8);
        hasNoRoom(262140, "nop\n.space 0\n.byte 1\n.byte 2", 13);
    }

    private static void whatHasNoBytesFitsAtTheEnd() {
        fits(262140, "nop\n.space 0", 4);
        fits(262140, "nop\n.align 12", 4);
        fits(262140, "nop\na:", 4);
        hasNoRoom(262140, "nop\n.space 1", 4);
    }

    private static void allOfMemoryFits() {
        TranslatingHost x = new TranslatingHost();
        x.load(262128, -1, -1, -1, -1);
        Due.is("64 times 4096", Due.assemble(x, 0, ".space 4096\n".repeat(64)), 262144);
        Due.is("word(262140)", x.word(262140), 0);
        Due.is("and one more", Due.assemble(x, 0, ".space 4096\n".repeat(64) + ".byte 1"), -NO_ROOM);
        Due.is("its place", x.place(), 768);
        Due.is("many more", Due.assemble(x, 0, ".space 4096\n".repeat(300)), -NO_ROOM);
        Due.is("their place", x.place(), 768);
    }

    private static void noRoomIsBehindRangeAndAheadOfTargets() {
        TranslatingHost x = new TranslatingHost();
        Due.is("RANGE behind it", Due.assemble(x, 262140, "nop\nnop\nslli x1, x1, 32"), -RANGE);
        Due.is("its place", x.place(), 21);
        Due.is("a TARGET before it", Due.assemble(x, 262140, "j nowhere\nnop"), -NO_ROOM);
        Due.is("its place", x.place(), 10);
        Due.is("a distance before it", Due.assemble(x, 262140, "j 1\nnop"), -NO_ROOM);
        Due.is("its place", x.place(), 4);
    }

    // "Then, from the beginning, TARGETS: 6 a LABEL that there is not, 5 a distance that may not be"

    private static void aLabelThatThereIsNot() {
        Due.fails("j a", NO_LABEL, 2);
        Due.fails("a: j aa", NO_LABEL, 5);
        Due.fails("aa: j a", NO_LABEL, 6);
        Due.fails("beq x1, x2, x3", NO_LABEL, 12);
        Due.fails("jal x1, sie", NO_LABEL, 8);
        Due.fails("c.j nop", NO_LABEL, 4);
        Due.fails("c.bnez x8, a\nb:", NO_LABEL, 11);
    }

    private static void targetsAreFromTheBeginning() {
        Due.fails("j a\nj 1", NO_LABEL, 2);
        Due.fails("j 1\nj a", RANGE, 2);
        Due.fails("a: nop\nj a\nj b\nj c", NO_LABEL, 13);
    }

    private static void aLabelBeforeAndBehind() {
        TranslatingHost x = Due.takes("a: j b\nb: j a\nc: j c", 12);
        Due.is("j b", x.word(0x1000), 0x0040006f);
        Due.is("j a", x.word(0x1004), 0xffdff06fL);
        Due.is("j c", x.word(0x1008), 0x0000006f);
    }

    private static void aBranchToALabelAtItsFarthest() {
        Due.takes("beq x0, x0, a\n.space 4090\na:", 4094);
        Due.fails("beq x0, x0, a\n.space 4092\na:", RANGE, 12);
        Due.takes("a: .space 4096\nbeq x0, x0, a", 4100);
        Due.fails("a: .space 4096\n.half 1\nbeq x0, x0, a", RANGE, 35);
    }

    private static void aShortJumpToALabelAtItsFarthest() {
        Due.takes("c.j a\n.space 2044\na:", 2046);
        Due.fails("c.j a\n.space 2046\na:", RANGE, 4);
        Due.takes("a: .space 2048\nc.jal a", 2050);
        Due.fails("a: .space 2050\nc.jal a", RANGE, 21);
    }

    private static void aShortBranchToALabelAtItsFarthest() {
        Due.takes("c.beqz x8, a\n.space 252\na:", 254);
        Due.fails("c.beqz x8, a\n.space 254\na:", RANGE, 11);
        Due.takes("a: .space 256\nc.bnez x8, a", 258);
        Due.fails("a: .space 258\nc.bnez x8, a", RANGE, 25);
    }

    private static void aJumpToALabelAcrossAllOfMemory() {
        TranslatingHost x = new TranslatingHost();
        String spaces = ".space 4096\n".repeat(63) + ".space 4088\n";
        Due.is("assemble", Due.assemble(x, 0, "a: j b\n" + spaces + "b: j a"), 262144);
        x.run(1);
        Due.is("j b", x.reg(32), 262140);
        x.run(1);
        Due.is("j a", x.reg(32), 0);
    }

    private static void anOddDistanceToALabel() {
        Due.fails("j a\n.byte 1\na:", RANGE, 2);
        Due.fails("c.j a\n.byte 1\na:", RANGE, 4);
        Due.fails("beq x0, x0, a\n.byte 1\na:", RANGE, 12);
        Due.takes(".byte 1\nj a\n.half 1\na:", 7);
    }

    // "With a fault MEMORY stays as it is"

    private static void memoryStaysWithEachFault() {
        Due.fails(".word 1, 2\nbad", SYNTAX, 11);
        Due.fails("a: .word 1, 2\na:", LABEL, 14);
        Due.fails(".word 1, 2\n.byte 256", RANGE, 17);
        Due.fails(".word 1, 2\nj a", NO_LABEL, 13);
        Due.fails(".word 1, 2\nj 1", RANGE, 13);
        hasNoRoom(262136, ".word 1\n.word 2\n.word 3", 16);
    }

    private static void bytesBehindTheTextStay() {
        TranslatingHost x = new TranslatingHost();
        x.load(0x100, -1, -1, -1, -1);
        Due.is("assemble", Due.assemble(x, 0x102, ".byte 1, 2, 3"), 3);
        Due.is("word(100)", x.word(0x100), 0x0201ffff);
        Due.is("word(104)", x.word(0x104), 0xffffff03L);
        Due.is("word(108)", x.word(0x108), 0xffffffffL);
    }
}
