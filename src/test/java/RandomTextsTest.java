import java.util.ArrayList;
import java.util.List;
import java.util.Random;

/** Section 6 (promises 13 to 17) by made-up texts, good and bad ones, each beside PlainText. */
public final class RandomTextsTest {
    private static final int TEXTS = 6000;
    private static final int[] STARTS = {0, 0, 2, 4, 0x100, 0x1002, 0x3f000, 0x3ff00, 0x3fff0, 0x3fffe};
    private static final String[] LABELS = {
        "a", "b", "loop", "x1", "add", ".word", "sie", "L_1", "_", ".", "end", "Foo", "foo", "aaaaaaaaaaaaaaaaaaaa",
    };
    private static final long[] NUMBERS = {
        0, 1, 2, 4, 8, 16, 31, 32, -1, -2, -32, -33, 124, 128, 252, 256, -256, -258, 254, 496, 512, -512, 1020, 1024,
        2046, 2047, 2048, -2048, -2049, 4094, 4095, 4096, -4096, -4098, 65535, 65536, -32768, -32769, 255, -128, -129,
        1048543, 1048544, 1048574, 1048575, 1048576, -1048576, -1048578, 12, 13, 2147483647, -2147483648L,
        -2147483649L, 4294967295L, 4294967296L,
    };
    private static final String[] STRANGE = {
        ",", "(", ")", ":", "", "?", "x32", "0x", "-", "12a", "00012345678", "0x123456789", "0x12345678", "-0", "0X1",
        "SIE", "ADD", "fp", "x01", "aaaaaaaaaaaaaaaaaaaaa", "\n", "#", "\u00ff", "\u0000",
    };
    private static final String SIGNS = " \n,():#-0129abxz_.A\t\r\u000b\u0080";

    private final Random random;
    private final double range;
    private final double strange;

    private RandomTextsTest(long seed) {
        random = new Random(seed);
        range = seed % 2 == 0 ? 0.05 : 0;
        strange = seed % 3 == 0 ? 0.02 : 0;
    }

    public static void main(String[] args) {
        int[] seen = new int[8];
        for (int seed = 0; seed < TEXTS; seed++) {
            RandomTextsTest made = new RandomTextsTest(seed);
            int start = STARTS[made.random.nextInt(STARTS.length)];
            String text = made.text();
            PlainText due = new PlainText(text, start);
            seen[due.answer < 0 ? -due.answer : 0]++;
            compare(text, start, due);
        }
        for (int what : new int[] {0, 3, 4, 5, 6, 7}) {
            Due.yes("texts that end with " + -what + " were made", seen[what] > TEXTS / 100);
        }
        Due.done();
    }

    private static void compare(String text, int start, PlainText due) {
        TranslatingHost x = new TranslatingHost();
        boolean same = Due.assemble(x, start, text) == due.answer && x.place() == due.place;
        for (int k = 0; k < due.labelAddresses.size(); k++) {
            same &= x.label(k) == due.labelAddresses.get(k);
        }
        same &= x.label(due.labelAddresses.size()) == TranslatingHost.NONE;
        int last = start + Math.max(due.answer, 0);
        for (int address = start & ~3; address < last + 4 && address < 262144 && address < start + 800; address += 4) {
            same &= x.word(address) == word(due.bytes, address);
        }
        Due.yes("assemble(" + start + "), due " + due.answer + " and place " + due.place + ", of\n" + text, same);
    }

    private static long word(byte[] bytes, int at) {
        return bytes[at] & 0xffL | (bytes[at + 1] & 0xffL) << 8 | (bytes[at + 2] & 0xffL) << 16
            | (bytes[at + 3] & 0xffL) << 24;
    }

    private boolean chance(double p) {
        return random.nextDouble() < p;
    }

    private <T> T any(List<T> list) {
        return list.get(random.nextInt(list.size()));
    }

    private String any(String[] list) {
        return list[random.nextInt(list.length)];
    }

    private String blank() {
        return any(new String[] {"", " ", " ", "  ", "\t", "\r"});
    }

    private String text() {
        StringBuilder text = new StringBuilder();
        List<String> used = new ArrayList<>();
        int[] lengths = {1, 2, 5, 10, 30};
        for (int lines = lengths[random.nextInt(lengths.length)]; lines > 0; lines--) {
            for (int i = random.nextInt(6); i > 3; i--) {
                text.append(label(used));
            }
            if (chance(0.9)) {
                text.append(blank()).append(statement(used));
            }
            if (chance(0.1)) {
                text.append(blank()).append(any(new String[] {"# a", "#x:", "##", "#,("}));
            }
            text.append(lines > 1 || chance(0.5) ? "\n" : "");
        }
        if (chance(strange * 10)) {
            spoil(text);
        }
        return text.substring(0, Math.min(text.length(), 4000));
    }

    private String label(List<String> used) {
        String name = chance(0.5) ? any(LABELS) : "l" + random.nextInt(40);
        if (used.contains(name) && chance(0.95)) {
            return "";
        }
        used.add(name);
        return blank() + name + blank() + ":" + blank();
    }

    private String statement(List<String> used) {
        String name = any(new ArrayList<>(PlainText.SHAPES.keySet()));
        List<PlainText.Operand> shape = PlainText.SHAPES.get(name);
        List<String> pieces = new ArrayList<>();
        for (PlainText.Operand o : shape) {
            pieces.add(piece(o, used));
        }
        boolean list = name.equals(".word") || name.equals(".half") || name.equals(".byte");
        for (int i = list ? random.nextInt(6) : 0; i > 0; i--) {
            pieces.add(",");
            pieces.add(piece(shape.get(0), used));
        }
        if (!pieces.isEmpty() && chance(strange)) {
            pieces.set(random.nextInt(pieces.size()), chance(0.5) ? any(STRANGE) : number(anyNumber()));
        }
        if (!pieces.isEmpty() && chance(strange / 2)) {
            pieces.remove(random.nextInt(pieces.size()));
        }
        StringBuilder text = new StringBuilder(name).append(' ');
        for (String piece : pieces) {
            text.append(blank()).append(piece);
        }
        return text.toString();
    }

    private String piece(PlainText.Operand o, List<String> used) {
        boolean free = chance(range);
        for (int turn = 0; turn < 100; turn++) {
            if (o.kind() == 'R') {
                String name = any(new ArrayList<>(PlainText.REGISTERS.keySet()));
                if (free || o.takes(PlainText.REGISTERS.get(name))) {
                    return name;
                }
            } else if (o.kind() == 'C' && chance(0.5)) {
                return any(new ArrayList<>(PlainText.CSRS.keySet()));
            } else if (o.kind() == 'T' && chance(0.5)) {
                return used.isEmpty() || chance(0.05) ? any(LABELS) : any(used);
            } else if ("NCT".indexOf(o.kind()) >= 0) {
                long v = anyNumber();
                if (free || o.takes(v)) {
                    return number(v);
                }
            } else {
                return String.valueOf(o.kind());
            }
        }
        return "4";
    }

    private long anyNumber() {
        switch (random.nextInt(4)) {
            case 0: return random.nextInt(161) * 4 - 320;
            case 1: return random.nextInt(81) - 40;
            case 2: return random.nextLong(-(1L << 31), 1L << 32);
            default: return NUMBERS[random.nextInt(NUMBERS.length)];
        }
    }

    private String number(long v) {
        String digits = chance(0.7) ? Long.toString(Math.abs(v)) : "0x" + Long.toHexString(Math.abs(v));
        return (v < 0 ? "-" : "") + (digits.startsWith("0x") && chance(0.5) ? "0x" + digits.substring(2).toUpperCase()
            : digits);
    }

    private void spoil(StringBuilder text) {
        for (int i = 1 + random.nextInt(3); i > 0 && text.length() > 0; i--) {
            int at = random.nextInt(text.length());
            char sign = SIGNS.charAt(random.nextInt(SIGNS.length()));
            switch (random.nextInt(3)) {
                case 0:
                    text.setCharAt(at, sign);
                    break;
                case 1:
                    text.deleteCharAt(at);
                    break;
                default:
                    text.insert(at, sign);
                    break;
            }
        }
    }
}
