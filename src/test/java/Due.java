import java.nio.charset.StandardCharsets;

/** What the tests share: counting answers that are not as due, and texts for THE TAPE. */
final class Due {
    private static int asked = 0;
    private static int wrong = 0;

    private Due() {
    }

    static void is(String call, long got, long want) {
        asked++;
        if (got != want) {
            wrong++;
            System.out.println(call + " answered " + got + ", due is " + want);
        }
    }

    static void is(String call, String got, String want) {
        asked++;
        if (!got.equals(want)) {
            wrong++;
            System.out.println(call + " answered '" + got + "', due is '" + want + "'");
        }
    }

    static void yes(String call, boolean got) {
        is(call, got ? 1 : 0, 1);
    }

    static int asked() {
        return asked;
    }

    static int wrong() {
        return wrong;
    }

    static void done() {
        System.out.println(asked + " answers, " + wrong + " not as due");
        if (wrong != 0 || asked == 0) {
            System.exit(1);
        }
    }

    /** Brings a text to THE TAPE by feed() and end(). */
    static void feed(TranslatingHost x, String text) {
        byte[] bytes = text.getBytes(StandardCharsets.ISO_8859_1);
        for (int from = 0; from < bytes.length; from += 20) {
            int[] words = new int[5];
            for (int i = 0; i < 20; i++) {
                int b = from + i < bytes.length ? bytes[from + i] & 0xff : '?';
                words[i / 4] |= b << 24 - 8 * (i % 4);
            }
            x.feed(words[0], words[1], words[2], words[3], words[4]);
            if (bytes.length - from < 20) {
                x.end(bytes.length - from);
            }
        }
    }

    static int assemble(TranslatingHost x, int address, String text) {
        feed(x, text);
        return x.assemble(address);
    }

    /** A new machine with this program from address 0 on. */
    static TranslatingHost with(String program) {
        TranslatingHost x = new TranslatingHost();
        int answer = assemble(x, 0, program);
        if (answer < 0) {
            is("assemble of '" + program + "' at place " + x.place(), answer, 0);
        }
        return x;
    }

    /** A new machine with this program, after so many steps. */
    static TranslatingHost after(int steps, String program) {
        TranslatingHost x = with(program);
        x.run(steps);
        return x;
    }

    static String told(TranslatingHost x) {
        StringBuilder text = new StringBuilder();
        for (int i = 0; x.told(i) != TranslatingHost.NONE; i++) {
            text.append((char) x.told(i));
        }
        return text.toString();
    }

    static String tell(TranslatingHost x, int address) {
        int bytes = x.tell(address);
        return bytes == TranslatingHost.NONE ? "NONE" : bytes + " " + told(x);
    }

    /** A text that is assembled at 1000 (of base 16) as so many bytes, without a FAULT. */
    static TranslatingHost takes(String text, int bytes) {
        TranslatingHost x = new TranslatingHost();
        is("assemble of '" + text + "'", assemble(x, 0x1000, text), bytes);
        is("place of '" + text + "'", x.place(), TranslatingHost.NONE);
        return x;
    }

    /** A text with a FAULT at a place; MEMORY stays as it is, and THE TAPE is empty. */
    static void fails(String text, int fault, int place) {
        TranslatingHost x = new TranslatingHost();
        x.load(0x1000, -1, -1, -1, -1);
        is("assemble of '" + text + "'", assemble(x, 0x1000, text), -fault);
        is("place of '" + text + "'", x.place(), place);
        is("MEMORY behind '" + text + "'", x.word(0x1000), 0xffffffffL);
        is("MEMORY's next word behind '" + text + "'", x.word(0x1004), 0xffffffffL);
        is("THE TAPE behind '" + text + "'", x.end(20), TranslatingHost.NONE);
    }
}
