import java.util.ArrayList;
import java.util.HashMap;
import java.util.LinkedHashMap;
import java.util.List;
import java.util.Map;
import java.util.regex.Matcher;
import java.util.regex.Pattern;

/**
 * Section 6 a second time, written from the document apart from the class: a text comes to bytes, labels or a FAULT.
 * It shares no table with the class; the bits of short immediates are copied from section 2 as they stand there.
 */
final class PlainText {
    /** What a statement may have: R and its limits, N, C, T, or a sign that must stand there. */
    record Operand(char kind, long least, long greatest, int step, long[] not) {
        boolean takes(long v) {
            for (long n : not) {
                if (v == n) {
                    return false;
                }
            }
            return v >= least && v <= greatest && v % step == 0 && !(least == 1 && greatest == 1048575 && v > 31
                && v < 1048544);
        }
    }

    private record Token(char kind, int place, String text, long value) {
    }

    private record Statement(String name, int place, List<Operand> shape, List<Token> operands) {
    }

    private static final class Fault extends RuntimeException {
        private static final long serialVersionUID = 1;
        private final int what;
        private final int place;

        Fault(int what, int place) {
            this.what = what;
            this.place = place;
        }
    }

    private static final Pattern NAME = Pattern.compile("[A-Za-z_.][A-Za-z_.0-9]*");
    private static final Pattern NUMBER =
        Pattern.compile("(-?)(?:0x([0-9a-fA-F]{1,8})|([0-9]{1,10}))(?![A-Za-z_.0-9])");
    private static final Pattern RUN = Pattern.compile(".[A-Za-z_.0-9]*", Pattern.DOTALL);

    static final Map<String, Integer> REGISTERS = new LinkedHashMap<>();
    static final Map<String, Integer> CSRS = new LinkedHashMap<>();
    static final Map<String, List<Operand>> SHAPES = new LinkedHashMap<>();
    private static final Map<String, Integer> CODES = new HashMap<>();

    static {
        String also = "zero ra sp gp tp t0 t1 t2 s0 s1 a0 a1 a2 a3 a4 a5 a6 a7 s2 s3 s4 s5 s6 s7 s8 s9 s10 s11"
            + " t3 t4 t5 t6";
        int n = 0;
        for (String name : also.split(" ")) {
            REGISTERS.put("x" + n, n);
            REGISTERS.put(name, n);
            n++;
        }
        String csrs = "sstatus 100 sie 104 stvec 105 sscratch 140 sepc 141 scause 142 stval 143 sip 144 satp 180"
            + " cycle c00 time c01 cycleh c80 timeh c81 instret c02 instreth c82";
        String[] pairs = csrs.split(" ");
        for (int i = 0; i < pairs.length; i += 2) {
            CSRS.put(pairs[i], Integer.parseInt(pairs[i + 1], 16));
        }
        longOnes();
        shortOnes();
        ownOnes();
    }

    final byte[] bytes = new byte[262144];
    /** How many bytes, or less the FAULT. */
    final int answer;
    final int place;
    final List<Integer> labelAddresses = new ArrayList<>();

    private final String text;
    private final int start;
    private final List<Token> tokens = new ArrayList<>();
    private int at = 0;
    private final Map<String, Integer> labels = new LinkedHashMap<>();
    private final List<Statement> statements = new ArrayList<>();
    private final List<Integer> addresses = new ArrayList<>();

    PlainText(String text, int start) {
        this.text = text;
        this.start = start;
        int told;
        int where = -1;
        try {
            told = assembled();
        } catch (Fault f) {
            told = -f.what;
            where = f.place;
        }
        answer = told;
        place = where;
    }

    private static void shape(String name, String operands, int code) {
        List<Operand> list = new ArrayList<>();
        for (String piece : operands.isEmpty() ? new String[0] : operands.split(" ")) {
            list.add(operand(piece));
        }
        SHAPES.put(name, list);
        CODES.put(name, code);
    }

    /** r any, p r', z not x0, u not x2, s sp; n:least:greatest:step, with !0 not 0; t:least:greatest; c; or a sign. */
    private static Operand operand(String piece) {
        String[] parts = piece.split(":");
        switch (parts[0]) {
            case "r": return new Operand('R', 0, 31, 1, new long[0]);
            case "p": return new Operand('R', 8, 15, 1, new long[0]);
            case "z": return new Operand('R', 1, 31, 1, new long[0]);
            case "u": return new Operand('R', 0, 31, 1, new long[] {2});
            case "s": return new Operand('R', 2, 2, 1, new long[0]);
            case "c": return new Operand('C', 0, 4095, 1, new long[0]);
            case "n": return new Operand('N', Long.parseLong(parts[1]), Long.parseLong(parts[2]),
                parts.length > 3 ? Integer.parseInt(parts[3]) : 1, parts.length > 4 ? new long[] {0} : new long[0]);
            case "t": return new Operand('T', Long.parseLong(parts[1]), Long.parseLong(parts[2]), 2, new long[0]);
            default: return new Operand(piece.charAt(0), 0, 0, 1, new long[0]);
        }
    }

    private static void all(String operands, String namesAndCodes) {
        String[] pairs = namesAndCodes.split(" ");
        for (int i = 0; i < pairs.length; i += 2) {
            shape(pairs[i], operands, Integer.parseUnsignedInt(pairs[i + 1], 16));
        }
    }

    private static void longOnes() {
        all("r , r , r", "add 33 sll 1033 slt 2033 sltu 3033 xor 4033 srl 5033 or 6033 and 7033 sub 40000033"
            + " sra 40005033 mul 2000033 mulh 2001033 mulhsu 2002033 mulhu 2003033 div 2004033 divu 2005033"
            + " rem 2006033 remu 2007033");
        all("r , r , n:-2048:2047", "addi 13 slti 2013 sltiu 3013 xori 4013 ori 6013 andi 7013");
        all("r , r , n:0:31", "slli 1013 srli 5013 srai 40005013");
        all("r , n:-2048:2047 ( r )", "lb 3 lh 1003 lw 2003 lbu 4003 lhu 5003 jalr 67 sb 23 sh 1023 sw 2023");
        all("r , n:0:1048575", "lui 37 auipc 17");
        all("r , t:-1048576:1048574", "jal 6f");
        all("r , r , t:-4096:4094", "beq 63 bne 1063 blt 4063 bge 5063 bltu 6063 bgeu 7063");
        all("r , ( r )", "lr.w 1000202f");
        all("r , r , ( r )", "sc.w 1800202f amoswap.w 800202f amoadd.w 202f amoxor.w 2000202f amoand.w 6000202f"
            + " amoor.w 4000202f amomin.w 8000202f amomax.w a000202f amominu.w c000202f amomaxu.w e000202f");
        all("", "fence f fence.i 100f ecall 73 ebreak 100073 sret 10200073 wfi 10500073");
        all("r , r", "sfence.vma 12000073");
        all("r , c , r", "csrrw 1073 csrrs 2073 csrrc 3073");
        all("r , c , n:0:31", "csrrwi 5073 csrrsi 6073 csrrci 7073");
    }

    private static void shortOnes() {
        all("p , n:4:1020:4", "c.addi4spn 0");
        all("p , n:0:124:4 ( p )", "c.lw 4000 c.sw c000");
        all("", "c.nop 1 c.ebreak 9002");
        all("r , n:-32:31", "c.addi 1 c.li 4001");
        all("t:-2048:2046", "c.jal 2001 c.j a001");
        all("n:-512:496:16:!0", "c.addi16sp 6101");
        all("u , n:1:1048575", "c.lui 6001");
        all("p , n:0:31", "c.srli 8001 c.srai 8401");
        all("p , n:-32:31", "c.andi 8801");
        all("p , p", "c.sub 8c01 c.xor 8c21 c.or 8c41 c.and 8c61");
        all("p , t:-256:254", "c.beqz c001 c.bnez e001");
        all("r , n:0:31", "c.slli 2");
        all("z , n:0:252:4 ( s )", "c.lwsp 4002");
        all("r , n:0:252:4 ( s )", "c.swsp c002");
        all("z", "c.jr 8002 c.jalr 9002");
        all("r , z", "c.mv 8002 c.add 9002");
    }

    private static void ownOnes() {
        all("", "nop 13 ret 8067");
        all("r , r", "mv 13");
        all("t:-1048576:1048574", "j 6f");
        all("r , n:-2147483648:4294967295", "li 0");
        all("n:-2147483648:4294967295", ".word 4");
        all("n:-32768:65535", ".half 2");
        all("n:-128:255", ".byte 1");
        all("n:0:4096", ".space 0");
        all("n:0:12", ".align 0");
    }

    private int assembled() {
        split();
        while (at < tokens.size()) {
            line();
        }
        for (Statement s : statements) {
            ranges(s);
        }
        int address = start;
        for (Statement s : statements) {
            addresses.add(address);
            address += size(s, address);
            if (address > 262144) {
                throw new Fault(7, s.place);
            }
        }
        addresses.add(address);
        List<long[]> values = new ArrayList<>();
        for (int i = 0; i < statements.size(); i++) {
            values.add(values(statements.get(i), addresses.get(i)));
        }
        for (int i = 0; i < statements.size(); i++) {
            write(statements.get(i).name, values.get(i), addresses.get(i), addresses.get(i + 1));
        }
        for (int s : labels.values()) {
            labelAddresses.add(addresses.get(s));
        }
        return address - start;
    }

    private void split() {
        int i = 0;
        while (i < text.length()) {
            char c = text.charAt(i);
            if (c == '#') {
                i = text.indexOf('\n', i) < 0 ? text.length() : text.indexOf('\n', i);
            } else if (c == 9 || c == 13 || c == 32) {
                i++;
            } else if (",():\n".indexOf(c) >= 0) {
                tokens.add(new Token(c, i, "", 0));
                i++;
            } else {
                i = nameOrNumber(i);
            }
        }
        tokens.add(new Token('\n', text.length(), "", 0));
    }

    private int nameOrNumber(int i) {
        Matcher name = NAME.matcher(text).region(i, text.length());
        if (name.lookingAt()) {
            tokens.add(new Token(name.group().length() <= 20 ? 'a' : '?', i, name.group(), 0));
            return name.end();
        }
        Matcher number = NUMBER.matcher(text).region(i, text.length());
        if (number.lookingAt()) {
            long v = number.group(2) != null ? Long.parseLong(number.group(2), 16) : Long.parseLong(number.group(3));
            if (v <= 4294967295L) {
                tokens.add(new Token('0', i, "", number.group(1).isEmpty() ? v : -v));
                return number.end();
            }
        }
        tokens.add(new Token('?', i, "", 0));
        Matcher run = RUN.matcher(text).region(i, text.length());
        return run.lookingAt() ? run.end() : i + 1;
    }

    private Token token() {
        return tokens.get(Math.min(at, tokens.size() - 1));
    }

    private Token take(boolean stands) {
        Token t = token();
        if (!stands) {
            throw new Fault(3, t.place);
        }
        at++;
        return t;
    }

    private void line() {
        while (token().kind == 'a' && tokens.get(at + 1).kind == ':') {
            if (labels.containsKey(token().text) || labels.size() == 32) {
                throw new Fault(4, token().place);
            }
            labels.put(token().text, statements.size());
            at += 2;
        }
        if (token().kind != '\n') {
            statement();
        }
        take(token().kind == '\n');
    }

    private void statement() {
        Token name = take(token().kind == 'a' && SHAPES.containsKey(token().text));
        List<Operand> shape = new ArrayList<>();
        List<Token> operands = new ArrayList<>();
        for (Operand o : SHAPES.get(name.text)) {
            operand(o, shape, operands);
        }
        while (isList(name.text) && token().kind == ',') {
            at++;
            operand(SHAPES.get(name.text).get(0), shape, operands);
        }
        statements.add(new Statement(name.text, name.place, shape, operands));
    }

    private static boolean isList(String name) {
        return name.equals(".word") || name.equals(".half") || name.equals(".byte");
    }

    private void operand(Operand o, List<Operand> shape, List<Token> operands) {
        Token t = token();
        boolean name = t.kind == 'a';
        boolean number = t.kind == '0';
        switch (o.kind) {
            case 'R':
                take(name && REGISTERS.containsKey(t.text));
                break;
            case 'N':
                take(number);
                break;
            case 'C':
                take(number || (name && CSRS.containsKey(t.text)));
                break;
            case 'T':
                take(number || name);
                break;
            default:
                take(t.kind == o.kind);
                return;
        }
        shape.add(o);
        operands.add(t);
    }

    private static long plain(Operand o, Token t) {
        if (t.kind == '0') {
            return t.value;
        }
        return o.kind == 'R' ? REGISTERS.get(t.text) : CSRS.get(t.text);
    }

    private static void ranges(Statement s) {
        for (int i = 0; i < s.operands.size(); i++) {
            Operand o = s.shape.get(i);
            Token t = s.operands.get(i);
            if (o.kind != 'T' && !o.takes(plain(o, t))) {
                throw new Fault(5, t.place);
            }
        }
    }

    private static int size(Statement s, int address) {
        int last = s.operands.isEmpty() ? 0 : (int) s.operands.get(s.operands.size() - 1).value;
        switch (s.name) {
            case "li": return last >= -2048 && last <= 2047 || last % 4096 == 0 ? 4 : 8;
            case ".word": return 4 * s.operands.size();
            case ".half": return 2 * s.operands.size();
            case ".byte": return s.operands.size();
            case ".space": return last;
            case ".align": return Math.floorMod(-address, 1 << last);
            default: return s.name.startsWith("c.") ? 2 : 4;
        }
    }

    private long[] values(Statement s, int address) {
        long[] values = new long[s.operands.size()];
        for (int i = 0; i < values.length; i++) {
            Operand o = s.shape.get(i);
            Token t = s.operands.get(i);
            if (o.kind == 'T' && t.kind == 'a') {
                if (!labels.containsKey(t.text)) {
                    throw new Fault(6, t.place);
                }
                values[i] = addresses.get(labels.get(t.text)) - address;
            } else {
                values[i] = plain(o, t);
            }
            if (o.kind == 'T' && !o.takes(values[i])) {
                throw new Fault(5, t.place);
            }
        }
        return values;
    }

    private void put(int address, long v, int count) {
        for (int i = 0; i < count; i++) {
            bytes[address + i] = (byte) (v >> 8 * i);
        }
    }

    private void write(String name, long[] v, int address, int behind) {
        if (isList(name)) {
            int each = CODES.get(name);
            for (int i = 0; i < v.length; i++) {
                put(address + each * i, v[i], each);
            }
        } else if (name.equals("li")) {
            writeNumber((int) v[0], (int) v[1], address, behind);
        } else if (name.startsWith("c.")) {
            put(address, CODES.get(name) | shortBits(name, v), 2);
        } else if (name.startsWith(".a") || name.startsWith(".s")) {
            put(address, 0, behind - address);
        } else {
            put(address, CODES.get(name) | longBits(name, v), 4);
        }
    }

    private void writeNumber(int rd, int v, int address, int behind) {
        int low = v << 20 >> 20;
        boolean alone = v >= -2048 && v <= 2047;
        if (!alone) {
            put(address, (v - low) | rd << 7 | 0x37, 4);
        }
        if (alone || low != 0) {
            put(behind - 4, (long) low << 20 | (alone ? 0 : rd << 15) | rd << 7 | 0x13, 4);
        }
    }

    private static long longBits(String name, long[] v) {
        int code = CODES.get(name);
        switch (code & 0x7f) {
            case 0x33: return v[0] << 7 | v[1] << 15 | v[2] << 20;
            case 0x13: return v.length == 0 ? 0 : v[0] << 7 | v[1] << 15 | (v.length < 3 ? 0 : (v[2] & 0xfff) << 20);
            case 0x03: return v[0] << 7 | (v[1] & 0xfff) << 20 | v[2] << 15;
            case 0x67: return v.length == 0 ? 0 : v[0] << 7 | (v[1] & 0xfff) << 20 | v[2] << 15;
            case 0x23: return v[0] << 20 | v[2] << 15 | spread(v[1], "31..25:11..5 11..7:4..0");
            case 0x37:
            case 0x17: return v[0] << 7 | v[1] << 12;
            case 0x6f: return (v.length < 2 ? 0 : v[0] << 7)
                | spread(v[v.length - 1], "31:20 30..21:10..1 20:11 19..12:19..12");
            case 0x63: return v[0] << 15 | v[1] << 20 | spread(v[2], "31:12 30..25:10..5 11..8:4..1 7:11");
            case 0x2f: return v.length < 3 ? v[0] << 7 | v[1] << 15 : v[0] << 7 | v[1] << 20 | v[2] << 15;
            case 0x73: return v.length == 0 ? 0 : v.length == 2 ? v[0] << 15 | v[1] << 20
                : v[0] << 7 | v[1] << 20 | v[2] << 15;
            default: return 0;
        }
    }

    private static long shortBits(String name, long[] v) {
        String six = "12:5 6..2:4..0";
        String jump = "12:11 11:4 10..9:9,8 8:10 7:6 6:7 5..3:3..1 2:5";
        String branch = "12:8 11..10:4,3 6..5:7,6 4..3:2,1 2:5";
        switch (name) {
            case "c.addi4spn": return v[0] - 8 << 2 | spread(v[1], "12..11:5,4 10..7:9..6 6:2 5:3");
            case "c.lw":
            case "c.sw": return v[0] - 8 << 2 | v[2] - 8 << 7 | spread(v[1], "12..10:5..3 6:2 5:6");
            case "c.addi":
            case "c.li": return v[0] << 7 | spread(v[1], six);
            case "c.jal":
            case "c.j": return spread(v[0], jump);
            case "c.addi16sp": return spread(v[0], "12:9 6:4 5:6 4..3:8,7 2:5");
            case "c.lui": return v[0] << 7 | spread(v[1] << 12, "12:17 6..2:16..12");
            case "c.srli":
            case "c.srai": return v[0] - 8 << 7 | v[1] << 2;
            case "c.andi": return v[0] - 8 << 7 | spread(v[1], six);
            case "c.sub":
            case "c.xor":
            case "c.or":
            case "c.and": return v[0] - 8 << 7 | v[1] - 8 << 2;
            case "c.beqz":
            case "c.bnez": return v[0] - 8 << 7 | spread(v[1], branch);
            case "c.lwsp": return v[0] << 7 | spread(v[1], "12:5 6..4:4..2 3..2:7,6");
            case "c.swsp": return v[0] << 2 | spread(v[1], "12..9:5..2 8..7:7,6");
            case "c.jr":
            case "c.jalr": return v[0] << 7;
            case "c.slli":
            case "c.mv":
            case "c.add": return v[0] << 7 | v[1] << 2;
            default: return 0;
        }
    }

    /** 12:5 says that bit 12 is the immediate's bit 5. */
    private static long spread(long v, String places) {
        long bits = 0;
        for (String pair : places.split(" ")) {
            List<Integer> to = row(pair.split(":")[0]);
            List<Integer> from = row(pair.split(":")[1]);
            for (int i = 0; i < to.size(); i++) {
                bits |= (v >> from.get(i) & 1) << to.get(i);
            }
        }
        return bits;
    }

    private static List<Integer> row(String places) {
        List<Integer> list = new ArrayList<>();
        for (String piece : places.split(",")) {
            String[] ends = piece.split("\\.\\.");
            int last = Integer.parseInt(ends[ends.length - 1]);
            for (int i = Integer.parseInt(ends[0]); i >= last; i--) {
                list.add(i);
            }
        }
        return list;
    }
}
