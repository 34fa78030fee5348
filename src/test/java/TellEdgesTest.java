/** The edges of promises 18 and 19: what tell() tells, by the bits alone, and what told() gives. */
public final class TellEdgesTest {
    private static final int NONE = TranslatingHost.NONE;

    public static void main(String[] args) {
        Edges.run(TellEdgesTest.class);
    }

    private static void tells(int bits, String text) {
        TranslatingHost x = new TranslatingHost();
        x.load(0x100, bits, 0, 0, 0);
        int bytes = (bits & 3) == 3 ? 4 : 2;
        Due.is("tell of " + Integer.toHexString(bits), Due.tell(x, 0x100), bytes + " " + text);
    }

    private static void tellsAsWord(int bits) {
        tells(bits, ".word 0x" + String.format("%08x", bits));
    }

    private static void tellsAsHalf(int bits) {
        tells(bits, ".half 0x" + String.format("%04x", bits));
    }

    // "NONE: odd, or not all in MEMORY"

    private static void tellTakesAddress0AndTheLastHalf() {
        TranslatingHost x = new TranslatingHost();
        x.load(0, 1, 0, 0, 0);
        x.load(262128, 0, 0, 0, 0x00010000);
        Due.is("tell(0)", x.tell(0), 2);
        Due.is("tell(262142)", x.tell(262142), 2);
        Due.is("its text", Due.told(x), "c.nop");
    }

    private static void tellTakesTheLastWord() {
        TranslatingHost x = new TranslatingHost();
        x.load(262128, 0, 0, 0, 0x13);
        Due.is("tell(262140)", x.tell(262140), 4);
        Due.is("its text", Due.told(x), "addi x0, x0, 0");
    }

    private static void tellRefusesOneOf32BitsInTheLastHalf() {
        TranslatingHost x = new TranslatingHost();
        x.load(262128, 0, 0, 0, 0xffff0000);
        Due.is("tell(262142)", x.tell(262142), NONE);
        Due.is("told(0)", x.told(0), NONE);
    }

    private static void tellRefusesOddAddresses() {
        int[] odd = {1, 3, 262141, 262143, -1, Integer.MAX_VALUE};
        for (int address : odd) {
            Due.is("tell(" + address + ")", new TranslatingHost().tell(address), NONE);
        }
    }

    private static void tellRefusesAddressesOutOfMemory() {
        int[] outside = {262144, 262146, -2, -4, Integer.MIN_VALUE, 0x10000000, 0x7ffffffe};
        for (int address : outside) {
            Due.is("tell(" + address + ")", new TranslatingHost().tell(address), NONE);
        }
    }

    private static void tellReadsAcrossTwoWords() {
        TranslatingHost x = new TranslatingHost();
        x.load(0x100, 0x00930000, 0x00000090, 0, 0);
        Due.is("tell(102)", Due.tell(x, 0x102), "4 addi x1, x0, 9");
    }

    private static void tellIsOfPhysicalAddresses() {
        TranslatingHost x = Due.with("csrrw x0, satp, x1\necall");
        x.set(1, 0x80000010);
        x.run(1);
        Due.is("tell(4)", Due.tell(x, 4), "4 ecall");
    }

    // "NUMBERS of base 10 with sign"

    private static void numbersOfTheirEnds() {
        tells(0x80010093, "addi x1, x2, -2048");
        tells(0xfff10093, "addi x1, x2, -1");
        tells(0x00010093, "addi x1, x2, 0");
        tells(0x7ff10093, "addi x1, x2, 2047");
        tells(0x80013093, "sltiu x1, x2, -2048");
        tells(0xfff14093, "xori x1, x2, -1");
        tells(0x00011093, "slli x1, x2, 0");
        tells(0x01f11093, "slli x1, x2, 31");
        tells(0x01f15093, "srli x1, x2, 31");
        tells(0x41f15093, "srai x1, x2, 31");
    }

    private static void placesOfTheirEnds() {
        tells(0x80010083, "lb x1, -2048(x2)");
        tells(0x7ff15083, "lhu x1, 2047(x2)");
        tells(0x00012083, "lw x1, 0(x2)");
        tells(0x80112023, "sw x1, -2048(x2)");
        tells(0x7e110fa3, "sb x1, 2047(x2)");
        tells(0xfe111fa3, "sh x1, -1(x2)");
        tells(0x800100e7, "jalr x1, -2048(x2)");
        tells(0x7ff100e7, "jalr x1, 2047(x2)");
    }

    private static void luiAndAuipcAreWithoutSign() {
        tells(0x000000b7, "lui x1, 0");
        tells(0x7ffff0b7, "lui x1, 524287");
        tells(0x800000b7, "lui x1, 524288");
        tells(0xfffff0b7, "lui x1, 1048575");
        tells(0x00000097, "auipc x1, 0");
        tells(0xfffff097, "auipc x1, 1048575");
    }

    private static void targetsAreDistances() {
        tells(0x800000ef, "jal x1, -1048576");
        tells(0x7ffff0ef, "jal x1, 1048574");
        tells(0xfffff0ef, "jal x1, -2");
        tells(0x0000006f, "jal x0, 0");
        tells(0x80208063, "beq x1, x2, -4096");
        tells(0x7e208fe3, "beq x1, x2, 4094");
        tells(0x80209063, "bne x1, x2, -4096");
        tells(0x7e20cfe3, "blt x1, x2, 4094");
        tells(0x8020d063, "bge x1, x2, -4096");
        tells(0x7e20efe3, "bltu x1, x2, 4094");
        tells(0x8020f063, "bgeu x1, x2, -4096");
    }

    private static void registersAreX0ToX31() {
        tells(0x00000033, "add x0, x0, x0");
        tells(0x01ff8fb3, "add x31, x31, x31");
        tells(0x41ff8fb3, "sub x31, x31, x31");
        tells(0x03ffffb3, "remu x31, x31, x31");
        tells(0x00a50533, "add x10, x10, x10");
        tells(0x009484b3, "add x9, x9, x9");
    }

    private static void eachWithRegistersAlone() {
        tells(0x01f100b3, "add x1, x2, x31");
        tells(0x41f100b3, "sub x1, x2, x31");
        tells(0x01f110b3, "sll x1, x2, x31");
        tells(0x01f120b3, "slt x1, x2, x31");
        tells(0x01f130b3, "sltu x1, x2, x31");
        tells(0x01f140b3, "xor x1, x2, x31");
        tells(0x01f150b3, "srl x1, x2, x31");
        tells(0x41f150b3, "sra x1, x2, x31");
        tells(0x01f160b3, "or x1, x2, x31");
        tells(0x01f170b3, "and x1, x2, x31");
        tells(0x03f100b3, "mul x1, x2, x31");
        tells(0x03f110b3, "mulh x1, x2, x31");
        tells(0x03f120b3, "mulhsu x1, x2, x31");
        tells(0x03f130b3, "mulhu x1, x2, x31");
        tells(0x03f140b3, "div x1, x2, x31");
        tells(0x03f150b3, "divu x1, x2, x31");
        tells(0x03f160b3, "rem x1, x2, x31");
        tells(0x03f170b3, "remu x1, x2, x31");
        tells(0x104110f3, "csrrw x1, sie, x2");
        tells(0x104120f3, "csrrs x1, sie, x2");
        tells(0x104130f3, "csrrc x1, sie, x2");
    }

    // "CSRs by their names, others by NUMBER"

    private static String csrName(int number) {
        switch (number) {
            case 0x100: return "sstatus";
            case 0x104: return "sie";
            case 0x105: return "stvec";
            case 0x140: return "sscratch";
            case 0x141: return "sepc";
            case 0x142: return "scause";
            case 0x143: return "stval";
            case 0x144: return "sip";
            case 0x180: return "satp";
            case 0xc00: return "cycle";
            case 0xc01: return "time";
            case 0xc02: return "instret";
            case 0xc80: return "cycleh";
            case 0xc81: return "timeh";
            case 0xc82: return "instreth";
            default: return Integer.toString(number);
        }
    }

    private static void eachCsr() {
        for (int number = 0; number < 4096; number++) {
            TranslatingHost x = new TranslatingHost();
            x.load(0, number << 20 | 0x000110f3, 0, 0, 0);
            String got = Due.tell(x, 0);
            String want = "4 csrrw x1, " + csrName(number) + ", x2";
            if (!got.equals(want)) {
                Due.is("csr " + number, got, want);
            }
        }
        tells(0xfff110f3, "csrrw x1, 4095, x2");
        tells(0x000110f3, "csrrw x1, 0, x2");
    }

    private static void immediatesOfCsrs() {
        tells(0x140050f3, "csrrwi x1, sscratch, 0");
        tells(0x140fd0f3, "csrrwi x1, sscratch, 31");
        tells(0x140860f3, "csrrsi x1, sscratch, 16");
        tells(0x140ff0f3, "csrrci x1, sscratch, 31");
        tells(0x140020f3, "csrrs x1, sscratch, x0");
        tells(0x140fb0f3, "csrrc x1, sscratch, x31");
    }

    // "One that is none, or could not be told so (bits that are any and not 0), as .word 0x and eight digits"

    private static void fenceWithAnyOtherBit() {
        tells(0x0000000f, "fence");
        tells(0x0000100f, "fence.i");
        for (int bit = 7; bit < 32; bit++) {
            if (bit != 12) {
                tellsAsWord(0x0000000f | 1 << bit);
                tellsAsWord(0x0000100f | 1 << bit);
            }
        }
    }

    private static void atomicsWithBits25And26() {
        int[] kinds = {0x02, 0x03, 0x01, 0x00, 0x04, 0x0c, 0x08, 0x10, 0x14, 0x18, 0x1c};
        for (int kind : kinds) {
            tellsAsWord(kind << 27 | 0x0200a1af);
            tellsAsWord(kind << 27 | 0x0400a1af);
            tellsAsWord(kind << 27 | 0x0600a1af);
        }
    }

    private static void eachAtomic() {
        tells(0x1000a1af, "lr.w x3, (x1)");
        tells(0x1820a1af, "sc.w x3, x2, (x1)");
        tells(0x0820a1af, "amoswap.w x3, x2, (x1)");
        tells(0x0020a1af, "amoadd.w x3, x2, (x1)");
        tells(0x2020a1af, "amoxor.w x3, x2, (x1)");
        tells(0x6020a1af, "amoand.w x3, x2, (x1)");
        tells(0x4020a1af, "amoor.w x3, x2, (x1)");
        tells(0x8020a1af, "amomin.w x3, x2, (x1)");
        tells(0xa020a1af, "amomax.w x3, x2, (x1)");
        tells(0xc020a1af, "amominu.w x3, x2, (x1)");
        tells(0xe020a1af, "amomaxu.w x3, x2, (x1)");
    }

    private static void lrWithRs2() {
        for (int rs2 = 1; rs2 < 32; rs2++) {
            tellsAsWord(0x1000a1af | rs2 << 20);
        }
    }

    private static void wholeWordsWithAnotherBit() {
        tells(0x00000073, "ecall");
        tells(0x00100073, "ebreak");
        tells(0x10200073, "sret");
        tells(0x10500073, "wfi");
        for (int bit = 7; bit < 32; bit++) {
            if (bit < 12 || bit > 14 && bit != 20) {
                tellsAsWord(0x00000073 | 1 << bit);
            }
        }
        tellsAsWord(0x30200073);
        tellsAsWord(0x10300073);
    }

    private static void sfenceWithRdAndWithout() {
        tells(0x12000073, "sfence.vma x0, x0");
        tells(0x13ff8073, "sfence.vma x31, x31");
        tellsAsWord(0x120000f3);
        tellsAsWord(0x12000873);
    }

    private static void wordsThatAreNone() {
        tellsAsWord(0xffffffff);
        tellsAsWord(0x00000003 | 3 << 12);
        tellsAsWord(0x0000000b);
        tellsAsWord(0x00001067);
        tellsAsWord(0x00002063);
        tellsAsWord(0x00003023);
        tellsAsWord(0x02001013);
        tellsAsWord(0x02005013);
        tellsAsWord(0x42005013);
        tellsAsWord(0x40001033);
        tellsAsWord(0x04000033);
        tellsAsWord(0x00004073);
        tellsAsWord(0x0000200f);
        tellsAsWord(0x0000a02f ^ 0x3000);
        tellsAsWord(0x2800a02f);
    }

    private static void aWordHasEightDigitsInSmallLetters() {
        tells(0x0000000b, ".word 0x0000000b");
        tells(0xabcdef0b, ".word 0xabcdef0b");
        tells(0x9876545b, ".word 0x9876545b");
    }

    private static void aHalfHasFourDigitsInSmallLetters() {
        tells(0x0000, ".half 0x0000");
        tells(0x000c, ".half 0x000c");
        tells(0xbcde & ~3 | 2, ".half 0xbcde");
        tells(0xa000, ".half 0xa000");
    }

    // The ones of 16 bits, at the ends of what they hold

    private static void shortsOfTheirEnds() {
        tells(0x0040, "c.addi4spn x8, 4");
        tells(0x1ffc, "c.addi4spn x15, 1020");
        tells(0x4380, "c.lw x8, 0(x15)");
        tells(0x5c7c, "c.lw x15, 124(x8)");
        tells(0xc380, "c.sw x8, 0(x15)");
        tells(0xdc7c, "c.sw x15, 124(x8)");
        tells(0x1081, "c.addi x1, -32");
        tells(0x0ffd, "c.addi x31, 31");
        tells(0x5081, "c.li x1, -32");
        tells(0x4ffd, "c.li x31, 31");
        tells(0x3001, "c.jal -2048");
        tells(0x2ffd, "c.jal 2046");
        tells(0xb001, "c.j -2048");
        tells(0xaffd, "c.j 2046");
        tells(0x7101, "c.addi16sp -512");
        tells(0x617d, "c.addi16sp 496");
        tells(0x8001, "c.srli x8, 0");
        tells(0x83fd, "c.srli x15, 31");
        tells(0x8401, "c.srai x8, 0");
        tells(0x87fd, "c.srai x15, 31");
        tells(0x9801, "c.andi x8, -32");
        tells(0x8bfd, "c.andi x15, 31");
        tells(0xd001, "c.beqz x8, -256");
        tells(0xcffd, "c.beqz x15, 254");
        tells(0xf001, "c.bnez x8, -256");
        tells(0xeffd, "c.bnez x15, 254");
        tells(0x0002, "c.slli x0, 0");
        tells(0x0ffe, "c.slli x31, 31");
        tells(0x4082, "c.lwsp x1, 0(x2)");
        tells(0x5ffe, "c.lwsp x31, 252(x2)");
        tells(0xc002, "c.swsp x0, 0(x2)");
        tells(0xdffe, "c.swsp x31, 252(x2)");
    }

    private static void cLuiIsWithoutSign() {
        tells(0x6085, "c.lui x1, 1");
        tells(0x6ffd, "c.lui x31, 31");
        tells(0x7081, "c.lui x1, 1048544");
        tells(0x71fd, "c.lui x3, 1048575");
        tells(0x6005, "c.lui x0, 1");
    }

    private static void cNopIsToldForCAddiOfX0And0() {
        tells(0x0001, "c.nop");
        tells(0x0005, "c.addi x0, 1");
        tells(0x1001, "c.addi x0, -32");
        tells(0x0081, "c.addi x1, 0");
    }

    private static void registersAloneOfShorts() {
        tells(0x8082, "c.jr x1");
        tells(0x8f82, "c.jr x31");
        tells(0x9082, "c.jalr x1");
        tells(0x9f82, "c.jalr x31");
        tells(0x9002, "c.ebreak");
        tells(0x8006, "c.mv x0, x1");
        tells(0x8ffe, "c.mv x31, x31");
        tells(0x9006, "c.add x0, x1");
        tells(0x9ffe, "c.add x31, x31");
        tells(0x8c1d, "c.sub x8, x15");
        tells(0x8fa1, "c.xor x15, x8");
        tells(0x8c5d, "c.or x8, x15");
        tells(0x8fe1, "c.and x15, x8");
    }

    private static void halvesThatSection2MakesTrap2Of() {
        int[] none = {
            0x0000, 0x001c, 0x2000, 0x6000, 0x8000, 0xa000, 0xe000, 0x6101, 0x6001, 0x6081, 0x6f81, 0x9001, 0x9401, 0x9c01,
            0x9c21, 0x9c41, 0x9c61, 0x1002, 0x1082, 0x2002, 0x4002, 0x407e, 0x6002, 0x8002, 0xa002, 0xe002,
        };
        for (int half : none) {
            tellsAsHalf(half);
        }
    }

    // "never nop, li, mv, j, ret"

    private static void theOthersAreToldAsWhatTheyAre() {
        tells(0x00000013, "addi x0, x0, 0");
        tells(0x00500093, "addi x1, x0, 5");
        tells(0x00010093, "addi x1, x2, 0");
        tells(0x0040006f, "jal x0, 4");
        tells(0x00008067, "jalr x0, 0(x1)");
        tells(0x000010b7, "lui x1, 1");
    }

    // "Promise 19: Byte i of the text of the latest tell() that did not answer NONE; NONE"

    private static void toldTakesTheFirstAndTheLastByte() {
        TranslatingHost x = new TranslatingHost();
        x.load(0, 0x73, 0, 0, 0);
        x.tell(0);
        Due.is("told(-1)", x.told(-1), NONE);
        Due.is("told(0)", x.told(0), 'e');
        Due.is("told(4)", x.told(4), 'l');
        Due.is("told(5)", x.told(5), NONE);
        Due.is("told(least)", x.told(Integer.MIN_VALUE), NONE);
        Due.is("told(greatest)", x.told(Integer.MAX_VALUE), NONE);
    }

    private static void toldOfAShorterTextHasNothingOfALongerOne() {
        TranslatingHost x = new TranslatingHost();
        x.load(0, 0xfff110f3, 0x10500073, 0, 0);
        x.tell(0);
        x.tell(4);
        Due.is("told", Due.told(x), "wfi");
        Due.is("told(3)", x.told(3), NONE);
    }

    private static void toldStaysBehindEachRefusal() {
        TranslatingHost x = new TranslatingHost();
        x.load(0, 0x73, 0, 0, 0);
        x.load(262128, 0, 0, 0, 0xffff0000);
        x.tell(0);
        int[] wrong = {1, 262142, 262144, -2};
        for (int address : wrong) {
            Due.is("tell(" + address + ")", x.tell(address), NONE);
            Due.is("told behind it", Due.told(x), "ecall");
        }
    }

    private static void toldStaysWhenMemoryChanges() {
        TranslatingHost x = new TranslatingHost();
        x.load(0, 0x73, 0, 0, 0);
        x.tell(0);
        x.load(0, 0x13, 0, 0, 0);
        Due.assemble(x, 0, "wfi");
        x.run(1);
        Due.is("told", Due.told(x), "ecall");
    }
}
