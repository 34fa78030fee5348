/** Section 4: CSRs, TRAPS and INTERRUPTS, by steps and csr() (promises 5, 7). */
public final class TrapsTest {
    private static final int SIE = 1 << 1;
    private static final int SPIE = 1 << 5;
    private static final int SPP = 1 << 8;
    private static final int TIMER = 1 << 5;
    private static final int LINE = 1 << 9;

    public static void main(String[] args) {
        bitsThatCanBeSet();
        instructionsOfCsrs();
        readAlone();
        atLevelU();
        trapAndReturn();
        clockOfInstructions();
        interruptOfTheLine();
        interruptOfTheTimer();
        interruptsOrder();
        interruptTakesReservation();
        Due.done();
    }

    private static long written(String csr, int number, int v) {
        TranslatingHost x = Due.with("csrrw x2, " + csr + ", x1\ncsrrs x3, " + csr + ", x0");
        x.set(1, v);
        x.run(2);
        Due.is(csr + " is read as told", x.reg(3) & 0xffffffffL, x.csr(number));
        Due.is(csr + " was 0", x.reg(2), 0);
        return x.csr(number);
    }

    private static void bitsThatCanBeSet() {
        Due.is("sstatus", written("sstatus", 0x100, -1), 0x000c0122);
        Due.is("sie", written("sie", 0x104, -1), 0x220);
        Due.is("stvec", written("stvec", 0x105, -1), 0xfffffffcL);
        Due.is("sscratch", written("sscratch", 0x140, -1), 0xffffffffL);
        Due.is("sepc", written("sepc", 0x141, -1), 0xfffffffeL);
        Due.is("scause", written("scause", 0x142, -1), 0xffffffffL);
        Due.is("stval", written("stval", 0x143, -1), 0xffffffffL);
        Due.is("sip", written("sip", 0x144, -1), 0);
        Due.is("satp", written("satp", 0x180, 0x7fffffff), 0x7fffffff);
    }

    private static void instructionsOfCsrs() {
        TranslatingHost x = Due.with("csrrw x2, sscratch, x1\ncsrrs x3, sscratch, x4\ncsrrc x5, sscratch, x6\n"
            + "csrrwi x7, sscratch, 31\ncsrrsi x8, sscratch, 0\ncsrrci x9, sscratch, 17\ncsrrsi x10, sscratch, 1\n"
            + "csrrw x1, sscratch, x1\ncsrrw x0, sscratch, x0");
        x.set(1, 0xf0);
        x.set(4, 0x0f);
        x.set(6, 0x3c);
        x.run(8);
        Due.is("csrrw rd", x.reg(2), 0);
        Due.is("csrrs rd", x.reg(3), 0xf0);
        Due.is("csrrc rd", x.reg(5), 0xff);
        Due.is("csrrwi rd", x.reg(7), 0xc3);
        Due.is("csrrsi rd", x.reg(8), 31);
        Due.is("csrrci rd", x.reg(9), 31);
        Due.is("csrrsi rd", x.reg(10), 14);
        Due.is("csrrw of one register", x.reg(1), 15);
        Due.is("csrrw of one register writes", x.csr(0x140), 0xf0);
        x.run(1);
        Due.is("csrrw of x0 writes 0", x.csr(0x140), 0);
    }

    private static TranslatingHost one(String statement) {
        TranslatingHost x = Due.with("nop\n" + statement);
        x.set(1, 0);
        x.run(2);
        return x;
    }

    private static void readAlone() {
        String[] names = {"cycle", "time", "instret", "cycleh", "timeh", "instreth"};
        for (String name : names) {
            Due.is("csrrs of " + name, one("csrrs x2, " + name + ", x0").count(2), 0);
            Due.is("csrrci of " + name, one("csrrci x2, " + name + ", 0").count(2), 0);
            Due.is("csrrs with x1 of " + name, one("csrrs x2, " + name + ", x1").count(2), 1);
            Due.is("csrrsi with 1 of " + name, one("csrrsi x2, " + name + ", 1").count(2), 1);
            Due.is("csrrw of " + name, one("csrrw x0, " + name + ", x0").count(2), 1);
            Due.is("csrrwi of " + name, one("csrrwi x0, " + name + ", 0").count(2), 1);
            Due.is("csrrw of " + name, one("csrrw x0, " + name + ", x0").csr(0x142), 2);
            boolean upper = name.endsWith("h");
            Due.is(name, one("csrrs x2, " + name + ", x0").reg(2), upper ? 0 : 1);
        }
    }

    private static TranslatingHost atU(String statement) {
        TranslatingHost x = Due.with("csrrwi x0, sepc, 8\nsret\n" + statement);
        x.run(2);
        Due.is("LEVEL U", x.reg(33), 0);
        x.run(1);
        return x;
    }

    private static void atLevelU() {
        String[] illegal = {
            "sret", "wfi", "sfence.vma x0, x0", "csrrs x1, sstatus, x0", "csrrs x1, sip, x0", "csrrs x1, satp, x0",
            "csrrw x1, sscratch, x0", "csrrs x1, 0x300, x0", "csrrw x0, cycle, x0",
        };
        for (String statement : illegal) {
            TranslatingHost x = atU(statement);
            Due.is(statement + " at U: scause", x.csr(0x142), 2);
            Due.is(statement + " at U: stval", x.csr(0x143), x.word(8));
            Due.is(statement + " at U: LEVEL", x.reg(33), 1);
            Due.is(statement + " at U: SPP", x.csr(0x100) & SPP, 0);
        }
        Due.is("csrrs of time at U", atU("csrrs x1, time, x0").reg(1), 2);
        Due.is("csrrs of instret at U", atU("csrrs x1, instret, x0").reg(1), 2);
        Due.is("ecall at U", atU("ecall").csr(0x142), 8);
        Due.is("ecall's value", atU("ecall").csr(0x143), 0);
        Due.is("ebreak at U", atU("ebreak").csr(0x142), 3);
        Due.is("ebreak's value", atU("ebreak").csr(0x143), 8);
        Due.is("fence at U", atU("fence").count(2), 0);
    }

    private static void trapAndReturn() {
        TranslatingHost x = Due.with("csrrw x0, stvec, x1\ncsrrw x0, sstatus, x2\necall\nnop");
        x.set(1, 0x103);
        x.set(2, SIE);
        Due.assemble(x, 0x100, "csrrw x0, sepc, x3\nsret\nsret");
        x.run(3);
        Due.is("pc is stvec", x.reg(32), 0x100);
        Due.is("sepc is pc", x.csr(0x141), 8);
        Due.is("sstatus in the TRAP", x.csr(0x100), SPP | SPIE);
        Due.is("TIME counts it", x.count(0), 3);
        Due.is("INSTRET does not", x.count(1), 2);
        x.set(3, 0x109);
        x.run(2);
        Due.is("sret goes to sepc", x.reg(32), 0x108);
        Due.is("sret's sstatus", x.csr(0x100), SIE | SPIE);
        Due.is("sret's LEVEL", x.reg(33), 1);
        x.run(1);
        Due.is("a second sret's LEVEL", x.reg(33), 0);
        Due.is("a second sret's sstatus", x.csr(0x100), SIE | SPIE);
        TranslatingHost off = Due.after(2, "csrrwi x0, sepc, 12\nsret");
        Due.is("sret with SPIE 0", off.csr(0x100), SPIE);
        TranslatingHost keeps = Due.with("csrrw x0, sstatus, x2\necall");
        keeps.set(2, 3 << 18);
        keeps.run(2);
        Due.is("SUM and MXR stay", keeps.csr(0x100), 3 << 18 | SPP);
    }

    private static void clockOfInstructions() {
        TranslatingHost x = Due.after(5, "csrrs x1, time, x0\ncsrrs x2, cycle, x0\necall");
        Due.is("TIME read is that before", x.reg(2), 4);
        Due.is("TIME read first", x.reg(1), 3);
        TranslatingHost y = Due.after(5, "csrrs x1, instret, x0\ncsrrs x2, instret, x0\necall");
        Due.is("INSTRET read first", y.reg(1), 2);
        Due.is("INSTRET read is that before", y.reg(2), 3);
        TranslatingHost z = Due.after(2, "lui x1, 0x10000\nlw x2, 0x100(x1)");
        Due.is("TIME of the device is that before", z.reg(2), 1);
    }

    private static TranslatingHost waiting(int sie, int sstatus) {
        TranslatingHost x = Due.with("csrrw x0, stvec, x1\ncsrrw x0, sie, x2\ncsrrw x0, sstatus, x3\nloop: j loop");
        x.set(1, 0x100);
        x.set(2, sie);
        x.set(3, sstatus);
        Due.assemble(x, 0x100, "loop: j loop");
        x.run(4);
        return x;
    }

    private static void interruptOfTheLine() {
        TranslatingHost x = waiting(LINE, SIE);
        Due.is("no INPUT", x.count(2), 0);
        x.key(65);
        Due.is("one step", x.run(1), 1);
        Due.is("taken", x.count(2), 1);
        Due.is("scause", x.csr(0x142), 0x80000009L);
        Due.is("stval", x.csr(0x143), 0);
        Due.is("sepc", x.csr(0x141), 12);
        Due.is("pc", x.reg(32), 0x100);
        Due.is("sip", x.csr(0x144), LINE);
        Due.is("TIME", x.count(0), 5);
        Due.is("INSTRET", x.count(1), 4);
        x.run(5);
        Due.is("not again without SIE", x.count(2), 1);
        TranslatingHost masked = waiting(TIMER, SIE);
        masked.key(65);
        masked.run(3);
        Due.is("not without SEIE", masked.count(2), 0);
        TranslatingHost off = waiting(LINE, 0);
        off.key(65);
        off.run(3);
        Due.is("not at S without SIE", off.count(2), 0);
        TranslatingHost user = Due.with("csrrw x0, sie, x2\ncsrrwi x0, sepc, 12\nsret\nloop: j loop");
        user.set(2, LINE);
        user.run(4);
        user.key(1);
        user.run(1);
        Due.is("at U without SIE", user.count(2), 1);
        Due.is("at U: sstatus", user.csr(0x100), 0);
        TranslatingHost odd = waiting(LINE, SIE);
        odd.key(1);
        odd.set(32, 0x201);
        odd.run(1);
        Due.is("ahead of an odd pc", odd.csr(0x142), 0x80000009L);
        Due.is("sepc of an odd pc", odd.csr(0x141), 0x200);
    }

    private static void interruptOfTheTimer() {
        String program = "csrrw x0, stvec, x1\ncsrrw x0, sie, x2\ncsrrw x0, sstatus, x3\nsw x5, 0x108(x4)\n"
            + "sw x6, 0x10c(x4)\nloop: j loop";
        TranslatingHost x = Due.with(program);
        Due.assemble(x, 0x100, "csrrs x8, sip, x0\nloop: j loop");
        x.set(1, 0x100);
        x.set(2, TIMER);
        x.set(3, SIE);
        x.set(4, 0x10000000);
        x.set(5, 20);
        x.run(20);
        Due.is("not before COMPARE", x.count(2), 0);
        Due.is("PENDING at COMPARE", x.csr(0x144), TIMER);
        x.run(1);
        Due.is("at COMPARE", x.count(2), 1);
        Due.is("scause", x.csr(0x142), 0x80000005L);
        Due.is("TIME", x.count(0), 21);
        x.run(1);
        Due.is("sip by an instruction", x.reg(8), TIMER);
        TranslatingHost high = Due.with(program);
        high.set(2, TIMER);
        high.set(3, SIE);
        high.set(4, 0x10000000);
        high.set(6, Integer.MIN_VALUE);
        high.run(30);
        Due.is("COMPARE is without sign", high.count(2), 0);
        Due.is("not PENDING", high.csr(0x144), 0);
        TranslatingHost zero = Due.with(program);
        zero.set(2, TIMER);
        zero.set(3, SIE);
        zero.set(4, 0x10000000);
        zero.run(5);
        Due.is("COMPARE 0 is not there yet", zero.count(2), 0);
        zero.run(1);
        Due.is("COMPARE 0", zero.count(2), 1);
        Due.is("sepc", zero.csr(0x141), 20);
    }

    private static void interruptsOrder() {
        TranslatingHost x = Due.with("sw x0, 0x10c(x4)\nsw x0, 0x108(x4)\ncsrrw x0, sie, x2\ncsrrw x0, sstatus, x3\nnop");
        x.set(2, TIMER | LINE);
        x.set(3, SIE);
        x.set(4, 0x10000000);
        x.key(9);
        x.run(4);
        Due.is("none before SIE", x.count(2), 0);
        Due.is("both PENDING", x.csr(0x144), TIMER | LINE);
        x.run(1);
        Due.is("the line's first", x.csr(0x142), 0x80000009L);
    }

    private static void interruptTakesReservation() {
        TranslatingHost x = Due.with("lr.w x5, (x1)\nsc.w x6, x5, (x1)");
        x.set(1, 0x200);
        x.run(1);
        Due.assemble(x, 0x100, "csrrw x0, sie, x2\ncsrrw x0, sstatus, x3\nsc.w x7, x5, (x1)");
        x.set(2, LINE);
        x.set(3, SIE);
        x.set(7, 5);
        x.key(1);
        x.set(32, 0x100);
        x.run(3);
        Due.is("the INTERRUPT", x.count(2), 1);
        x.set(32, 0x108);
        x.run(1);
        Due.is("took the RESERVATION", x.reg(7), 1);
    }
}
