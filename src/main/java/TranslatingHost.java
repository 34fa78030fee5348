import java.util.Arrays;

/** A 32-bit machine with pages, traps, devices and a disk, and a text form of its programs. */
public final class TranslatingHost {
    public static final int NONE = -1;

    private static final int MEMORY_BYTES = 262144;
    private static final int LAST_WORD = MEMORY_BYTES / 4 - 1;
    private static final long LOW_32 = 0xffffffffL;
    /** With their signs turned, numbers without sign compare as those with one do. */
    private static final int SIGN_32 = 1 << 31;
    private static final long SIGN_64 = 1L << 63;

    private static final int LEVEL_U = 0;
    private static final int LEVEL_S = 1;

    private static final int FETCH = 0;
    private static final int LOAD = 1;
    private static final int STORE = 2;

    private static final int ODD_PC = 0;
    private static final int ILLEGAL = 2;
    private static final int BREAKPOINT = 3;
    private static final int CROOKED_LOAD = 4;
    private static final int CROOKED_STORE = 6;
    private static final int CALL_FROM_U = 8;
    private static final int CALL_FROM_S = 9;

    private static final int MOST_STEPS = 100000;
    private static final int MOST_INPUT = 200;
    private static final int KEPT_OUTPUT = 1000;
    private static final int SECTORS = 64;
    private static final int SECTOR_WORDS = 128;
    private static final int MOST_TAPE = 4000;
    private static final int FEED_BYTES = 20;
    private static final int MOST_LABELS = 32;
    private static final int NO_SUCH_WAY = -100;

    private final Memory memory;
    private final Devices devices;
    private final Control control;
    private final Pages pages;
    private final Processor processor;
    private final Tape tape;
    private final Assembler assembler;
    private final Teller teller;

    public TranslatingHost() {
        memory = new Memory();
        devices = new Devices(memory);
        control = new Control(devices);
        pages = new Pages(memory, control);
        processor = new Processor(memory, devices, control, pages);
        tape = new Tape();
        Op[] ops = Op.values();
        Part[] parts = Part.values();
        assembler = new Assembler(tape, memory, ops, parts);
        teller = new Teller(memory, ops, parts);
    }

    public int load(int address, int a, int b, int c, int d) {
        if ((address & 3) != 0 || address < 0 || address > MEMORY_BYTES - 16) {
            return NONE;
        }
        memory.putWord(address, a);
        memory.putWord(address + 4, b);
        memory.putWord(address + 8, c);
        memory.putWord(address + 12, d);
        return 4;
    }

    public int set(int r, int v) {
        if (r < 1 || r > 32) {
            return NONE;
        }
        if (r == 32) {
            processor.pc = v;
        } else {
            processor.registers[r] = v;
        }
        return 1;
    }

    public int key(int b) {
        return b < 0 || b > 255 ? NONE : devices.addInput(b);
    }

    public int run(int n) {
        return n < 0 || n > MOST_STEPS ? NONE : processor.doSteps(n);
    }

    public int reg(int r) {
        if (r >= 0 && r < 32) {
            return processor.registers[r];
        }
        if (r == 32) {
            return processor.pc;
        }
        return r == 33 ? control.level : -1;
    }

    public long csr(int number) {
        return Control.nameOfCsr(number).isEmpty() ? NONE : control.readCsr(number) & LOW_32;
    }

    public long word(int address) {
        if ((address & 3) != 0 || !Memory.holds(address)) {
            return -1;
        }
        return memory.wordAt(address) & LOW_32;
    }

    public long count(int what) {
        switch (what) {
            case 0: return devices.time;
            case 1: return control.instret;
            case 2: return control.traps;
            case 3: return devices.outputCount;
            case 4: return devices.inputCount;
            case 5: return devices.halted ? 1 : 0;
            case 6: return devices.code;
            default: return -1;
        }
    }

    public int out(int i) {
        return devices.keptOutput(i);
    }

    public long leads(int address, int how, int level) {
        if (how < FETCH || how > STORE || level < LEVEL_U || level > LEVEL_S) {
            return NO_SUCH_WAY;
        }
        return pages.find(address, how, level);
    }

    public int reset() {
        int done = (int) devices.time;
        devices.begin();
        control.begin();
        processor.begin();
        return done;
    }

    public int feed(int a, int b, int c, int d, int e) {
        if (tape.length > MOST_TAPE - FEED_BYTES) {
            return NONE;
        }
        tape.addWord(a);
        tape.addWord(b);
        tape.addWord(c);
        tape.addWord(d);
        tape.addWord(e);
        return tape.length;
    }

    public int end(int n) {
        if (n < 0 || n > FEED_BYTES || tape.length < FEED_BYTES) {
            return NONE;
        }
        tape.length -= FEED_BYTES - n;
        return tape.length;
    }

    public int assemble(int address) {
        int answer = NONE;
        assembler.forgetFault();
        if ((address & 1) == 0 && Memory.holds(address)) {
            tape.split();
            answer = assembler.assembleAt(address);
        }
        tape.length = 0;
        return answer;
    }

    public int place() {
        return assembler.faultAt;
    }

    public int label(int k) {
        return assembler.keptLabel(k);
    }

    public int tell(int address) {
        if ((address & 1) != 0 || !Memory.holds(address)) {
            return NONE;
        }
        return teller.describe(address);
    }

    public int told(int i) {
        return teller.textAt(i);
    }

    public long disk(int sector, int i) {
        return Devices.isOnDisk(sector, i) ? devices.disk[sector * SECTOR_WORDS + i] & LOW_32 : -1;
    }

    public int write(int sector, int i, int v) {
        if (!Devices.isOnDisk(sector, i)) {
            return NONE;
        }
        devices.disk[sector * SECTOR_WORDS + i] = v;
        return 1;
    }

    /** The host keeps nothing that is made from MEMORY or pages, so nothing can be out of date. */
    public int check() {
        return 1;
    }

    /** MEMORY as words; an index is cut to its length, so that no address can leave it. */
    private static final class Memory {
        private final int[] words = new int[LAST_WORD + 1];

        static boolean holds(long address) {
            return address >= 0 && address < MEMORY_BYTES;
        }

        int wordAt(int address) {
            return words[(address >>> 2) & LAST_WORD];
        }

        int halfAt(int address) {
            return (words[(address >>> 2) & LAST_WORD] >>> ((address & 2) << 3)) & 0xffff;
        }

        int byteAt(int address) {
            return (words[(address >>> 2) & LAST_WORD] >>> ((address & 3) << 3)) & 0xff;
        }

        void putWord(int address, int v) {
            words[(address >>> 2) & LAST_WORD] = v;
        }

        void putHalf(int address, int v) {
            int shift = (address & 2) << 3;
            int old = words[(address >>> 2) & LAST_WORD];
            words[(address >>> 2) & LAST_WORD] = (old & ~(0xffff << shift)) | ((v & 0xffff) << shift);
        }

        void putByte(int address, int v) {
            int shift = (address & 3) << 3;
            int old = words[(address >>> 2) & LAST_WORD];
            words[(address >>> 2) & LAST_WORD] = (old & ~(0xff << shift)) | ((v & 0xff) << shift);
        }
    }

    /** The line, the clock, HALT and the disk. */
    private static final class Devices {
        private static final int LINE_DATA = 0x10000000;
        private static final int LINE_STATE = 0x10000004;
        private static final int TIME_LOW = 0x10000100;
        private static final int TIME_HIGH = 0x10000104;
        private static final int COMPARE_LOW = 0x10000108;
        private static final int COMPARE_HIGH = 0x1000010c;
        private static final int HALT = 0x10000200;
        private static final int DISK_SECTOR = 0x10000300;
        private static final int DISK_PLACE = 0x10000304;
        private static final int DISK_ACT = 0x10000308;

        private final Memory memory;
        private final int[] input = new int[MOST_INPUT];
        private final int[] output = new int[KEPT_OUTPUT];
        private final int[] disk = new int[SECTORS * SECTOR_WORDS];
        private int inputFirst;
        private int inputCount;
        private long outputCount;
        private long time;
        private long compare;
        private boolean halted;
        private int code;
        private int sector;
        private int place;
        private int lastAct;

        Devices(Memory memory) {
            this.memory = memory;
            begin();
        }

        void begin() {
            inputFirst = 0;
            inputCount = 0;
            outputCount = 0;
            time = 0;
            compare = -1;
            halted = false;
            code = 0;
            sector = 0;
            place = 0;
            lastAct = 0;
        }

        static boolean isOnDisk(int sector, int i) {
            return sector >= 0 && sector < SECTORS && i >= 0 && i < SECTOR_WORDS;
        }

        static boolean isDeviceWord(long address) {
            if (address < LINE_DATA || address > DISK_ACT) {
                return false;
            }
            switch ((int) address) {
                case LINE_DATA:
                case LINE_STATE:
                case TIME_LOW:
                case TIME_HIGH:
                case COMPARE_LOW:
                case COMPARE_HIGH:
                case HALT:
                case DISK_SECTOR:
                case DISK_PLACE:
                case DISK_ACT:
                    return true;
                default:
                    return false;
            }
        }

        int addInput(int b) {
            if (inputCount >= MOST_INPUT) {
                return NONE;
            }
            input[(inputFirst + inputCount) % MOST_INPUT] = b;
            inputCount++;
            return inputCount;
        }

        int keptOutput(int i) {
            return i >= 0 && i < KEPT_OUTPUT && i < outputCount ? output[i] : NONE;
        }

        boolean isTimeUp() {
            return (time ^ SIGN_64) >= (compare ^ SIGN_64);
        }

        int readAt(int address) {
            switch (address) {
                case LINE_DATA: return takeInput();
                case LINE_STATE: return inputCount > 0 ? 1 : 0;
                case TIME_LOW: return (int) time;
                case TIME_HIGH: return (int) (time >>> 32);
                case COMPARE_LOW: return (int) compare;
                case COMPARE_HIGH: return (int) (compare >>> 32);
                case DISK_SECTOR: return sector;
                case DISK_PLACE: return place;
                case DISK_ACT: return lastAct;
                default: return 0;
            }
        }

        void writeAt(int address, int v) {
            switch (address) {
                case LINE_DATA:
                    addOutput(v & 0xff);
                    break;
                case COMPARE_LOW:
                    compare = (compare & ~LOW_32) | (v & LOW_32);
                    break;
                case COMPARE_HIGH:
                    compare = (compare & LOW_32) | ((long) v << 32);
                    break;
                case HALT:
                    halted = true;
                    code = v;
                    break;
                case DISK_SECTOR:
                    sector = v;
                    break;
                case DISK_PLACE:
                    place = v;
                    break;
                case DISK_ACT:
                    lastAct = act(v) ? 1 : 0;
                    break;
                default:
                    break;
            }
        }

        private int takeInput() {
            if (inputCount == 0) {
                return -1;
            }
            int b = input[inputFirst];
            inputFirst = (inputFirst + 1) % MOST_INPUT;
            inputCount--;
            return b;
        }

        private void addOutput(int b) {
            if (outputCount < KEPT_OUTPUT) {
                output[(int) outputCount] = b;
            }
            outputCount++;
        }

        private boolean act(int what) {
            if (!isOnDisk(sector, 0) || (place & 3) != 0 || place < 0 || place > MEMORY_BYTES - 4 * SECTOR_WORDS) {
                return false;
            }
            int onDisk = sector * SECTOR_WORDS;
            if (what == 1) {
                System.arraycopy(disk, onDisk, memory.words, place / 4, SECTOR_WORDS);
            } else if (what == 2) {
                System.arraycopy(memory.words, place / 4, disk, onDisk, SECTOR_WORDS);
            }
            return what == 1 || what == 2;
        }
    }

    /** The LEVEL, the CSRs, the way into a TRAP and out of it. */
    private static final class Control {
        private static final int SSTATUS = 0x100;
        private static final int SIE = 0x104;
        private static final int STVEC = 0x105;
        private static final int SSCRATCH = 0x140;
        private static final int SEPC = 0x141;
        private static final int SCAUSE = 0x142;
        private static final int STVAL = 0x143;
        private static final int SIP = 0x144;
        private static final int SATP = 0x180;
        private static final int CYCLE = 0xc00;
        private static final int TIME = 0xc01;
        private static final int INSTRET = 0xc02;
        private static final int CYCLEH = 0xc80;
        private static final int TIMEH = 0xc81;
        private static final int INSTRETH = 0xc82;
        private static final int[] CSRS = {
            SSTATUS, SIE, STVEC, SSCRATCH, SEPC, SCAUSE, STVAL, SIP, SATP,
            CYCLE, TIME, INSTRET, CYCLEH, TIMEH, INSTRETH,
        };

        private static final int SIE_BIT = 1 << 1;
        private static final int SPIE_BIT = 1 << 5;
        private static final int SPP_BIT = 1 << 8;
        private static final int SUM_BIT = 1 << 18;
        private static final int MXR_BIT = 1 << 19;
        private static final int SSTATUS_BITS = SIE_BIT | SPIE_BIT | SPP_BIT | SUM_BIT | MXR_BIT;
        private static final int TIMER_BIT = 1 << 5;
        private static final int LINE_BIT = 1 << 9;
        private static final int TIMER_CAUSE = 0x80000005;
        private static final int LINE_CAUSE = 0x80000009;
        private static final long NO_RESERVATION = -1;

        private final Devices devices;
        private int level;
        private int sstatus;
        private int sie;
        private int stvec;
        private int sscratch;
        private int sepc;
        private int scause;
        private int stval;
        private int satp;
        private long instret;
        private long traps;
        private long reservation;

        Control(Devices devices) {
            this.devices = devices;
            begin();
        }

        void begin() {
            level = LEVEL_S;
            sstatus = 0;
            sie = 0;
            stvec = 0;
            sscratch = 0;
            sepc = 0;
            scause = 0;
            stval = 0;
            satp = 0;
            instret = 0;
            traps = 0;
            reservation = NO_RESERVATION;
        }

        /** The empty text for a number that no CSR has. */
        static String nameOfCsr(int number) {
            switch (number) {
                case SSTATUS: return "sstatus";
                case SIE: return "sie";
                case STVEC: return "stvec";
                case SSCRATCH: return "sscratch";
                case SEPC: return "sepc";
                case SCAUSE: return "scause";
                case STVAL: return "stval";
                case SIP: return "sip";
                case SATP: return "satp";
                case CYCLE: return "cycle";
                case TIME: return "time";
                case INSTRET: return "instret";
                case CYCLEH: return "cycleh";
                case TIMEH: return "timeh";
                case INSTRETH: return "instreth";
                default: return "";
            }
        }

        boolean permitsCsr(int number, boolean written) {
            if (nameOfCsr(number).isEmpty()) {
                return false;
            }
            return number >= CYCLE ? !written : level == LEVEL_S;
        }

        int readCsr(int number) {
            switch (number) {
                case SSTATUS: return sstatus;
                case SIE: return sie;
                case STVEC: return stvec;
                case SSCRATCH: return sscratch;
                case SEPC: return sepc;
                case SCAUSE: return scause;
                case STVAL: return stval;
                case SIP: return pending();
                case SATP: return satp;
                case CYCLE:
                case TIME: return (int) devices.time;
                case CYCLEH:
                case TIMEH: return (int) (devices.time >>> 32);
                case INSTRET: return (int) instret;
                case INSTRETH: return (int) (instret >>> 32);
                default: return 0;
            }
        }

        void writeCsr(int number, int v) {
            switch (number) {
                case SSTATUS:
                    sstatus = v & SSTATUS_BITS;
                    break;
                case SIE:
                    sie = v & (TIMER_BIT | LINE_BIT);
                    break;
                case STVEC:
                    stvec = v & ~3;
                    break;
                case SSCRATCH:
                    sscratch = v;
                    break;
                case SEPC:
                    sepc = v & ~1;
                    break;
                case SCAUSE:
                    scause = v;
                    break;
                case STVAL:
                    stval = v;
                    break;
                case SATP:
                    satp = v;
                    break;
                default:
                    break;
            }
        }

        private int pending() {
            return (devices.isTimeUp() ? TIMER_BIT : 0) | (devices.inputCount > 0 ? LINE_BIT : 0);
        }

        /** The cause of the INTERRUPT that is to be taken now; 0 for none. */
        int dueInterrupt() {
            if (sie == 0 || (level == LEVEL_S && (sstatus & SIE_BIT) == 0)) {
                return 0;
            }
            int due = sie & pending();
            if ((due & LINE_BIT) != 0) {
                return LINE_CAUSE;
            }
            return due != 0 ? TIMER_CAUSE : 0;
        }

        void enterTrap(int cause, int value, int pc) {
            sepc = pc & ~1;
            scause = cause;
            stval = value;
            int status = sstatus & ~(SPP_BIT | SPIE_BIT | SIE_BIT);
            if (level == LEVEL_S) {
                status |= SPP_BIT;
            }
            if ((sstatus & SIE_BIT) != 0) {
                status |= SPIE_BIT;
            }
            sstatus = status;
            level = LEVEL_S;
            reservation = NO_RESERVATION;
            traps++;
        }

        void leaveTrap() {
            level = (sstatus & SPP_BIT) != 0 ? LEVEL_S : LEVEL_U;
            int status = sstatus & ~(SPP_BIT | SIE_BIT);
            if ((sstatus & SPIE_BIT) != 0) {
                status |= SIE_BIT;
            }
            sstatus = status | SPIE_BIT;
            reservation = NO_RESERVATION;
        }
    }

    /** Where addresses lead; physical addresses have 34 bits, so they are longs. */
    private static final class Pages {
        private static final int V = 1;
        private static final int R = 2;
        private static final int W = 4;
        private static final int X = 8;
        private static final int U = 16;
        private static final int A = 64;
        private static final int D = 128;
        private static final int FIRST_LOW_PART = 0xffc00;

        private final Memory memory;
        private final Control control;

        Pages(Memory memory, Control control) {
            this.memory = memory;
            this.control = control;
        }

        /** The physical address, or -1 less the TRAP. */
        long find(int address, int how, int level) {
            long at = control.satp < 0 ? translated(address, how, level) : address & LOW_32;
            if (at < MEMORY_BYTES || (how != FETCH && Devices.isDeviceWord(at))) {
                return at;
            }
            return accessFault(how);
        }

        static long accessFault(int how) {
            return how == FETCH ? -2 : how == LOAD ? -6 : -8;
        }

        private static long pageFault(int how) {
            return how == FETCH ? -13 : how == LOAD ? -14 : -16;
        }

        private long translated(int address, int how, int level) {
            long firstAt = ((control.satp & 0x3fffffL) << 12) + ((address >>> 22) << 2);
            if (!Memory.holds(firstAt)) {
                return accessFault(how);
            }
            int first = memory.wordAt((int) firstAt);
            if (!isValid(first)) {
                return pageFault(how);
            }
            if ((first & (R | W | X)) != 0) {
                boolean fits = (first & FIRST_LOW_PART) == 0 && permits(first, how, level);
                return fits ? ((long) (first >>> 20) << 22) + (address & 0x3fffff) : pageFault(how);
            }
            long secondAt = ((long) (first >>> 10) << 12) + ((address >>> 12 & 0x3ff) << 2);
            if (!Memory.holds(secondAt)) {
                return accessFault(how);
            }
            int second = memory.wordAt((int) secondAt);
            if (!isValid(second) || (second & (R | W | X)) == 0 || !permits(second, how, level)) {
                return pageFault(how);
            }
            return ((long) (second >>> 10) << 12) + (address & 0xfff);
        }

        private static boolean isValid(int entry) {
            return (entry & V) != 0 && ((entry & W) == 0 || (entry & R) != 0);
        }

        private boolean permits(int entry, int how, int level) {
            boolean ofUser = (entry & U) != 0;
            boolean reachesUser = level == LEVEL_U || (how != FETCH && (control.sstatus & Control.SUM_BIT) != 0);
            if ((entry & A) == 0 || (ofUser ? !reachesUser : level == LEVEL_U)) {
                return false;
            }
            if (how == FETCH) {
                return (entry & X) != 0;
            }
            if (how == STORE) {
                return (entry & (W | D)) == (W | D);
            }
            boolean readsCode = (control.sstatus & Control.MXR_BIT) != 0;
            return (entry & (readsCode ? R | X : R)) != 0;
        }
    }

    /** The registers and the STEPS. A method that does an instruction tells whether it is RETIRED. */
    private static final class Processor {
        private final Memory memory;
        private final Devices devices;
        private final Control control;
        private final Pages pages;
        private final int[] registers = new int[32];
        private int pc;
        /** Where the next instruction is, if this one retires. */
        private int next;

        Processor(Memory memory, Devices devices, Control control, Pages pages) {
            this.memory = memory;
            this.devices = devices;
            this.control = control;
            this.pages = pages;
        }

        void begin() {
            Arrays.fill(registers, 0);
            pc = 0;
            next = 0;
        }

        int doSteps(int n) {
            int done = 0;
            while (done < n && !devices.halted) {
                int interrupt = control.dueInterrupt();
                if (interrupt != 0) {
                    raise(interrupt, 0);
                } else if (fetchAndPerform()) {
                    pc = next;
                    control.instret++;
                }
                // TIME counts the step only now, for what happens in a step sees the TIME before it.
                devices.time++;
                done++;
            }
            return done;
        }

        private boolean raise(int cause, int value) {
            control.enterTrap(cause, value, pc);
            pc = control.stvec;
            return false;
        }

        private boolean raiseFound(long found, int address) {
            return raise((int) (-1 - found), address);
        }

        private boolean fetchAndPerform() {
            if ((pc & 1) != 0) {
                return raise(ODD_PC, pc);
            }
            long at = pages.find(pc, FETCH, control.level);
            if (at < 0) {
                return raiseFound(at, pc);
            }
            int half = memory.halfAt((int) at);
            if ((half & 3) != 3) {
                next = pc + 2;
                int expanded = Shorts.expand(half);
                return expanded == Shorts.NO_INSTRUCTION ? raise(ILLEGAL, half) : perform(expanded);
            }
            // Within one page both halves are found alike; only behind its last bytes there is anything to look up.
            long behind = (pc & 0xfff) == 0xffe ? pages.find(pc + 2, FETCH, control.level) : at + 2;
            if (behind < 0) {
                return raiseFound(behind, pc + 2);
            }
            next = pc + 4;
            return perform(half | memory.halfAt((int) behind) << 16);
        }

        private void put(int rd, int v) {
            if (rd != 0) {
                registers[rd & 31] = v;
            }
        }

        private int first(int word) {
            return registers[word >>> 15 & 31];
        }

        private int second(int word) {
            return registers[word >>> 20 & 31];
        }

        private static int funct3(int word) {
            return word >>> 12 & 7;
        }

        private boolean perform(int word) {
            int rd = word >>> 7 & 31;
            switch (word & 0x7f) {
                case 0x37:
                    put(rd, word & 0xfffff000);
                    return true;
                case 0x17:
                    put(rd, pc + (word & 0xfffff000));
                    return true;
                case 0x6f:
                    put(rd, next);
                    next = pc + jumpDistance(word);
                    return true;
                case 0x67: return jumpToRegister(word, rd);
                case 0x63: return branch(word);
                case 0x03: return loadFrom(word, rd);
                case 0x23: return storeTo(word);
                case 0x13: return computeWithNumber(word, rd);
                case 0x33: return computeWithRegister(word, rd);
                case 0x2f: return doAtomic(word, rd);
                case 0x0f: return funct3(word) <= 1 || raise(ILLEGAL, word);
                case 0x73: return funct3(word) == 0 ? doSystem(word) : accessCsr(word, rd);
                default: return raise(ILLEGAL, word);
            }
        }

        private static int jumpDistance(int word) {
            return word >> 31 << 20 | (word & 0xff000) | (word >>> 20 & 1) << 11 | (word >>> 21 & 0x3ff) << 1;
        }

        private static int branchDistance(int word) {
            return word >> 31 << 12 | (word >>> 7 & 1) << 11 | (word >>> 25 & 0x3f) << 5 | (word >>> 8 & 15) << 1;
        }

        private boolean jumpToRegister(int word, int rd) {
            if (funct3(word) != 0) {
                return raise(ILLEGAL, word);
            }
            int target = first(word) + (word >> 20) & ~1;
            put(rd, next);
            next = target;
            return true;
        }

        private boolean branch(int word) {
            int a = first(word);
            int b = second(word);
            boolean taken;
            switch (funct3(word)) {
                case 0: taken = a == b; break;
                case 1: taken = a != b; break;
                case 4: taken = a < b; break;
                case 5: taken = a >= b; break;
                case 6: taken = isBelow(a, b); break;
                case 7: taken = !isBelow(a, b); break;
                default: return raise(ILLEGAL, word);
            }
            if (taken) {
                next = pc + branchDistance(word);
            }
            return true;
        }

        private static boolean isBelow(int a, int b) {
            return (a ^ SIGN_32) < (b ^ SIGN_32);
        }

        private boolean loadFrom(int word, int rd) {
            int kind = funct3(word);
            if (kind == 3 || kind > 5) {
                return raise(ILLEGAL, word);
            }
            int address = first(word) + (word >> 20);
            if ((address & ((1 << (kind & 3)) - 1)) != 0) {
                return raise(CROOKED_LOAD, address);
            }
            long found = pages.find(address, LOAD, control.level);
            if (found >= MEMORY_BYTES && kind != 2) {
                found = Pages.accessFault(LOAD);
            }
            if (found < 0) {
                return raiseFound(found, address);
            }
            put(rd, found < MEMORY_BYTES ? loaded((int) found, kind) : devices.readAt((int) found));
            return true;
        }

        private int loaded(int at, int kind) {
            switch (kind) {
                case 0: return (byte) memory.byteAt(at);
                case 1: return (short) memory.halfAt(at);
                case 4: return memory.byteAt(at);
                case 5: return memory.halfAt(at);
                default: return memory.wordAt(at);
            }
        }

        private boolean storeTo(int word) {
            int kind = funct3(word);
            if (kind > 2) {
                return raise(ILLEGAL, word);
            }
            int address = first(word) + (word >> 25 << 5 | (word >>> 7 & 31));
            if ((address & ((1 << kind) - 1)) != 0) {
                return raise(CROOKED_STORE, address);
            }
            long found = pages.find(address, STORE, control.level);
            if (found >= MEMORY_BYTES && kind != 2) {
                found = Pages.accessFault(STORE);
            }
            if (found < 0) {
                return raiseFound(found, address);
            }
            int v = second(word);
            if (found >= MEMORY_BYTES) {
                devices.writeAt((int) found, v);
            } else if (kind == 2) {
                memory.putWord((int) found, v);
            } else if (kind == 1) {
                memory.putHalf((int) found, v);
            } else {
                memory.putByte((int) found, v);
            }
            return true;
        }

        private boolean computeWithNumber(int word, int rd) {
            int kind = funct3(word);
            int funct7 = word >>> 25;
            boolean other = kind == 5 && funct7 == 0x20;
            boolean shifts = kind == 1 || kind == 5;
            if (shifts && funct7 != 0 && !other) {
                return raise(ILLEGAL, word);
            }
            put(rd, computed(kind, other, first(word), word >> 20));
            return true;
        }

        private boolean computeWithRegister(int word, int rd) {
            int kind = funct3(word);
            int a = first(word);
            int b = second(word);
            switch (word >>> 25) {
                case 0:
                    put(rd, computed(kind, false, a, b));
                    return true;
                case 1:
                    put(rd, kind < 4 ? multiplied(kind, a, b) : divided(kind, a, b));
                    return true;
                case 0x20:
                    if (kind != 0 && kind != 5) {
                        return raise(ILLEGAL, word);
                    }
                    put(rd, computed(kind, true, a, b));
                    return true;
                default:
                    return raise(ILLEGAL, word);
            }
        }

        /** With other, kind 0 subtracts and kind 5 keeps the sign. */
        private static int computed(int kind, boolean other, int a, int b) {
            switch (kind) {
                case 0: return other ? a - b : a + b;
                case 1: return a << (b & 31);
                case 2: return a < b ? 1 : 0;
                case 3: return isBelow(a, b) ? 1 : 0;
                case 4: return a ^ b;
                case 5: return other ? a >> (b & 31) : a >>> (b & 31);
                case 6: return a | b;
                default: return a & b;
            }
        }

        private static int multiplied(int kind, int a, int b) {
            switch (kind) {
                case 0: return a * b;
                case 1: return (int) ((long) a * b >> 32);
                case 2: return (int) (a * (b & LOW_32) >> 32);
                default: return (int) ((a & LOW_32) * (b & LOW_32) >>> 32);
            }
        }

        private static int divided(int kind, int a, int b) {
            if (b == 0) {
                return kind < 6 ? -1 : a;
            }
            switch (kind) {
                case 4: return (int) ((long) a / b);
                case 5: return (int) ((a & LOW_32) / (b & LOW_32));
                case 6: return (int) ((long) a % b);
                default: return (int) ((a & LOW_32) % (b & LOW_32));
            }
        }

        private boolean doAtomic(int word, int rd) {
            int kind = word >>> 27;
            boolean reserves = kind == 2;
            if (funct3(word) != 2 || !isAtomic(kind) || (reserves && (word >>> 20 & 31) != 0)) {
                return raise(ILLEGAL, word);
            }
            int address = first(word);
            if ((address & 3) != 0) {
                return raise(reserves ? CROOKED_LOAD : CROOKED_STORE, address);
            }
            int how = reserves ? LOAD : STORE;
            long found = pages.find(address, how, control.level);
            if (found >= MEMORY_BYTES) {
                found = Pages.accessFault(how);
            }
            if (found < 0) {
                return raiseFound(found, address);
            }
            if (kind == 3) {
                storeReserved(found, rd, second(word));
                return true;
            }
            int old = memory.wordAt((int) found);
            if (reserves) {
                control.reservation = found;
            } else {
                memory.putWord((int) found, combined(kind, old, second(word)));
            }
            put(rd, old);
            return true;
        }

        private static boolean isAtomic(int kind) {
            return kind < 4 || (kind & 3) == 0;
        }

        private void storeReserved(long at, int rd, int v) {
            boolean holds = control.reservation == at;
            if (holds) {
                memory.putWord((int) at, v);
            }
            control.reservation = Control.NO_RESERVATION;
            put(rd, holds ? 0 : 1);
        }

        private static int combined(int kind, int old, int v) {
            switch (kind) {
                case 0x00: return old + v;
                case 0x04: return old ^ v;
                case 0x0c: return old & v;
                case 0x08: return old | v;
                case 0x10: return Math.min(old, v);
                case 0x14: return Math.max(old, v);
                case 0x18: return isBelow(old, v) ? old : v;
                case 0x1c: return isBelow(old, v) ? v : old;
                default: return v;
            }
        }

        private boolean doSystem(int word) {
            boolean atS = control.level == LEVEL_S;
            if (word == 0x00000073) {
                return raise(atS ? CALL_FROM_S : CALL_FROM_U, 0);
            }
            if (word == 0x00100073) {
                return raise(BREAKPOINT, pc);
            }
            boolean fencesPages = (word & 0xfe007fff) == 0x12000073;
            boolean returns = word == 0x10200073;
            boolean waits = word == 0x10500073;
            if (!atS || !(fencesPages || returns || waits)) {
                return raise(ILLEGAL, word);
            }
            if (returns) {
                control.leaveTrap();
                next = control.sepc;
            }
            return true;
        }

        private boolean accessCsr(int word, int rd) {
            int number = word >>> 20;
            int field = word >>> 15 & 31;
            int way = funct3(word) & 3;
            boolean writes = way == 1 || field != 0;
            if (way == 0 || !control.permitsCsr(number, writes)) {
                return raise(ILLEGAL, word);
            }
            int v = funct3(word) > 4 ? field : registers[field];
            int old = control.readCsr(number);
            if (writes) {
                control.writeCsr(number, way == 1 ? v : way == 2 ? old | v : old & ~v);
            }
            put(rd, old);
            return true;
        }
    }

    /** What the instructions of 16 bits are as ones of 32 bits. */
    private static final class Shorts {
        private static final int NO_INSTRUCTION = 0;
        private static final int SP = 2;

        static int expand(int half) {
            switch (half & 3) {
                case 0: return expandFirst(half);
                case 1: return expandSecond(half);
                case 2: return expandThird(half);
                default: return NO_INSTRUCTION;
            }
        }

        /** So many bits of the instruction, from one on, as an immediate's bits from another on. */
        private static int part(int half, int from, int bits, int to) {
            return (half >>> from & ((1 << bits) - 1)) << to;
        }

        private static int lowPrime(int half) {
            return 8 + (half >>> 2 & 7);
        }

        private static int highPrime(int half) {
            return 8 + (half >>> 7 & 7);
        }

        private static int sign(int half, int to) {
            return -(half >>> 12 & 1) << to;
        }

        private static int withNumber(int code, int rd, int rs1, int number) {
            return number << 20 | rs1 << 15 | rd << 7 | code;
        }

        private static int withRegister(int code, int rd, int rs1, int rs2) {
            return rs2 << 20 | rs1 << 15 | rd << 7 | code;
        }

        private static int storeWord(int rs2, int rs1, int number) {
            return number >>> 5 << 25 | rs2 << 20 | rs1 << 15 | (number & 31) << 7 | 0x2023;
        }

        private static int expandFirst(int half) {
            int number = part(half, 10, 3, 3) | part(half, 6, 1, 2) | part(half, 5, 1, 6);
            switch (half >>> 13) {
                case 0:
                    int added = part(half, 11, 2, 4) | part(half, 7, 4, 6) | part(half, 6, 1, 2) | part(half, 5, 1, 3);
                    return added == 0 ? NO_INSTRUCTION : withNumber(0x13, lowPrime(half), SP, added);
                case 2: return withNumber(0x2003, lowPrime(half), highPrime(half), number);
                case 6: return storeWord(lowPrime(half), highPrime(half), number);
                default: return NO_INSTRUCTION;
            }
        }

        private static int expandSecond(int half) {
            int rd = half >>> 7 & 31;
            int number = sign(half, 5) | part(half, 2, 5, 0);
            switch (half >>> 13) {
                case 0: return withNumber(0x13, rd, rd, number);
                case 1: return jump(half, 1);
                case 2: return withNumber(0x13, rd, 0, number);
                case 3: return rd == SP ? moveStack(half) : loadUpper(rd, number);
                case 4: return compute(half, number);
                case 5: return jump(half, 0);
                case 6: return branchOnZero(half, 0x63);
                default: return branchOnZero(half, 0x1063);
            }
        }

        private static int jump(int half, int rd) {
            int distance = sign(half, 11) | part(half, 11, 1, 4) | part(half, 9, 2, 8) | part(half, 8, 1, 10)
                | part(half, 7, 1, 6) | part(half, 6, 1, 7) | part(half, 3, 3, 1) | part(half, 2, 1, 5);
            return (distance >>> 20 & 1) << 31 | (distance >>> 1 & 0x3ff) << 21 | (distance >>> 11 & 1) << 20
                | (distance & 0xff000) | rd << 7 | 0x6f;
        }

        private static int moveStack(int half) {
            int number = sign(half, 9) | part(half, 6, 1, 4) | part(half, 5, 1, 6) | part(half, 3, 2, 7)
                | part(half, 2, 1, 5);
            return number == 0 ? NO_INSTRUCTION : withNumber(0x13, SP, SP, number);
        }

        private static int loadUpper(int rd, int number) {
            return number == 0 ? NO_INSTRUCTION : number << 12 | rd << 7 | 0x37;
        }

        private static int compute(int half, int number) {
            int r = highPrime(half);
            int kind = half >>> 10 & 3;
            if (kind == 2) {
                return withNumber(0x7013, r, r, number);
            }
            if ((half & 0x1000) != 0) {
                return NO_INSTRUCTION;
            }
            if (kind < 2) {
                return withNumber(kind == 0 ? 0x5013 : 0x40005013, r, r, number);
            }
            switch (half >>> 5 & 3) {
                case 0: return withRegister(0x40000033, r, r, lowPrime(half));
                case 1: return withRegister(0x4033, r, r, lowPrime(half));
                case 2: return withRegister(0x6033, r, r, lowPrime(half));
                default: return withRegister(0x7033, r, r, lowPrime(half));
            }
        }

        private static int branchOnZero(int half, int code) {
            int distance = sign(half, 8) | part(half, 10, 2, 3) | part(half, 5, 2, 6) | part(half, 3, 2, 1)
                | part(half, 2, 1, 5);
            return (distance >>> 12 & 1) << 31 | (distance >>> 5 & 0x3f) << 25 | (distance >>> 1 & 15) << 8
                | (distance >>> 11 & 1) << 7 | highPrime(half) << 15 | code;
        }

        private static int expandThird(int half) {
            int rd = half >>> 7 & 31;
            int rs2 = half >>> 2 & 31;
            switch (half >>> 13) {
                case 0: return (half & 0x1000) != 0 ? NO_INSTRUCTION : withNumber(0x1013, rd, rd, rs2);
                case 2:
                    int number = part(half, 12, 1, 5) | part(half, 4, 3, 2) | part(half, 2, 2, 6);
                    return rd == 0 ? NO_INSTRUCTION : withNumber(0x2003, rd, SP, number);
                case 4: return (half & 0x1000) == 0 ? jumpOrMove(rd, rs2) : linkOrAdd(rd, rs2);
                case 6: return storeWord(rs2, SP, part(half, 9, 4, 2) | part(half, 7, 2, 6));
                default: return NO_INSTRUCTION;
            }
        }

        private static int jumpOrMove(int rd, int rs2) {
            if (rs2 != 0) {
                return withRegister(0x33, rd, 0, rs2);
            }
            return rd == 0 ? NO_INSTRUCTION : withNumber(0x67, 0, rd, 0);
        }

        private static int linkOrAdd(int rd, int rs2) {
            if (rs2 != 0) {
                return withRegister(0x33, rd, rd, rs2);
            }
            return rd == 0 ? 0x00100073 : withNumber(0x67, 1, rd, 0);
        }
    }

    /**
     * What an instruction has behind its name. The text of places names the instruction's bits, as digits
     * of base 32, that hold the value's bits from the lowest told one up.
     */
    private enum Part {
        RD('d', Part.REGISTER, "789ab", 0, 0, 31),
        RS1('s', Part.REGISTER, "fghij", 0, 0, 31),
        RS2('t', Part.REGISTER, "klmno", 0, 0, 31),
        I_NUMBER('i', Part.NUMBER, "klmnopqrstuv", 0, -2048, 2047),
        S_NUMBER('w', Part.NUMBER, "789abpqrstuv", 0, -2048, 2047),
        SHIFT('h', Part.NUMBER, "klmno", 0, 0, 31),
        U_NUMBER('u', Part.NUMBER, "cdefghijklmnopqrstuv", 0, 0, 1048575),
        CSR_BITS('z', Part.NUMBER, "fghij", 0, 0, 31),
        CSR('c', Part.CSR_NUMBER, "klmnopqrstuv", 0, 0, 4095),
        JUMP('j', Part.TARGET, "lmnopqrstukcdefghijv", 1, -1048576, 1048574),
        BRANCH('b', Part.TARGET, "89abpqrstu7v", 1, -4096, 4094),
        LOW_PRIME('D', Part.REGISTER, "234", 0, 8, 15),
        HIGH_PRIME('S', Part.REGISTER, "789", 0, 8, 15),
        NOT_ZERO('R', Part.REGISTER, "789ab", 0, 1, 31),
        NOT_STACK('L', Part.REGISTER, "789ab", 0, 0, 31),
        LOW_ANY('W', Part.REGISTER, "23456", 0, 0, 31),
        LOW_NOT_ZERO('T', Part.REGISTER, "23456", 0, 1, 31),
        STACK('P', Part.REGISTER, "", 0, 2, 2),
        ADDED_TO_STACK('A', Part.NUMBER, "65bc789a", 2, 4, 1020),
        WORD_OFFSET('M', Part.NUMBER, "6abc5", 2, 0, 124),
        SIX_BITS('N', Part.NUMBER, "23456c", 0, -32, 31),
        SHORT_SHIFT('H', Part.NUMBER, "23456", 0, 0, 31),
        STACK_MOVE('G', Part.NUMBER, "62534c", 4, -512, 496),
        SHORT_UPPER('U', Part.NUMBER, "23456c", 0, 1, 1048575),
        STACK_LOAD('Q', Part.NUMBER, "456c23", 2, 0, 252),
        STACK_STORE('V', Part.NUMBER, "9abc78", 2, 0, 252),
        SHORT_JUMP('J', Part.TARGET, "345b2769a8c", 1, -2048, 2046),
        SHORT_BRANCH('B', Part.TARGET, "34ab256c", 1, -256, 254),
        ANY_WORD('4', Part.NUMBER, "", 0, -2147483648L, 4294967295L),
        ANY_HALF('2', Part.NUMBER, "", 0, -32768, 65535),
        ANY_BYTE('1', Part.NUMBER, "", 0, -128, 255),
        ROOM('0', Part.NUMBER, "", 0, 0, 4096),
        POWER('p', Part.NUMBER, "", 0, 0, 12);

        private static final int REGISTER = 0;
        private static final int NUMBER = 1;
        private static final int CSR_NUMBER = 2;
        private static final int TARGET = 3;

        private final int letter;
        private final int kind;
        private final String places;
        private final int lowest;
        private final long least;
        private final long greatest;

        Part(int letter, int kind, String places, int lowest, long least, long greatest) {
            this.letter = letter;
            this.kind = kind;
            this.places = places;
            this.lowest = lowest;
            this.least = least;
            this.greatest = greatest;
        }

        /** Where in parts the one with this letter is; NONE for a sign that is no part's letter. */
        static int withLetter(Part[] parts, char letter) {
            for (int i = 0; i < parts.length; i++) {
                if (parts[i].letter == letter) {
                    return i;
                }
            }
            return NONE;
        }

        boolean allows(long v) {
            boolean inside = v >= least && v <= greatest && (v & ((1 << lowest) - 1)) == 0;
            return inside && !leavesOut(v);
        }

        private boolean leavesOut(long v) {
            if (this == SHORT_UPPER) {
                return v > 31 && v < 1048544;
            }
            return (this == NOT_STACK && v == 2) || (this == STACK_MOVE && v == 0);
        }

        private int bitAt(int i) {
            char c = places.charAt(i);
            return c <= '9' ? c - '0' : c - 'a' + 10;
        }

        int bitsUsed() {
            int bits = 0;
            for (int i = 0; i < places.length(); i++) {
                bits |= 1 << bitAt(i);
            }
            return bits;
        }

        int bitsFor(long v) {
            int bits = 0;
            for (int i = 0; i < places.length(); i++) {
                bits |= (int) (v >> (lowest + i) & 1) << bitAt(i);
            }
            return bits;
        }

        int valueIn(int bits) {
            int v = 0;
            int top = 0;
            for (int i = 0; i < places.length(); i++) {
                top = bits >>> bitAt(i) & 1;
                v |= top << (lowest + i);
            }
            if (this == LOW_PRIME || this == HIGH_PRIME) {
                return v + 8;
            }
            if (this == STACK) {
                return 2;
            }
            if (top == 1 && (least < 0 || this == SHORT_UPPER)) {
                v -= 1 << (lowest + places.length());
            }
            // A lui's number is told without its sign.
            return this == SHORT_UPPER ? v & 0xfffff : v;
        }
    }

    /** The statements of the text form: name, what is behind it (letters of Part), and the bits that are fixed. */
    private enum Op {
        ADD("add", "d,s,t", 0x00000033, Op.TOLD),
        SUB("sub", "d,s,t", 0x40000033, Op.TOLD),
        SLL("sll", "d,s,t", 0x00001033, Op.TOLD),
        SLT("slt", "d,s,t", 0x00002033, Op.TOLD),
        SLTU("sltu", "d,s,t", 0x00003033, Op.TOLD),
        XOR("xor", "d,s,t", 0x00004033, Op.TOLD),
        SRL("srl", "d,s,t", 0x00005033, Op.TOLD),
        SRA("sra", "d,s,t", 0x40005033, Op.TOLD),
        OR("or", "d,s,t", 0x00006033, Op.TOLD),
        AND("and", "d,s,t", 0x00007033, Op.TOLD),
        MUL("mul", "d,s,t", 0x02000033, Op.TOLD),
        MULH("mulh", "d,s,t", 0x02001033, Op.TOLD),
        MULHSU("mulhsu", "d,s,t", 0x02002033, Op.TOLD),
        MULHU("mulhu", "d,s,t", 0x02003033, Op.TOLD),
        DIV("div", "d,s,t", 0x02004033, Op.TOLD),
        DIVU("divu", "d,s,t", 0x02005033, Op.TOLD),
        REM("rem", "d,s,t", 0x02006033, Op.TOLD),
        REMU("remu", "d,s,t", 0x02007033, Op.TOLD),
        ADDI("addi", "d,s,i", 0x00000013, Op.TOLD),
        SLTI("slti", "d,s,i", 0x00002013, Op.TOLD),
        SLTIU("sltiu", "d,s,i", 0x00003013, Op.TOLD),
        XORI("xori", "d,s,i", 0x00004013, Op.TOLD),
        ORI("ori", "d,s,i", 0x00006013, Op.TOLD),
        ANDI("andi", "d,s,i", 0x00007013, Op.TOLD),
        SLLI("slli", "d,s,h", 0x00001013, Op.TOLD),
        SRLI("srli", "d,s,h", 0x00005013, Op.TOLD),
        SRAI("srai", "d,s,h", 0x40005013, Op.TOLD),
        LB("lb", "d,i(s)", 0x00000003, Op.TOLD),
        LH("lh", "d,i(s)", 0x00001003, Op.TOLD),
        LW("lw", "d,i(s)", 0x00002003, Op.TOLD),
        LBU("lbu", "d,i(s)", 0x00004003, Op.TOLD),
        LHU("lhu", "d,i(s)", 0x00005003, Op.TOLD),
        SB("sb", "t,w(s)", 0x00000023, Op.TOLD),
        SH("sh", "t,w(s)", 0x00001023, Op.TOLD),
        SW("sw", "t,w(s)", 0x00002023, Op.TOLD),
        LUI("lui", "d,u", 0x00000037, Op.TOLD),
        AUIPC("auipc", "d,u", 0x00000017, Op.TOLD),
        JAL("jal", "d,j", 0x0000006f, Op.TOLD),
        JALR("jalr", "d,i(s)", 0x00000067, Op.TOLD),
        BEQ("beq", "s,t,b", 0x00000063, Op.TOLD),
        BNE("bne", "s,t,b", 0x00001063, Op.TOLD),
        BLT("blt", "s,t,b", 0x00004063, Op.TOLD),
        BGE("bge", "s,t,b", 0x00005063, Op.TOLD),
        BLTU("bltu", "s,t,b", 0x00006063, Op.TOLD),
        BGEU("bgeu", "s,t,b", 0x00007063, Op.TOLD),
        LR("lr.w", "d,(s)", 0x1000202f, Op.TOLD),
        SC("sc.w", "d,t,(s)", 0x1800202f, Op.TOLD),
        AMOSWAP("amoswap.w", "d,t,(s)", 0x0800202f, Op.TOLD),
        AMOADD("amoadd.w", "d,t,(s)", 0x0000202f, Op.TOLD),
        AMOXOR("amoxor.w", "d,t,(s)", 0x2000202f, Op.TOLD),
        AMOAND("amoand.w", "d,t,(s)", 0x6000202f, Op.TOLD),
        AMOOR("amoor.w", "d,t,(s)", 0x4000202f, Op.TOLD),
        AMOMIN("amomin.w", "d,t,(s)", 0x8000202f, Op.TOLD),
        AMOMAX("amomax.w", "d,t,(s)", 0xa000202f, Op.TOLD),
        AMOMINU("amominu.w", "d,t,(s)", 0xc000202f, Op.TOLD),
        AMOMAXU("amomaxu.w", "d,t,(s)", 0xe000202f, Op.TOLD),
        FENCE("fence", "", 0x0000000f, Op.TOLD),
        FENCE_I("fence.i", "", 0x0000100f, Op.TOLD),
        ECALL("ecall", "", 0x00000073, Op.TOLD),
        EBREAK("ebreak", "", 0x00100073, Op.TOLD),
        SRET("sret", "", 0x10200073, Op.TOLD),
        WFI("wfi", "", 0x10500073, Op.TOLD),
        SFENCE_VMA("sfence.vma", "s,t", 0x12000073, Op.TOLD),
        CSRRW("csrrw", "d,c,s", 0x00001073, Op.TOLD),
        CSRRS("csrrs", "d,c,s", 0x00002073, Op.TOLD),
        CSRRC("csrrc", "d,c,s", 0x00003073, Op.TOLD),
        CSRRWI("csrrwi", "d,c,z", 0x00005073, Op.TOLD),
        CSRRSI("csrrsi", "d,c,z", 0x00006073, Op.TOLD),
        CSRRCI("csrrci", "d,c,z", 0x00007073, Op.TOLD),
        // c.nop stands ahead of c.addi, whose bits it shares, so that it is the one told.
        C_NOP("c.nop", "", 0x0001, Op.TOLD),
        C_ADDI4SPN("c.addi4spn", "D,A", 0x0000, Op.TOLD),
        C_LW("c.lw", "D,M(S)", 0x4000, Op.TOLD),
        C_SW("c.sw", "D,M(S)", 0xc000, Op.TOLD),
        C_ADDI("c.addi", "d,N", 0x0001, Op.TOLD),
        C_JAL("c.jal", "J", 0x2001, Op.TOLD),
        C_LI("c.li", "d,N", 0x4001, Op.TOLD),
        C_ADDI16SP("c.addi16sp", "G", 0x6101, Op.TOLD),
        C_LUI("c.lui", "L,U", 0x6001, Op.TOLD),
        C_SRLI("c.srli", "S,H", 0x8001, Op.TOLD),
        C_SRAI("c.srai", "S,H", 0x8401, Op.TOLD),
        C_ANDI("c.andi", "S,N", 0x8801, Op.TOLD),
        C_SUB("c.sub", "S,D", 0x8c01, Op.TOLD),
        C_XOR("c.xor", "S,D", 0x8c21, Op.TOLD),
        C_OR("c.or", "S,D", 0x8c41, Op.TOLD),
        C_AND("c.and", "S,D", 0x8c61, Op.TOLD),
        C_J("c.j", "J", 0xa001, Op.TOLD),
        C_BEQZ("c.beqz", "S,B", 0xc001, Op.TOLD),
        C_BNEZ("c.bnez", "S,B", 0xe001, Op.TOLD),
        C_SLLI("c.slli", "d,H", 0x0002, Op.TOLD),
        C_LWSP("c.lwsp", "R,Q(P)", 0x4002, Op.TOLD),
        C_JR("c.jr", "R", 0x8002, Op.TOLD),
        C_MV("c.mv", "d,T", 0x8002, Op.TOLD),
        C_EBREAK("c.ebreak", "", 0x9002, Op.TOLD),
        C_JALR("c.jalr", "R", 0x9002, Op.TOLD),
        C_ADD("c.add", "d,T", 0x9002, Op.TOLD),
        C_SWSP("c.swsp", "W,V(P)", 0xc002, Op.TOLD),
        NOP("nop", "", 0x00000013, Op.UNTOLD),
        MV("mv", "d,s", 0x00000013, Op.UNTOLD),
        J("j", "j", 0x0000006f, Op.UNTOLD),
        RET("ret", "", 0x00008067, Op.UNTOLD),
        LI("li", "d,4", 0, Op.ONE_OR_TWO),
        WORDS(".word", "4", 4, Op.LIST),
        HALVES(".half", "2", 2, Op.LIST),
        BYTES(".byte", "1", 1, Op.LIST),
        SPACE(".space", "0", 0, Op.ZEROS),
        ALIGN(".align", "p", 0, Op.ZEROS_UP);

        private static final int TOLD = 0;
        private static final int UNTOLD = 1;
        private static final int ONE_OR_TWO = 2;
        private static final int LIST = 3;
        private static final int ZEROS = 4;
        private static final int ZEROS_UP = 5;

        private final String text;
        private final String shape;
        private final int bits;
        private final int kind;

        /** A LIST has the bytes of each of its numbers in place of bits. */
        Op(String text, String shape, int bits, int kind) {
            this.text = text;
            this.shape = shape;
            this.bits = bits;
            this.kind = kind;
        }

        int bytesOfInstruction() {
            return (bits & 3) == 3 ? 4 : 2;
        }
    }

    /** THE TAPE, and the tokens that its text has. */
    private static final class Tape {
        private static final int BAD = 0;
        private static final int NAME = 1;
        private static final int NUMBER = 2;
        private static final int COMMA = 3;
        private static final int OPEN = 4;
        private static final int CLOSE = 5;
        private static final int COLON = 6;
        private static final int LINE_END = 7;
        /** NAMES, too, that may also stand where a register or a CSR must be. */
        private static final int REGISTER = 8;
        private static final int CSR = 9;
        private static final int LONGEST_NAME = 20;

        private final byte[] bytes = new byte[MOST_TAPE];
        private int length;
        /** Each token but the last has a byte, so there is one more than there are bytes, at most. */
        private final int[] kinds = new int[MOST_TAPE + 1];
        private final int[] places = new int[MOST_TAPE + 1];
        private final int[] sizes = new int[MOST_TAPE + 1];
        private final long[] values = new long[MOST_TAPE + 1];
        private int tokens;

        void addWord(int v) {
            for (int shift = 24; shift >= 0 && length < MOST_TAPE; shift -= 8) {
                bytes[length] = (byte) (v >>> shift);
                length++;
            }
        }

        private int byteAt(int i) {
            return i >= 0 && i < length && i < MOST_TAPE ? bytes[i] & 0xff : '\n';
        }

        boolean isName(int token) {
            int kind = kindOf(token);
            return kind == NAME || kind == REGISTER || kind == CSR;
        }

        int kindOf(int token) {
            return token >= 0 && token < tokens ? kinds[token] : LINE_END;
        }

        int placeOf(int token) {
            return token >= 0 && token < tokens ? places[token] : length;
        }

        long tokenValue(int token) {
            return token >= 0 && token < tokens ? values[token] : 0;
        }

        void giveValue(int token, long v) {
            if (token >= 0 && token < tokens) {
                values[token] = v;
            }
        }

        private int sizeOf(int token) {
            return token >= 0 && token < tokens ? sizes[token] : 0;
        }

        void split() {
            tokens = 0;
            int i = behindBlanks(0);
            for (int turn = 0; turn < MOST_TAPE && i < length; turn++) {
                i = behindBlanks(addTokenAt(i));
            }
            addToken(LINE_END, length, length);
        }

        private int behindBlanks(int from) {
            int i = from;
            while (i < length && isBlank(byteAt(i))) {
                i++;
            }
            if (byteAt(i) == '#') {
                while (i < length && byteAt(i) != '\n') {
                    i++;
                }
            }
            return i;
        }

        private static boolean isBlank(int b) {
            return b == 9 || b == 13 || b == 32;
        }

        private static boolean isDigit(int b) {
            return b >= '0' && b <= '9';
        }

        private static boolean beginsName(int b) {
            return (b >= 'a' && b <= 'z') || (b >= 'A' && b <= 'Z') || b == '_' || b == '.';
        }

        private int addToken(int kind, int from, int to) {
            if (tokens < kinds.length) {
                kinds[tokens] = kind;
                places[tokens] = from;
                sizes[tokens] = to - from;
                tokens++;
            }
            return to;
        }

        private int addTokenAt(int i) {
            int b = byteAt(i);
            if (beginsName(b)) {
                return addName(i);
            }
            if (isDigit(b) || b == '-') {
                return addNumber(i, b == '-');
            }
            switch (b) {
                case ',': return addToken(COMMA, i, i + 1);
                case '(': return addToken(OPEN, i, i + 1);
                case ')': return addToken(CLOSE, i, i + 1);
                case ':': return addToken(COLON, i, i + 1);
                case '\n': return addToken(LINE_END, i, i + 1);
                default: return addToken(BAD, i, i + 1);
            }
        }

        /** Behind all bytes from there on that a NAME may have. */
        private int behindRun(int from) {
            int i = from;
            while (i < length && (beginsName(byteAt(i)) || isDigit(byteAt(i)))) {
                i++;
            }
            return i;
        }

        private int addName(int at) {
            int to = behindRun(at);
            addToken(to - at > LONGEST_NAME ? BAD : NAME, at, to);
            int token = tokens - 1;
            int register = registerNamed(token);
            int csr = register == NONE ? csrNamed(token) : NONE;
            if (register != NONE) {
                kinds[token] = REGISTER;
                values[token] = register;
            } else if (csr != NONE) {
                kinds[token] = CSR;
                values[token] = csr;
            }
            return to;
        }

        private int addNumber(int at, boolean negative) {
            int from = negative ? at + 1 : at;
            int to = behindRun(from);
            long v = byteAt(from) == '0' && byteAt(from + 1) == 'x' && to > from + 2
                ? numberOf(from + 2, to, 16, 8) : numberOf(from, to, 10, 10);
            addToken(v < 0 ? BAD : NUMBER, at, to);
            giveValue(tokens - 1, negative ? -v : v);
            return to;
        }

        /** -1 for what is no number of so many digits at most. */
        private long numberOf(int from, int to, int base, int most) {
            if (to <= from || to - from > most) {
                return -1;
            }
            long v = 0;
            for (int i = from; i < to; i++) {
                int digit = digitOf(byteAt(i));
                if (digit >= base) {
                    return -1;
                }
                v = v * base + digit;
            }
            return v > LOW_32 ? -1 : v;
        }

        private static int digitOf(int b) {
            if (b >= '0' && b <= '9') {
                return b - '0';
            }
            if (b >= 'a' && b <= 'f') {
                return b - 'a' + 10;
            }
            return b >= 'A' && b <= 'F' ? b - 'A' + 10 : 16;
        }

        boolean spells(int token, String text) {
            if (sizeOf(token) != text.length()) {
                return false;
            }
            int at = placeOf(token);
            for (int i = 0; i < text.length(); i++) {
                if (byteAt(at + i) != text.charAt(i)) {
                    return false;
                }
            }
            return true;
        }

        boolean areSame(int token, int other) {
            if (sizeOf(token) != sizeOf(other)) {
                return false;
            }
            for (int i = 0; i < sizeOf(token); i++) {
                if (byteAt(placeOf(token) + i) != byteAt(placeOf(other) + i)) {
                    return false;
                }
            }
            return true;
        }

        /** NONE for a NAME that is no CSR. */
        private int csrNamed(int token) {
            for (int number : Control.CSRS) {
                if (spells(token, Control.nameOfCsr(number))) {
                    return number;
                }
            }
            return NONE;
        }

        /** NONE for a NAME that is no register. */
        private int registerNamed(int token) {
            int n = numberBehindLetter(token);
            if (n < 0) {
                return registerWithoutNumber(token);
            }
            switch (byteAt(placeOf(token))) {
                case 'x': return n <= 31 ? n : NONE;
                case 't': return n <= 2 ? n + 5 : n <= 6 ? n + 25 : NONE;
                case 's': return n <= 1 ? n + 8 : n <= 11 ? n + 16 : NONE;
                case 'a': return n <= 7 ? n + 10 : NONE;
                default: return NONE;
            }
        }

        private int registerWithoutNumber(int token) {
            if (spells(token, "zero")) {
                return 0;
            }
            if (spells(token, "ra")) {
                return 1;
            }
            if (spells(token, "sp")) {
                return 2;
            }
            if (spells(token, "gp")) {
                return 3;
            }
            return spells(token, "tp") ? 4 : NONE;
        }

        private int numberBehindLetter(int token) {
            int from = placeOf(token) + 1;
            int to = placeOf(token) + sizeOf(token);
            boolean extraZero = to - from == 2 && byteAt(from) == '0';
            return extraZero ? NONE : (int) numberOf(from, to, 10, 2);
        }
    }

    /** From THE TAPE's text to MEMORY, in passes as the document orders the FAULTS. */
    private static final class Assembler {
        private static final int SYNTAX = 3;
        private static final int SECOND_LABEL = 4;
        private static final int RANGE = 5;
        private static final int NO_LABEL = 6;
        private static final int NO_ROOM = 7;
        /** Each statement and operand has a byte of its own and one that parts it from the next. */
        private static final int MOST = MOST_TAPE / 2;

        private final Tape tape;
        private final Memory memory;
        private final Op[] ops;
        private final Part[] parts;
        /** Of each statement: its Op, its name's token, its first operand, its address. */
        private final int[] opOf = new int[MOST];
        private final int[] nameOf = new int[MOST];
        private final int[] firstOf = new int[MOST + 1];
        private final int[] addressOf = new int[MOST + 1];
        private int statements;
        private final int[] partOf = new int[MOST];
        private final int[] tokenOf = new int[MOST];
        private int operands;
        /** Of each label: its token, and the statement behind it. */
        private final int[] labelToken = new int[MOST_LABELS];
        private final int[] labelStatement = new int[MOST_LABELS];
        private int labels;
        private final int[] keptLabels = new int[MOST_LABELS];
        private int keptCount;
        private int cursor;
        private int fault;
        private int faultAt = NONE;

        Assembler(Tape tape, Memory memory, Op[] ops, Part[] parts) {
            this.tape = tape;
            this.memory = memory;
            this.ops = ops;
            this.parts = parts;
        }

        void forgetFault() {
            fault = 0;
            faultAt = NONE;
        }

        int keptLabel(int k) {
            return k >= 0 && k < keptCount && k < MOST_LABELS ? keptLabels[k] : NONE;
        }

        /** Of the tokens of THE TAPE: how many bytes, or less the FAULT. */
        int assembleAt(int address) {
            parse();
            checkRanges();
            layOut(address);
            checkTargets();
            if (fault != 0) {
                return -fault;
            }
            emitAll();
            keepLabels();
            return addressOf[statements] - address;
        }

        private void fail(int what, int token) {
            fault = what;
            faultAt = tape.placeOf(token);
        }

        private void parse() {
            statements = 0;
            operands = 0;
            labels = 0;
            cursor = 0;
            for (int line = 0; line <= MOST_TAPE && cursor < tape.tokens && fault == 0; line++) {
                parseLine();
            }
        }

        private void parseLine() {
            for (int i = 0; i <= MOST_LABELS && fault == 0 && isLabelAhead(); i++) {
                addLabel();
            }
            if (fault == 0 && tape.isName(cursor)) {
                parseStatement();
            }
            expect(Tape.LINE_END);
        }

        private boolean isLabelAhead() {
            return tape.isName(cursor) && tape.kindOf(cursor + 1) == Tape.COLON;
        }

        private void addLabel() {
            if (labels >= MOST_LABELS || labelNamed(cursor) != NONE) {
                fail(SECOND_LABEL, cursor);
                return;
            }
            labelToken[labels] = cursor;
            labelStatement[labels] = statements;
            labels++;
            cursor += 2;
        }

        private int labelNamed(int token) {
            for (int k = 0; k < labels && k < MOST_LABELS; k++) {
                if (tape.areSame(labelToken[k], token)) {
                    return k;
                }
            }
            return NONE;
        }

        private void expect(int kind) {
            if (fault != 0) {
                return;
            }
            if (tape.kindOf(cursor) == kind) {
                cursor++;
            } else {
                fail(SYNTAX, cursor);
            }
        }

        private void parseStatement() {
            int op = opNamed(cursor);
            if (op == NONE || statements >= MOST) {
                fail(SYNTAX, cursor);
                return;
            }
            opOf[statements] = op;
            nameOf[statements] = cursor;
            firstOf[statements] = operands;
            statements++;
            cursor++;
            String shape = ops[op].shape;
            for (int i = 0; i < shape.length() && fault == 0; i++) {
                parsePiece(shape.charAt(i));
            }
            boolean list = ops[op].kind == Op.LIST && !shape.isEmpty();
            for (int i = 0; list && i < MOST && fault == 0 && tape.kindOf(cursor) == Tape.COMMA; i++) {
                cursor++;
                parsePiece(shape.charAt(0));
            }
            firstOf[statements] = operands;
        }

        private int opNamed(int token) {
            for (int i = 0; i < ops.length; i++) {
                if (tape.spells(token, ops[i].text)) {
                    return i;
                }
            }
            return NONE;
        }

        private void parsePiece(char piece) {
            int part = Part.withLetter(parts, piece);
            int token = tape.kindOf(cursor);
            boolean stands = part == NONE ? token == tokenFor(piece) : operands < MOST && fits(parts[part].kind, token);
            if (!stands) {
                fail(SYNTAX, cursor);
                return;
            }
            if (part != NONE) {
                partOf[operands] = part;
                tokenOf[operands] = cursor;
                operands++;
            }
            cursor++;
        }

        private static int tokenFor(char piece) {
            return piece == ',' ? Tape.COMMA : piece == '(' ? Tape.OPEN : Tape.CLOSE;
        }

        private static boolean fits(int kind, int token) {
            switch (kind) {
                case Part.REGISTER:
                    return token == Tape.REGISTER;
                case Part.CSR_NUMBER:
                    return token == Tape.CSR || token == Tape.NUMBER;
                case Part.TARGET:
                    return token == Tape.NAME || token == Tape.REGISTER || token == Tape.CSR || token == Tape.NUMBER;
                default:
                    return token == Tape.NUMBER;
            }
        }

        private void checkRanges() {
            for (int i = 0; i < operands && i < MOST && fault == 0; i++) {
                Part part = parts[partOf[i]];
                if (part.kind != Part.TARGET && !part.allows(tape.tokenValue(tokenOf[i]))) {
                    fail(RANGE, tokenOf[i]);
                }
            }
        }

        private void layOut(int address) {
            addressOf[0] = address;
            for (int s = 0; s < statements && s < MOST && fault == 0; s++) {
                int behind = addressOf[s] + bytesOf(s);
                addressOf[s + 1] = behind;
                if (behind > MEMORY_BYTES) {
                    fail(NO_ROOM, nameOf[s]);
                }
            }
        }

        private int bytesOf(int s) {
            Op op = ops[opOf[s]];
            switch (op.kind) {
                case Op.ONE_OR_TWO: return isOneInstruction((int) operandValue(firstOf[s] + 1)) ? 4 : 8;
                case Op.LIST: return op.bits * (firstOf[s + 1] - firstOf[s]);
                case Op.ZEROS: return (int) operandValue(firstOf[s]);
                case Op.ZEROS_UP: return -addressOf[s] & ((1 << (int) operandValue(firstOf[s])) - 1);
                default: return op.bytesOfInstruction();
            }
        }

        private long operandValue(int operand) {
            return operand >= 0 && operand < operands && operand < MOST ? tape.tokenValue(tokenOf[operand]) : 0;
        }

        private static boolean isSmall(int v) {
            return v >= -2048 && v <= 2047;
        }

        private static boolean isOneInstruction(int v) {
            return isSmall(v) || (v & 0xfff) == 0;
        }

        private void checkTargets() {
            for (int s = 0; s < statements && s < MOST && fault == 0; s++) {
                for (int i = firstOf[s]; i < firstOf[s + 1] && i < MOST && fault == 0; i++) {
                    if (parts[partOf[i]].kind == Part.TARGET) {
                        checkTarget(tokenOf[i], parts[partOf[i]], addressOf[s]);
                    }
                }
            }
        }

        private void checkTarget(int token, Part part, int address) {
            if (tape.isName(token)) {
                int k = labelNamed(token);
                if (k == NONE) {
                    fail(NO_LABEL, token);
                    return;
                }
                tape.giveValue(token, addressOf[labelStatement[k]] - address);
            }
            if (!part.allows(tape.tokenValue(token))) {
                fail(RANGE, token);
            }
        }

        private void emitAll() {
            for (int s = 0; s < statements && s < MOST; s++) {
                Op op = ops[opOf[s]];
                switch (op.kind) {
                    case Op.ONE_OR_TWO:
                        emitNumber(addressOf[s], (int) operandValue(firstOf[s]), (int) operandValue(firstOf[s] + 1));
                        break;
                    case Op.LIST:
                        emitList(s, op.bits);
                        break;
                    case Op.ZEROS:
                    case Op.ZEROS_UP:
                        emitZeros(addressOf[s], addressOf[s + 1]);
                        break;
                    default:
                        emit(addressOf[s], instruction(s, op), op.bytesOfInstruction());
                        break;
                }
            }
        }

        private int instruction(int s, Op op) {
            int bits = op.bits;
            for (int i = firstOf[s]; i < firstOf[s + 1] && i < MOST; i++) {
                bits |= parts[partOf[i]].bitsFor(tape.tokenValue(tokenOf[i]));
            }
            return bits;
        }

        /** addi adds with sign, so lui's number is one higher when addi's is negative. */
        private void emitNumber(int at, int rd, int v) {
            if (isSmall(v)) {
                emit(at, v << 20 | rd << 7 | 0x13, 4);
                return;
            }
            emit(at, (v + 0x800 & 0xfffff000) | rd << 7 | 0x37, 4);
            if (!isOneInstruction(v)) {
                emit(at + 4, v << 20 | rd << 15 | rd << 7 | 0x13, 4);
            }
        }

        private void emitList(int s, int bytes) {
            int at = addressOf[s];
            for (int i = firstOf[s]; i < firstOf[s + 1]; i++) {
                emit(at, (int) operandValue(i), bytes);
                at += bytes;
            }
        }

        private void emitZeros(int from, int to) {
            for (int at = from; at < to; at++) {
                memory.putByte(at, 0);
            }
        }

        /** Byte by byte, for behind a .byte an instruction may lie at an odd address. */
        private void emit(int at, int v, int bytes) {
            for (int i = 0; i < bytes; i++) {
                memory.putByte(at + i, v >>> 8 * i);
            }
        }

        private void keepLabels() {
            keptCount = labels;
            for (int k = 0; k < labels && k < MOST_LABELS; k++) {
                keptLabels[k] = addressOf[labelStatement[k]];
            }
        }
    }

    /** From MEMORY to the text of a statement. */
    private static final class Teller {
        private static final String DIGITS = "0123456789abcdef";

        private final Memory memory;
        private final Op[] ops;
        private final Part[] parts;
        /** Of each Op, the bits that must be as its own: those that nothing behind its name has. */
        private final int[] fixedBits;
        private final StringBuilder text = new StringBuilder();

        Teller(Memory memory, Op[] ops, Part[] parts) {
            this.memory = memory;
            this.ops = ops;
            this.parts = parts;
            fixedBits = new int[ops.length];
            for (int i = 0; i < ops.length; i++) {
                fixedBits[i] = ~bitsBehindName(ops[i]);
            }
        }

        int textAt(int i) {
            return i >= 0 && i < text.length() ? text.charAt(i) : NONE;
        }

        /** How many bytes the instruction has; NONE when not all of it lies in MEMORY. */
        int describe(int address) {
            int half = memory.halfAt(address);
            if ((half & 3) != 3) {
                tellBits(half, ".half 0x", 4);
                return 2;
            }
            if (!Memory.holds(address + 2)) {
                return NONE;
            }
            tellBits(half | memory.halfAt(address + 2) << 16, ".word 0x", 8);
            return 4;
        }

        private int bitsBehindName(Op op) {
            int bits = 0;
            for (int i = 0; i < op.shape.length(); i++) {
                int part = Part.withLetter(parts, op.shape.charAt(i));
                bits |= part == NONE ? 0 : parts[part].bitsUsed();
            }
            return bits;
        }

        private void tellBits(int bits, String asData, int digits) {
            text.setLength(0);
            for (int i = 0; i < ops.length; i++) {
                if (ops[i].kind == Op.TOLD && (bits & fixedBits[i]) == ops[i].bits && allowsAll(ops[i], bits)) {
                    tellStatement(ops[i], bits);
                    return;
                }
            }
            text.append(asData);
            for (int i = digits - 1; i >= 0; i--) {
                text.append(DIGITS.charAt(bits >>> 4 * i & 15));
            }
        }

        private boolean allowsAll(Op op, int bits) {
            for (int i = 0; i < op.shape.length(); i++) {
                int part = Part.withLetter(parts, op.shape.charAt(i));
                if (part != NONE && !parts[part].allows(parts[part].valueIn(bits))) {
                    return false;
                }
            }
            return true;
        }

        private void tellStatement(Op op, int bits) {
            text.append(op.text);
            if (!op.shape.isEmpty()) {
                text.append(' ');
            }
            for (int i = 0; i < op.shape.length(); i++) {
                char piece = op.shape.charAt(i);
                int part = Part.withLetter(parts, piece);
                if (part != NONE) {
                    tellPart(parts[part].kind, parts[part].valueIn(bits));
                } else if (piece == ',') {
                    text.append(", ");
                } else {
                    text.append(piece);
                }
            }
        }

        private void tellPart(int kind, int v) {
            String csrName = kind == Part.CSR_NUMBER ? Control.nameOfCsr(v) : "";
            if (!csrName.isEmpty()) {
                text.append(csrName);
                return;
            }
            if (kind == Part.REGISTER) {
                text.append('x');
            }
            text.append(v);
        }
    }
}
