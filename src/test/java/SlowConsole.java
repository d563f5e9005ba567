import java.util.ArrayDeque;
import java.util.ArrayList;
import java.util.Deque;
import java.util.List;

/**
 * A second build of the document, for comparison: time goes on cycle by cycle and dot by dot, banks are worked out at
 * each use, and opcodes are told apart by their bits. It is written for plainness, not for LANGUAGE.md.
 */
final class SlowConsole {
    private static final int[] TABLE = {
        10, 254, 20, 2, 40, 4, 80, 6, 160, 8, 60, 10, 14, 12, 26, 14,
        12, 16, 24, 18, 48, 20, 96, 22, 192, 24, 72, 26, 16, 28, 32, 30
    };

    private final boolean mmc3;
    private final byte[][] romBanks = new byte[8][64];
    private final byte[][] chrBanks = new byte[8][16];
    private final byte[] ram = new byte[2048];
    private final byte[] workRam = new byte[256];
    private long cycles;

    private int a;
    private int x;
    private int y;
    private int s;
    private int pc;
    private boolean carry;
    private boolean zero;
    private boolean noIrq;
    private boolean decimal;
    private boolean overflow;
    private boolean negative;
    private boolean nmi;

    private int ctrl;
    private int mask;
    private boolean vblank;
    private int oamAt;
    private final byte[] oam = new byte[256];
    private int v;
    private int t;
    private int fineX;
    private boolean secondWrite;
    private int buffer;
    private final byte[][] tables = new byte[2][1024];
    private final byte[] palette = new byte[32];
    private int line;
    private int dot;

    private final List<Integer> shifted = new ArrayList<>();
    private int control = 3 << 2;
    private int chr0;
    private int chr1;
    private int prg;
    private final int[] r = new int[8];
    private int select;
    private int mirrorBit;
    private int latch;
    private int counter;
    private boolean irqsOn;
    private boolean cartridgeIrq;

    private final int[] lengths = new int[4];
    private final boolean[] halt = new boolean[4];
    private final boolean[] enabled = new boolean[4];
    private boolean longFrame;
    private boolean quiet;
    private boolean frameIrq;
    private int frame;

    private boolean strobe;
    private final int[] buttons = new int[2];
    private final List<Deque<Integer>> taken = List.of(new ArrayDeque<>(), new ArrayDeque<>());

    private int dmaCycles;
    private int extra;

    SlowConsole(int kind) {
        mmc3 = kind % 2 != 0;
    }

    void rom(int at, int value) {
        if (at != (at & 511)) {
            throw new IllegalArgumentException();
        }
        romBanks[at / 64][at % 64] = (byte) value;
    }

    void chr(int at, int value) {
        if (at != (at & 127)) {
            throw new IllegalArgumentException();
        }
        chrBanks[at / 16][at % 16] = (byte) value;
    }

    void reset() {
        s = s - 3 & 255;
        noIrq = true;
        pc = read(0xFFFC) + 256 * read(0xFFFD);
        ctrl = 0;
        mask = 0;
        secondWrite = false;
        nmi = false;
        for (int i = 0; i < 4; i++) {
            lengths[i] = 0;
            enabled[i] = false;
        }
        frameIrq = false;
        shifted.clear();
    }

    int run(int steps) {
        if (steps < 0 || steps > 200) {
            return -1;
        }
        int sum = 0;
        for (int i = 0; i < steps; i++) {
            sum += step();
        }
        return sum;
    }

    boolean pass(int count) {
        if (count < 0 || count > 30000) {
            return false;
        }
        for (int i = 0; i < count; i++) {
            cycle();
        }
        return true;
    }

    private void cycle() {
        cycles++;
        for (int i = 0; i < 3; i++) {
            nextDot();
        }
        frame++;
        int end = longFrame ? 37281 : 29829;
        if (frame == 14913 || frame == end) {
            count();
        }
        if (frame == end && !longFrame && !quiet) {
            frameIrq = true;
        }
        if (frame == end + 1) {
            frame = 0;
        }
    }

    private void nextDot() {
        dot++;
        if (dot > 340) {
            dot = 0;
            line++;
        }
        if (line > 261) {
            line = 0;
        }
        if (dot == 1 && line == 241) {
            vblank = true;
            nmi |= (ctrl & 128) > 0;
        }
        if (dot == 1 && line == 261) {
            vblank = false;
        }
        if (dot == 260 && (line <= 239 || line == 261) && (mask & (8 + 16)) > 0 && mmc3) {
            if (counter == 0) {
                counter = latch;
            } else {
                counter--;
            }
            cartridgeIrq |= counter == 0 && irqsOn;
        }
    }

    private void count() {
        for (int i = 0; i < 4; i++) {
            if (lengths[i] > 0 && !halt[i]) {
                lengths[i]--;
            }
        }
    }

    int read(int anyAddress) {
        int address = anyAddress & 0xFFFF;
        if (address >= 0x8000) {
            return romBanks[romBank((address - 0x8000) / 8192)][address % 64] & 255;
        }
        if (address >= 0x6000) {
            return workRam[address % 256] & 255;
        }
        if (address == 0x4015) {
            int answer = frameIrq ? 64 : 0;
            frameIrq = false;
            for (int i = 0; i < 4; i++) {
                answer += lengths[i] > 0 ? 1 << i : 0;
            }
            return answer;
        }
        if (address == 0x4016 || address == 0x4017) {
            int pad = address - 0x4016;
            if (strobe) {
                return buttons[pad] % 2;
            }
            return taken.get(pad).isEmpty() ? 1 : taken.get(pad).removeFirst();
        }
        if (address >= 0x4000) {
            return 0;
        }
        return address < 0x2000 ? ram[address % 2048] & 255 : readPicture(address % 8);
    }

    private int readPicture(int register) {
        if (register == 2) {
            int answer = vblank ? 128 : 0;
            vblank = false;
            secondWrite = false;
            return answer;
        }
        if (register == 4) {
            return oam[oamAt] & 255;
        }
        if (register != 7) {
            return 0;
        }
        int answer = buffer;
        int place = v % 0x4000;
        buffer = memory(place);
        if (place >= 0x3F00) {
            answer = buffer;
            buffer = tables[half(place)][place % 1024] & 255;
        }
        stepV();
        return answer;
    }

    private void stepV() {
        v = (v + ((ctrl & 4) > 0 ? 32 : 1)) % 0x8000;
    }

    void write(int address, int value) {
        dmaCycles = 0;
        store(address & 0xFFFF, value & 255);
        pass(dmaCycles);
    }

    private void store(int address, int value) {
        if (address >= 0x8000) {
            if (mmc3) {
                storeMmc3(address, value);
            } else {
                storeMmc1(address, value);
            }
        } else if (address >= 0x6000) {
            workRam[address % 256] = (byte) value;
        } else if (address < 0x2000) {
            ram[address % 2048] = (byte) value;
        } else if (address < 0x4000) {
            storePicture(address % 8, value);
        } else if (address == 0x4014) {
            for (int i = 0; i < 256; i++) {
                storePicture(4, read(value * 256 + i));
            }
            dmaCycles = cycles % 2 == 1 ? 514 : 513;
        } else if (address == 0x4016) {
            storeStrobe(value % 2 == 1);
        } else {
            storeSound(address, value);
        }
    }

    private void storeStrobe(boolean on) {
        if (strobe && !on) {
            for (int pad = 0; pad < 2; pad++) {
                taken.get(pad).clear();
                for (int bit = 0; bit < 8; bit++) {
                    taken.get(pad).addLast(buttons[pad] >> bit & 1);
                }
            }
        }
        strobe = on;
    }

    private void storeSound(int address, int value) {
        if (address == 0x4015) {
            for (int i = 0; i < 4; i++) {
                enabled[i] = (value & 1 << i) > 0;
                lengths[i] = enabled[i] ? lengths[i] : 0;
            }
        } else if (address == 0x4017) {
            longFrame = value >= 128;
            quiet = (value & 64) > 0;
            frameIrq &= !quiet;
            frame = 0;
            if (longFrame) {
                count();
            }
        } else if (address < 0x4010) {
            int channel = (address - 0x4000) / 4;
            if (address % 4 == 0) {
                halt[channel] = (value & (channel == 2 ? 128 : 32)) > 0;
            } else if (address % 4 == 3 && enabled[channel]) {
                lengths[channel] = TABLE[value / 8];
            }
        }
    }

    private void storePicture(int register, int value) {
        if (register == 0) {
            nmi |= vblank && ctrl < 128 && value >= 128;
            ctrl = value;
            t = (t & 0b111_0011_1111_1111) + value % 4 * 1024;
        } else if (register == 1) {
            mask = value;
        } else if (register == 3) {
            oamAt = value;
        } else if (register == 4) {
            oam[oamAt] = (byte) value;
            oamAt = (oamAt + 1) % 256;
        } else if (register == 5 && !secondWrite) {
            t = (t & 0b111_1111_1110_0000) + value / 8;
            fineX = value % 8;
        } else if (register == 5) {
            t = (t & 0b000_1100_0001_1111) + value % 8 * 4096 + value / 8 * 32;
        } else if (register == 6 && !secondWrite) {
            t = t % 256 + value % 64 * 256;
        } else if (register == 6) {
            t = t / 256 * 256 + value;
            v = t;
        } else if (register == 7) {
            int place = v % 0x4000;
            if (place >= 0x3F00) {
                palette[colour(place)] = (byte) value;
            } else if (place >= 0x2000) {
                tables[half(place)][place % 1024] = (byte) value;
            }
            stepV();
        }
        if (register == 5 || register == 6) {
            secondWrite = !secondWrite;
        }
    }

    private static int colour(int place) {
        int colour = place % 32;
        return colour >= 16 && colour % 4 == 0 ? colour - 16 : colour;
    }

    private int half(int place) {
        int table = place / 1024 % 4;
        switch (mirroring()) {
            case 0: return 0;
            case 1: return 1;
            case 2: return table % 2;
            default: return table / 2;
        }
    }

    private int mirroring() {
        return mmc3 ? 2 + mirrorBit : control % 4;
    }

    int memory(int anyAddress) {
        int address = anyAddress & 0x3FFF;
        if (address < 0x2000) {
            return chrBanks[chrBank(address / 1024)][address % 16] & 255;
        }
        return (address < 0x3F00 ? tables[half(address)][address % 1024] : palette[colour(address)]) & 255;
    }

    private void storeMmc1(int address, int value) {
        if (value >= 128) {
            shifted.clear();
            control |= 12;
            return;
        }
        shifted.add(value % 2);
        if (shifted.size() < 5) {
            return;
        }
        int bits = 0;
        for (int i = 4; i >= 0; i--) {
            bits = bits * 2 + shifted.get(i);
        }
        shifted.clear();
        if (address < 0xA000) {
            control = bits;
        } else if (address < 0xC000) {
            chr0 = bits;
        } else if (address < 0xE000) {
            chr1 = bits;
        } else {
            prg = bits;
        }
    }

    private void storeMmc3(int address, int value) {
        boolean odd = address % 2 == 1;
        if (address < 0xA000) {
            if (odd) {
                r[select % 8] = value;
            } else {
                select = value;
            }
        } else if (address < 0xC000) {
            mirrorBit = odd ? mirrorBit : value % 2;
        } else if (address < 0xE000) {
            latch = odd ? latch : value;
            counter = odd ? 0 : counter;
        } else {
            irqsOn = odd;
            cartridgeIrq &= odd;
        }
    }

    private int romBank(int slot) {
        if (mmc3) {
            boolean swapped = (select & 64) > 0;
            int[] slots = swapped ? new int[] {6, r[7], r[6], 7} : new int[] {r[6], r[7], 6, 7};
            return slots[slot] % 8;
        }
        int pair = prg % 4 * 2;
        switch (control / 4 % 4) {
            case 2: return slot < 2 ? slot : pair + slot - 2;
            case 3: return slot < 2 ? pair + slot : slot + 4;
            default: return prg / 2 % 2 * 4 + slot;
        }
    }

    private int chrBank(int slot) {
        if (mmc3) {
            int turned = (select & 128) > 0 ? (slot + 4) % 8 : slot;
            return (turned < 4 ? r[turned / 2] / 2 * 2 + turned % 2 : r[turned - 2]) % 8;
        }
        if (control < 16) {
            return slot;
        }
        return (slot < 4 ? chr0 % 2 : chr1 % 2) * 4 + slot % 4;
    }

    void pad(int pad, int value) {
        if (pad != 0 && pad != 1) {
            throw new IndexOutOfBoundsException();
        }
        buttons[pad] = value & 255;
    }

    int core(int what) {
        return pick(what, a, x, y, s, flags(false), pc, (int) (cycles % 65536), nmi ? 1 : 0,
            (frameIrq ? 1 : 0) + (cartridgeIrq ? 2 : 0));
    }

    int picture(int what) {
        return pick(what, v, t, fineX, secondWrite ? 1 : 0, ctrl, mask, vblank ? 1 : 0, oamAt, line, dot, buffer);
    }

    int oam(int at) {
        if (at < 0 || at > 255) {
            throw new IndexOutOfBoundsException();
        }
        return oam[at] & 255;
    }

    int cartridge(int what) {
        return pick(what, romBank(0), romBank(1), romBank(2), romBank(3), chrBank(0), chrBank(1), chrBank(2),
            chrBank(3), chrBank(4), chrBank(5), chrBank(6), chrBank(7), mirroring(), counter);
    }

    int sound(int what) {
        return pick(what, lengths[0], lengths[1], lengths[2], lengths[3], frame);
    }

    private static int pick(int what, int... values) {
        if (what < 0 || what >= values.length) {
            throw new IndexOutOfBoundsException();
        }
        return values[what];
    }

    int step() {
        dmaCycles = 0;
        extra = 0;
        int count;
        if (nmi) {
            nmi = false;
            count = interrupt(0xFFFA, pc, false);
        } else if ((frameIrq || cartridgeIrq) && !noIrq) {
            count = interrupt(0xFFFE, pc, false);
        } else {
            count = instruction() + extra + dmaCycles;
        }
        pass(count);
        return count;
    }

    private int interrupt(int vector, int back, boolean brk) {
        push(back / 256 % 256);
        push(back % 256);
        push(flags(brk));
        noIrq = true;
        pc = read(vector) + 256 * read(vector + 1);
        return 7;
    }

    private int flags(boolean pushed) {
        return (carry ? 1 : 0) + (zero ? 2 : 0) + (noIrq ? 4 : 0) + (decimal ? 8 : 0) + (pushed ? 16 : 0) + 32
            + (overflow ? 64 : 0) + (negative ? 128 : 0);
    }

    private void setFlags(int value) {
        carry = (value & 1) > 0;
        zero = (value & 2) > 0;
        noIrq = (value & 4) > 0;
        decimal = (value & 8) > 0;
        overflow = (value & 64) > 0;
        negative = (value & 128) > 0;
    }

    private void push(int value) {
        store(256 + s, value);
        s = (s + 255) % 256;
    }

    private int pull() {
        s = (s + 1) % 256;
        return read(256 + s);
    }

    private int next() {
        int value = read(pc);
        pc = (pc + 1) % 65536;
        return value;
    }

    private int nextWord() {
        int low = next();
        return low + 256 * next();
    }

    private int see(int value) {
        int result = value & 255;
        zero = result == 0;
        negative = result >= 128;
        return result;
    }

    private int instruction() {
        int start = pc;
        int opcode = next();
        int plain = withoutOperand(opcode);
        if (plain > 0) {
            return plain;
        }
        if (opcode % 32 == 16) {
            return branch(opcode);
        }
        int jump = jump(opcode);
        if (jump > 0) {
            return jump;
        }
        int group = opcode % 4;
        int row = opcode / 32;
        int column = opcode / 4 % 8;
        if (group == 1 && opcode != 0x89) {
            return accumulator(row, column);
        }
        if (group == 2 && isChange(row, column)) {
            return change(row, column);
        }
        if (group == 2 && (row == 4 || row == 5) && isIndexMove(row, column)) {
            return indexMove(row == 4, false, column);
        }
        if (group == 0 && (row == 4 || row == 5) && isIndexMove(row, column)) {
            return indexMove(row == 4, true, column);
        }
        if (group == 0 && row >= 6 && (column == 0 || column == 1 || column == 3)) {
            int[] cost = {2, 3, 0, 4};
            compare(row == 6 ? y : x, column == 0 ? next() : read(column == 1 ? next() : nextWord()));
            return cost[column];
        }
        if (opcode == 0x24 || opcode == 0x2C) {
            int value = read(opcode == 0x24 ? next() : nextWord());
            zero = (a & value) == 0;
            overflow = (value & 64) > 0;
            negative = (value & 128) > 0;
            return opcode == 0x24 ? 3 : 4;
        }
        pc = start;
        return 2;
    }

    private int withoutOperand(int opcode) {
        switch (opcode) {
            case 0x08: push(flags(true)); return 3;
            case 0x28: setFlags(pull()); return 4;
            case 0x48: push(a); return 3;
            case 0x68: a = see(pull()); return 4;
            case 0x18: carry = false; return 2;
            case 0x38: carry = true; return 2;
            case 0x58: noIrq = false; return 2;
            case 0x78: noIrq = true; return 2;
            case 0xB8: overflow = false; return 2;
            case 0xD8: decimal = false; return 2;
            case 0xF8: decimal = true; return 2;
            case 0x88: y = see(y + 255); return 2;
            case 0xC8: y = see(y + 1); return 2;
            case 0xCA: x = see(x + 255); return 2;
            case 0xE8: x = see(x + 1); return 2;
            case 0x8A: a = see(x); return 2;
            case 0x98: a = see(y); return 2;
            case 0xA8: y = see(a); return 2;
            case 0xAA: x = see(a); return 2;
            case 0xBA: x = see(s); return 2;
            case 0x9A: s = x; return 2;
            case 0xEA: return 2;
            default: return 0;
        }
    }

    private int branch(int opcode) {
        boolean[] tested = {negative, overflow, carry, zero};
        boolean wanted = opcode / 32 % 2 == 1;
        int distance = next();
        if (tested[opcode / 64] != wanted) {
            return 2;
        }
        int from = pc;
        pc = pc + (distance < 128 ? distance : distance - 256) & 0xFFFF;
        return from / 256 == pc / 256 ? 3 : 4;
    }

    private int jump(int opcode) {
        if (opcode == 0x00) {
            return interrupt(0xFFFE, (pc + 1) % 65536, true);
        } else if (opcode == 0x20) {
            int target = nextWord();
            int back = (pc + 65535) % 65536;
            push(back / 256);
            push(back % 256);
            pc = target;
            return 6;
        } else if (opcode == 0x40) {
            setFlags(pull());
            pc = pull();
            pc += 256 * pull();
            return 6;
        } else if (opcode == 0x60) {
            pc = pull();
            pc += 256 * pull();
            pc = (pc + 1) % 65536;
            return 6;
        } else if (opcode == 0x4C) {
            pc = nextWord();
            return 3;
        } else if (opcode == 0x6C) {
            pc = pointer(nextWord());
            return 5;
        }
        return 0;
    }

    private int pointer(int at) {
        int low = read(at);
        return low + 256 * read(at / 256 * 256 + (at + 1) % 256);
    }

    private int plus(int base, int index, boolean counts) {
        int sum = (base + index) % 65536;
        if (counts && base / 256 != sum / 256) {
            extra = 1;
        }
        return sum;
    }

    private int accumulator(int row, int column) {
        boolean reads = row != 4;
        if (column == 2) {
            combine(row, next());
            return 2;
        }
        int[] cost = {6, 3, 0, 4, reads ? 5 : 6, 4, reads ? 4 : 5, reads ? 4 : 5};
        int address;
        switch (column) {
            case 0: address = pointer((next() + x) % 256); break;
            case 1: address = next(); break;
            case 3: address = nextWord(); break;
            case 4: address = plus(pointer(next()), y, reads); break;
            case 5: address = (next() + x) % 256; break;
            case 6: address = plus(nextWord(), y, reads); break;
            default: address = plus(nextWord(), x, reads); break;
        }
        if (reads) {
            combine(row, read(address));
        } else {
            store(address, a);
        }
        return cost[column];
    }

    private void combine(int row, int value) {
        switch (row) {
            case 0: a = see(a | value); break;
            case 1: a = see(a & value); break;
            case 2: a = see(a ^ value); break;
            case 3: add(value); break;
            case 5: a = see(value); break;
            case 6: compare(a, value); break;
            default: add(255 - value); break;
        }
    }

    private void add(int value) {
        int in = carry ? 1 : 0;
        int signed = (byte) a + (byte) value + in;
        overflow = signed < -128 || signed > 127;
        carry = a + value + in >= 256;
        a = see(a + value + in);
    }

    private void compare(int register, int value) {
        carry = register >= value;
        see(register + 256 - value);
    }

    private static boolean isChange(int row, int column) {
        if (row == 4 || row == 5) {
            return false;
        }
        return column == 1 || column == 3 || column == 5 || column == 7 || column == 2 && row < 4;
    }

    private int change(int row, int column) {
        if (column == 2) {
            a = changed(row, a);
            return 2;
        }
        int address = column == 1 ? next() : column == 3 ? nextWord() : column == 5 ? (next() + x) % 256
            : plus(nextWord(), x, false);
        store(address, changed(row, read(address)));
        return column == 1 ? 5 : column == 7 ? 7 : 6;
    }

    private int changed(int row, int value) {
        int in = carry ? 1 : 0;
        switch (row) {
            case 0: carry = value >= 128; return see(value * 2);
            case 1: carry = value >= 128; return see(value * 2 + in);
            case 2: carry = value % 2 == 1; return see(value / 2);
            case 3: carry = value % 2 == 1; return see(value / 2 + 128 * in);
            case 6: return see(value + 255);
            default: return see(value + 1);
        }
    }

    private static boolean isIndexMove(int row, int column) {
        return column == 1 || column == 3 || column == 5 || row == 5 && (column == 0 || column == 7);
    }

    /** LDX, LDY, STX and STY. */
    private int indexMove(boolean stores, boolean isY, int column) {
        int other = isY ? x : y;
        int[] cost = {2, 3, 0, 4, 0, 4, 0, 4};
        int address = -1;
        if (column == 1) {
            address = next();
        } else if (column == 3) {
            address = nextWord();
        } else if (column == 5) {
            address = (next() + other) % 256;
        } else if (column == 7) {
            address = plus(nextWord(), other, true);
        }
        if (stores) {
            store(address, isY ? y : x);
        } else {
            int value = see(address < 0 ? next() : read(address));
            x = isY ? x : value;
            y = isY ? value : y;
        }
        return cost[column];
    }
}
