/** A game console of the 1980s. The project's document says, promise by promise, what each call does. */
public final class GameConsole {
    private static final int MOST_STEPS = 200;
    private static final int MOST_CYCLES = 30000;
    private static final int ROM_SIZE = 512;
    private static final int CHR_SIZE = 128;
    private static final int OAM_SIZE = 256;

    private final Cartridge cartridge;
    private final PictureUnit picture;
    private final SoundUnit sound;
    private final Pads pads;
    private final Bus bus;
    private final Core core;
    /** Kept modulo 65536, which is even: whether the full number is odd can still be told. */
    private int elapsed;

    public GameConsole(int kind) {
        if ((kind & 1) == 1) {
            cartridge = new Mmc3();
        } else {
            cartridge = new Mmc1();
        }
        picture = new PictureUnit(cartridge);
        sound = new SoundUnit();
        pads = new Pads();
        bus = new Bus(picture, sound, pads, cartridge);
        core = new Core(bus);
    }

    public void rom(int at, int value) throws IllegalArgumentException {
        if (at < 0 || at >= ROM_SIZE) {
            throw new IllegalArgumentException("rom: 0 .. 511");
        }
        cartridge.rom[at] = value & 0xFF;
    }

    public void chr(int at, int value) throws IllegalArgumentException {
        if (at < 0 || at >= CHR_SIZE) {
            throw new IllegalArgumentException("chr: 0 .. 127");
        }
        cartridge.chr[at] = value & 0xFF;
    }

    public void reset() {
        cartridge.forgetShifted();
        picture.restart();
        sound.restart();
        core.restart();
    }

    public int step() {
        return settle(core.takeStep(picture.takeNmi(), irqLines() != 0));
    }

    public int run(int steps) {
        if (steps < 0 || steps > MOST_STEPS) {
            return -1;
        }
        int cycles = 0;
        // Written out as in step(), because a call of it would make the calls nine deep.
        for (int done = 0; done < steps; done++) {
            cycles += settle(core.takeStep(picture.takeNmi(), irqLines() != 0));
        }
        return cycles;
    }

    public boolean pass(int cycles) {
        if (cycles < 0 || cycles > MOST_CYCLES) {
            return false;
        }
        letTimePass(cycles);
        return true;
    }

    public int read(int address) {
        return bus.load(address & 0xFFFF);
    }

    public void write(int address, int value) {
        bus.store(address & 0xFFFF, value & 0xFF);
        settle(0);
    }

    public void pad(int pad, int buttons) throws IndexOutOfBoundsException {
        if (pad < 0 || pad > 1) {
            throw new IndexOutOfBoundsException("pad: 0 or 1");
        }
        pads.buttons[pad] = buttons & 0xFF;
    }

    public int core(int what) throws IndexOutOfBoundsException {
        switch (what) {
            case 0: return core.a;
            case 1: return core.x;
            case 2: return core.y;
            case 3: return core.s;
            case 4: return core.p;
            case 5: return core.pc;
            case 6: return elapsed;
            case 7: return picture.nmiPending ? 1 : 0;
            case 8: return irqLines();
            default: throw new IndexOutOfBoundsException("core: 0 .. 8");
        }
    }

    public int picture(int what) throws IndexOutOfBoundsException {
        switch (what) {
            case 0: return picture.v;
            case 1: return picture.t;
            case 2: return picture.x;
            case 3: return picture.w;
            case 4: return picture.ctrl;
            case 5: return picture.mask;
            case 6: return picture.vblank;
            case 7: return picture.oamAddress;
            case 8: return picture.line;
            case 9: return picture.dot;
            case 10: return picture.buffer;
            default: throw new IndexOutOfBoundsException("picture: 0 .. 10");
        }
    }

    public int memory(int address) {
        return picture.byteAt(address & 0x3FFF);
    }

    public int oam(int at) throws IndexOutOfBoundsException {
        if (at < 0 || at >= OAM_SIZE) {
            throw new IndexOutOfBoundsException("oam: 0 .. 255");
        }
        return picture.oam[at];
    }

    public int cartridge(int what) throws IndexOutOfBoundsException {
        if (what < 0 || what > 13) {
            throw new IndexOutOfBoundsException("cartridge: 0 .. 13");
        }
        if (what < 4) {
            return cartridge.romBanks[what];
        }
        if (what < 12) {
            return cartridge.chrBanks[what - 4];
        }
        return what == 12 ? cartridge.mirroring : cartridge.lineCounter();
    }

    public int sound(int what) throws IndexOutOfBoundsException {
        if (what < 0 || what > 4) {
            throw new IndexOutOfBoundsException("sound: 0 .. 4");
        }
        return what == 4 ? sound.frameCycles : sound.lengths[what];
    }

    private int irqLines() {
        return (sound.irqLine ? 1 : 0) | (cartridge.irqLine ? 2 : 0);
    }

    /** Ends what a step or a write began: DMA if it was asked for, then the time of both. */
    private int settle(int cycles) {
        int all = cycles + bus.copyPageAsked(elapsed & 1);
        letTimePass(all);
        return all;
    }

    /** Picture and sound do not touch each other while time passes, so one may go before the other. */
    private void letTimePass(int cycles) {
        elapsed = (elapsed + cycles) & 0xFFFF;
        picture.advance(3 * cycles);
        sound.advance(cycles);
    }

    /** What an address of the core means. */
    private static final class Bus {
        private static final int NO_PAGE = -1;

        private final int[] ram = new int[2048];
        private final int[] cartridgeRam = new int[256];
        private final PictureUnit picture;
        private final SoundUnit sound;
        private final Pads pads;
        private final Cartridge cartridge;
        private int pageAsked = NO_PAGE;

        Bus(PictureUnit picture, SoundUnit sound, Pads pads, Cartridge cartridge) {
            this.picture = picture;
            this.sound = sound;
            this.pads = pads;
            this.cartridge = cartridge;
        }

        int load(int address) {
            if (address < 0x2000) {
                return ram[address & 0x7FF];
            }
            if (address < 0x4000) {
                return picture.load(address & 7);
            }
            if (address < 0x6000) {
                return loadInput(address);
            }
            if (address < 0x8000) {
                return cartridgeRam[address & 0xFF];
            }
            return cartridge.romByte(address);
        }

        private int loadInput(int address) {
            switch (address) {
                case 0x4015: return sound.loadStatus();
                case 0x4016: return pads.nextBit(0);
                case 0x4017: return pads.nextBit(1);
                default: return 0;
            }
        }

        void store(int address, int value) {
            if (address < 0x2000) {
                ram[address & 0x7FF] = value;
            } else if (address < 0x4000) {
                picture.store(address & 7, value);
            } else if (address == 0x4014) {
                pageAsked = value;
            } else if (address == 0x4016) {
                pads.setStrobe((value & 1) == 1);
            } else if (address < 0x4018) {
                sound.store(address & 0x1F, value);
            } else if (address >= 0x8000) {
                cartridge.storeRegister(address, value);
            } else if (address >= 0x6000) {
                cartridgeRam[address & 0xFF] = value;
            }
        }

        /**
         * DMA, if 0x4014 was written: its cycles. It may wait for the instruction's end, because no
         * instruction touches the bus again behind its own write.
         */
        int copyPageAsked(int odd) {
            if (pageAsked == NO_PAGE) {
                return 0;
            }
            int from = pageAsked << 8;
            pageAsked = NO_PAGE;
            for (int place = 0; place < 256; place++) {
                picture.store(PictureUnit.OAM_DATA, load(from | place));
            }
            return 513 + odd;
        }

        /** The stack never leaves the RAM, so it needs no look at the whole bus. */
        void storeStack(int place, int value) {
            ram[0x100 | place & 0xFF] = value;
        }

        int loadStack(int place) {
            return ram[0x100 | place & 0xFF];
        }

        /** The vectors always lie in the ROM. */
        int vector(int address) {
            return cartridge.romByte(address) | cartridge.romByte(address + 1) << 8;
        }
    }

    /** The picture unit: registers, memory, lines and dots. */
    private static final class PictureUnit {
        static final int OAM_DATA = 4;
        private static final int DATA = 7;
        private static final int DOTS = 341;
        private static final int LAST_LINE = 261;
        private static final int LINE_TOLD_DOT = 260;
        private static final int PALETTE_START = 0x3F00;
        /** Far above the lines that the longest passing of time goes through. */
        private static final int MOST_LINES = 1000;

        private final Cartridge cartridge;
        private final int[] oam = new int[256];
        private final int[] nameTables = new int[2048];
        private final int[] palette = new int[32];
        private int ctrl;
        private int mask;
        private int vblank;
        private int oamAddress;
        private int v;
        private int t;
        private int x;
        private int w;
        private int buffer;
        private int line;
        private int dot;
        private boolean nmiPending;

        PictureUnit(Cartridge cartridge) {
            this.cartridge = cartridge;
        }

        void restart() {
            ctrl = 0;
            mask = 0;
            w = 0;
            nmiPending = false;
        }

        boolean takeNmi() {
            boolean pending = nmiPending;
            nmiPending = false;
            return pending;
        }

        int load(int register) {
            int answer = 0;
            if (register == 2) {
                answer = vblank << 7;
                vblank = 0;
                w = 0;
            } else if (register == OAM_DATA) {
                answer = oam[oamAddress & 0xFF];
            } else if (register == DATA) {
                int address = v & 0x3FFF;
                int there = byteAt(address);
                boolean atPalette = address >= PALETTE_START;
                answer = atPalette ? there : buffer;
                buffer = atPalette ? nameTables[nameTablePlace(address)] : there;
                growV();
            }
            return answer;
        }

        void store(int register, int value) {
            switch (register) {
                case 0: storeControl(value); break;
                case 1: mask = value; break;
                case 3: oamAddress = value; break;
                case OAM_DATA:
                    oam[oamAddress & 0xFF] = value;
                    oamAddress = (oamAddress + 1) & 0xFF;
                    break;
                case 5: storeScroll(value); break;
                case 6: storeAddress(value); break;
                case DATA:
                    storeByte(v & 0x3FFF, value);
                    growV();
                    break;
                default: break;
            }
        }

        private void storeControl(int value) {
            boolean wasOff = (ctrl & 0x80) == 0;
            ctrl = value;
            t = t & ~0x0C00 | (value & 3) << 10;
            if (wasOff && (value & 0x80) != 0 && vblank == 1) {
                nmiPending = true;
            }
        }

        private void storeScroll(int value) {
            if (w == 0) {
                t = t & ~0x001F | value >> 3;
                x = value & 7;
            } else {
                t = t & ~0x73E0 | (value & 7) << 12 | (value >> 3) << 5;
            }
            w = 1 - w;
        }

        private void storeAddress(int value) {
            if (w == 0) {
                t = t & 0x00FF | (value & 0x3F) << 8;
            } else {
                t = t & 0x7F00 | value;
                v = t;
            }
            w = 1 - w;
        }

        private void growV() {
            v = (v + ((ctrl & 4) == 0 ? 1 : 32)) & 0x7FFF;
        }

        int byteAt(int address) {
            if (address < 0x2000) {
                return cartridge.chrByte(address);
            }
            if (address < PALETTE_START) {
                return nameTables[nameTablePlace(address)];
            }
            return palette[palettePlace(address)];
        }

        private void storeByte(int address, int value) {
            if (address >= PALETTE_START) {
                palette[palettePlace(address)] = value;
            } else if (address >= 0x2000) {
                nameTables[nameTablePlace(address)] = value;
            }
        }

        private int nameTablePlace(int address) {
            int half;
            switch (cartridge.mirroring) {
                case 0: half = 0; break;
                case 1: half = 1; break;
                case 2: half = address >> 10 & 1; break;
                default: half = address >> 11 & 1; break;
            }
            return half << 10 | address & 0x3FF;
        }

        /** 16, 20, 24 and 28 are other names of 0, 4, 8 and 12. */
        private static int palettePlace(int address) {
            int place = address & 0x1F;
            return (place & 3) == 0 ? place & 0x0F : place;
        }

        /** Goes from line to line, not from dot to dot: only dots 1 and 260 mean anything. */
        void advance(int dots) {
            int left = dots;
            for (int lines = 0; lines < MOST_LINES && left > 0; lines++) {
                int part = Math.min(left, DOTS - dot);
                int end = dot + part;
                if (dot < 1 && end >= 1) {
                    comeToDotOne();
                }
                if (dot < LINE_TOLD_DOT && end >= LINE_TOLD_DOT) {
                    tellLine();
                }
                left -= part;
                dot = end;
                if (dot == DOTS) {
                    dot = 0;
                    line = line == LAST_LINE ? 0 : line + 1;
                }
            }
        }

        private void comeToDotOne() {
            if (line == 241) {
                vblank = 1;
                if ((ctrl & 0x80) != 0) {
                    nmiPending = true;
                }
            } else if (line == LAST_LINE) {
                vblank = 0;
            }
        }

        private void tellLine() {
            boolean shown = line < 240 || line == LAST_LINE;
            if (shown && (mask & 0x18) != 0) {
                cartridge.noteLine();
            }
        }
    }

    /** What both kinds of cartridge have; each kind sets the banks anew when its registers change. */
    private abstract static class Cartridge {
        final int[] rom = new int[ROM_SIZE];
        final int[] chr = new int[CHR_SIZE];
        final int[] romBanks = new int[4];
        final int[] chrBanks = new int[8];
        int mirroring;
        boolean irqLine;

        abstract void storeRegister(int address, int value);

        abstract void forgetShifted();

        abstract void noteLine();

        abstract int lineCounter();

        final int romByte(int address) {
            return rom[(romBanks[address >> 13 & 3] & 7) << 6 | address & 63];
        }

        final int chrByte(int address) {
            return chr[(chrBanks[address >> 10 & 7] & 7) << 4 | address & 15];
        }

        final void setRomBanks(int first, int second, int third, int fourth) {
            romBanks[0] = first & 7;
            romBanks[1] = second & 7;
            romBanks[2] = third & 7;
            romBanks[3] = fourth & 7;
        }

        /** Four banks of CHR from a slot on: 0 or 4. */
        final void setFourChrBanks(int slot, int first, int second, int third, int fourth) {
            chrBanks[slot & 4] = first & 7;
            chrBanks[slot & 4 | 1] = second & 7;
            chrBanks[slot & 4 | 2] = third & 7;
            chrBanks[slot & 4 | 3] = fourth & 7;
        }
    }

    /** The cartridge whose registers are shifted in bit by bit. */
    private static final class Mmc1 extends Cartridge {
        private static final int BITS = 5;

        private int shifted;
        private int count;
        private int prgMode = 3;
        private int prgBank;
        private int chrMode;
        private int firstChr;
        private int secondChr;

        Mmc1() {
            mapRom();
            mapChr();
        }

        void storeRegister(int address, int value) {
            if ((value & 0x80) != 0) {
                forgetShifted();
                prgMode = 3;
            } else {
                shifted |= (value & 1) << count;
                count++;
                if (count == BITS) {
                    setRegister(address >> 13 & 3, shifted);
                    forgetShifted();
                }
            }
            mapRom();
            mapChr();
        }

        void forgetShifted() {
            shifted = 0;
            count = 0;
        }

        void noteLine() {
            // This kind does not count lines.
        }

        int lineCounter() {
            return 0;
        }

        private void setRegister(int register, int bits) {
            switch (register) {
                case 0:
                    mirroring = bits & 3;
                    prgMode = bits >> 2 & 3;
                    chrMode = bits >> 4 & 1;
                    break;
                case 1: firstChr = bits; break;
                case 2: secondChr = bits; break;
                default: prgBank = bits; break;
            }
        }

        private void mapRom() {
            int pair = 2 * (prgBank & 3);
            if (prgMode == 2) {
                setRomBanks(0, 1, pair, pair + 1);
            } else if (prgMode == 3) {
                setRomBanks(pair, pair + 1, 6, 7);
            } else {
                int four = 4 * (prgBank >> 1 & 1);
                setRomBanks(four, four + 1, four + 2, four + 3);
            }
        }

        private void mapChr() {
            int low = chrMode == 0 ? 0 : 4 * (firstChr & 1);
            int high = chrMode == 0 ? 4 : 4 * (secondChr & 1);
            setFourChrBanks(0, low, low + 1, low + 2, low + 3);
            setFourChrBanks(4, high, high + 1, high + 2, high + 3);
        }
    }

    /** The cartridge that counts lines and interrupts. */
    private static final class Mmc3 extends Cartridge {
        private final int[] registers = new int[8];
        private int select;
        private int latch;
        private int counter;
        private boolean interruptsOn;

        Mmc3() {
            mirroring = 2;
            mapRom();
            mapChr();
        }

        void storeRegister(int address, int value) {
            switch (address >> 12 & 6 | address & 1) {
                case 0: select = value; break;
                case 1: registers[select & 7] = value; break;
                case 2: mirroring = 2 | value & 1; break;
                case 4: latch = value; break;
                case 5: counter = 0; break;
                case 6:
                    interruptsOn = false;
                    irqLine = false;
                    break;
                case 7: interruptsOn = true; break;
                default: break;
            }
            mapRom();
            mapChr();
        }

        void forgetShifted() {
            // Nothing is shifted into this kind.
        }

        void noteLine() {
            counter = counter == 0 ? latch : counter - 1;
            if (counter == 0 && interruptsOn) {
                irqLine = true;
            }
        }

        int lineCounter() {
            return counter;
        }

        private void mapRom() {
            if ((select & 0x40) == 0) {
                setRomBanks(registers[6], registers[7], 6, 7);
            } else {
                setRomBanks(6, registers[7], registers[6], 7);
            }
        }

        private void mapChr() {
            int pairsAt = (select & 0x80) == 0 ? 0 : 4;
            int first = registers[0];
            int second = registers[1];
            setFourChrBanks(pairsAt, first & ~1, first | 1, second & ~1, second | 1);
            setFourChrBanks(4 - pairsAt, registers[2], registers[3], registers[4], registers[5]);
        }
    }

    /** The sound unit's lengths and its frame. */
    private static final class SoundUnit {
        private static final int[] LENGTHS = {
            10, 254, 20, 2, 40, 4, 80, 6, 160, 8, 60, 10, 14, 12, 26, 14,
            12, 16, 24, 18, 48, 20, 96, 22, 192, 24, 72, 26, 16, 28, 32, 30
        };
        private static final int CHANNELS = 4;
        private static final int MIDDLE = 14913;
        private static final int SHORT_END = 29829;
        private static final int LONG_END = 37281;
        /** Far above the marks that the longest passing of time goes by. */
        private static final int MOST_MARKS = 1000;

        private final int[] lengths = new int[CHANNELS];
        private int halted;
        private int enabled;
        private boolean isLong;
        private boolean quiet;
        private boolean irqLine;
        private int frameCycles;

        void restart() {
            enable(0);
            irqLine = false;
        }

        int loadStatus() {
            int status = irqLine ? 0x40 : 0;
            irqLine = false;
            for (int channel = 0; channel < CHANNELS; channel++) {
                if (lengths[channel] > 0) {
                    status |= 1 << channel;
                }
            }
            return status;
        }

        void store(int register, int value) {
            if (register == 0x15) {
                enable(value & 0x0F);
            } else if (register == 0x17) {
                restartFrame(value);
            } else if (register < 0x10) {
                storeChannel(register >> 2 & 3, register & 3, value);
            }
        }

        private void storeChannel(int channel, int register, int value) {
            int bit = 1 << channel;
            if (register == 0) {
                int haltBit = channel == 2 ? 0x80 : 0x20;
                halted = (value & haltBit) != 0 ? halted | bit : halted & ~bit;
            } else if (register == 3 && (enabled & bit) != 0) {
                lengths[channel & 3] = LENGTHS[value >> 3 & 31];
            }
        }

        private void enable(int channels) {
            enabled = channels;
            for (int channel = 0; channel < CHANNELS; channel++) {
                if ((channels >> channel & 1) == 0) {
                    lengths[channel] = 0;
                }
            }
        }

        private void restartFrame(int value) {
            isLong = (value & 0x80) != 0;
            quiet = (value & 0x40) != 0;
            if (quiet) {
                irqLine = false;
            }
            frameCycles = 0;
            if (isLong) {
                countLengths();
            }
        }

        private void countLengths() {
            for (int channel = 0; channel < CHANNELS; channel++) {
                if (lengths[channel] > 0 && (halted >> channel & 1) == 0) {
                    lengths[channel]--;
                }
            }
        }

        /** Goes from mark to mark: the middle, the end, and the cycle behind the end. */
        void advance(int cycles) {
            int left = cycles;
            for (int marks = 0; marks < MOST_MARKS && left > 0; marks++) {
                int mark = nextMark();
                int part = Math.min(left, mark - frameCycles);
                left -= part;
                frameCycles += part;
                if (frameCycles == mark) {
                    comeToMark();
                }
            }
        }

        private int frameEnd() {
            return isLong ? LONG_END : SHORT_END;
        }

        private int nextMark() {
            if (frameCycles < MIDDLE) {
                return MIDDLE;
            }
            return frameCycles < frameEnd() ? frameEnd() : frameEnd() + 1;
        }

        private void comeToMark() {
            if (frameCycles > frameEnd()) {
                frameCycles = 0;
                return;
            }
            countLengths();
            if (frameCycles == frameEnd() && !isLong && !quiet) {
                irqLine = true;
            }
        }
    }

    /** Two pads that are read bit by bit. */
    private static final class Pads {
        private final int[] buttons = new int[2];
        private final int[] taken = {0xFF, 0xFF};
        private boolean strobe;

        void setStrobe(boolean on) {
            if (strobe && !on) {
                taken[0] = buttons[0];
                taken[1] = buttons[1];
            }
            strobe = on;
        }

        int nextBit(int pad) {
            int place = pad & 1;
            if (strobe) {
                return buttons[place] & 1;
            }
            int bit = taken[place] & 1;
            taken[place] = taken[place] >> 1 | 0x80;
            return bit;
        }
    }

    /** The 6502's operations, in groups that are done alike, and what each opcode means. */
    private static final class Opcodes {
        static final int NON = 0;

        static final int LDA = 1;
        static final int LDX = 2;
        static final int LDY = 3;
        static final int ADC = 4;
        static final int SBC = 5;
        static final int AND = 6;
        static final int ORA = 7;
        static final int EOR = 8;
        static final int CMP = 9;
        static final int CPX = 10;
        static final int CPY = 11;
        static final int BIT = 12;
        static final int LAST_READ = BIT;

        static final int STA = 13;
        static final int STX = 14;
        static final int STY = 15;
        static final int LAST_STORE = STY;

        static final int ASL = 16;
        static final int LSR = 17;
        static final int ROL = 18;
        static final int ROR = 19;
        static final int INC = 20;
        static final int DEC = 21;
        static final int LAST_CHANGE = DEC;

        static final int BPL = 22;
        static final int BMI = 23;
        static final int BVC = 24;
        static final int BVS = 25;
        static final int BCC = 26;
        static final int BCS = 27;
        static final int BNE = 28;
        static final int BEQ = 29;
        static final int LAST_BRANCH = BEQ;

        static final int TAX = 30;
        static final int TAY = 31;
        static final int TXA = 32;
        static final int TYA = 33;
        static final int TSX = 34;
        static final int TXS = 35;
        static final int INX = 36;
        static final int INY = 37;
        static final int DEX = 38;
        static final int DEY = 39;
        static final int LAST_REGISTER = DEY;

        static final int CLC = 40;
        static final int SEC = 41;
        static final int CLI = 42;
        static final int SEI = 43;
        static final int CLV = 44;
        static final int CLD = 45;
        static final int SED = 46;
        static final int NOP = 47;
        static final int LAST_FLAG = NOP;

        static final int PHA = 48;
        static final int PHP = 49;
        static final int PLA = 50;
        static final int PLP = 51;
        static final int LAST_STACK = PLP;

        static final int JMP = 52;
        static final int JSR = 53;
        static final int RTS = 54;
        static final int RTI = 55;
        static final int BRK = 56;

        /* Addressing: without an operand, then with one byte of it, then with two. */
        static final int IMP = 0;
        static final int ACC = 1;
        static final int IMM = 2;
        static final int ZPG = 3;
        static final int ZPX = 4;
        static final int ZPY = 5;
        static final int IZX = 6;
        static final int IZY = 7;
        static final int REL = 8;
        static final int ABS = 9;
        static final int ABX = 10;
        static final int ABY = 11;
        static final int IND = 12;

        static final int[] OPERATION = {
            BRK, ORA, NON, NON, NON, ORA, ASL, NON, PHP, ORA, ASL, NON, NON, ORA, ASL, NON,
            BPL, ORA, NON, NON, NON, ORA, ASL, NON, CLC, ORA, NON, NON, NON, ORA, ASL, NON,
            JSR, AND, NON, NON, BIT, AND, ROL, NON, PLP, AND, ROL, NON, BIT, AND, ROL, NON,
            BMI, AND, NON, NON, NON, AND, ROL, NON, SEC, AND, NON, NON, NON, AND, ROL, NON,
            RTI, EOR, NON, NON, NON, EOR, LSR, NON, PHA, EOR, LSR, NON, JMP, EOR, LSR, NON,
            BVC, EOR, NON, NON, NON, EOR, LSR, NON, CLI, EOR, NON, NON, NON, EOR, LSR, NON,
            RTS, ADC, NON, NON, NON, ADC, ROR, NON, PLA, ADC, ROR, NON, JMP, ADC, ROR, NON,
            BVS, ADC, NON, NON, NON, ADC, ROR, NON, SEI, ADC, NON, NON, NON, ADC, ROR, NON,
            NON, STA, NON, NON, STY, STA, STX, NON, DEY, NON, TXA, NON, STY, STA, STX, NON,
            BCC, STA, NON, NON, STY, STA, STX, NON, TYA, STA, TXS, NON, NON, STA, NON, NON,
            LDY, LDA, LDX, NON, LDY, LDA, LDX, NON, TAY, LDA, TAX, NON, LDY, LDA, LDX, NON,
            BCS, LDA, NON, NON, LDY, LDA, LDX, NON, CLV, LDA, TSX, NON, LDY, LDA, LDX, NON,
            CPY, CMP, NON, NON, CPY, CMP, DEC, NON, INY, CMP, DEX, NON, CPY, CMP, DEC, NON,
            BNE, CMP, NON, NON, NON, CMP, DEC, NON, CLD, CMP, NON, NON, NON, CMP, DEC, NON,
            CPX, SBC, NON, NON, CPX, SBC, INC, NON, INX, SBC, NOP, NON, CPX, SBC, INC, NON,
            BEQ, SBC, NON, NON, NON, SBC, INC, NON, SED, SBC, NON, NON, NON, SBC, INC, NON
        };

        static final int[] MODE = {
            IMP, IZX, IMP, IMP, IMP, ZPG, ZPG, IMP, IMP, IMM, ACC, IMP, IMP, ABS, ABS, IMP,
            REL, IZY, IMP, IMP, IMP, ZPX, ZPX, IMP, IMP, ABY, IMP, IMP, IMP, ABX, ABX, IMP,
            ABS, IZX, IMP, IMP, ZPG, ZPG, ZPG, IMP, IMP, IMM, ACC, IMP, ABS, ABS, ABS, IMP,
            REL, IZY, IMP, IMP, IMP, ZPX, ZPX, IMP, IMP, ABY, IMP, IMP, IMP, ABX, ABX, IMP,
            IMP, IZX, IMP, IMP, IMP, ZPG, ZPG, IMP, IMP, IMM, ACC, IMP, ABS, ABS, ABS, IMP,
            REL, IZY, IMP, IMP, IMP, ZPX, ZPX, IMP, IMP, ABY, IMP, IMP, IMP, ABX, ABX, IMP,
            IMP, IZX, IMP, IMP, IMP, ZPG, ZPG, IMP, IMP, IMM, ACC, IMP, IND, ABS, ABS, IMP,
            REL, IZY, IMP, IMP, IMP, ZPX, ZPX, IMP, IMP, ABY, IMP, IMP, IMP, ABX, ABX, IMP,
            IMP, IZX, IMP, IMP, ZPG, ZPG, ZPG, IMP, IMP, IMP, IMP, IMP, ABS, ABS, ABS, IMP,
            REL, IZY, IMP, IMP, ZPX, ZPX, ZPY, IMP, IMP, ABY, IMP, IMP, IMP, ABX, IMP, IMP,
            IMM, IZX, IMM, IMP, ZPG, ZPG, ZPG, IMP, IMP, IMM, IMP, IMP, ABS, ABS, ABS, IMP,
            REL, IZY, IMP, IMP, ZPX, ZPX, ZPY, IMP, IMP, ABY, IMP, IMP, ABX, ABX, ABY, IMP,
            IMM, IZX, IMP, IMP, ZPG, ZPG, ZPG, IMP, IMP, IMM, IMP, IMP, ABS, ABS, ABS, IMP,
            REL, IZY, IMP, IMP, IMP, ZPX, ZPX, IMP, IMP, ABY, IMP, IMP, IMP, ABX, ABX, IMP,
            IMM, IZX, IMP, IMP, ZPG, ZPG, ZPG, IMP, IMP, IMM, IMP, IMP, ABS, ABS, ABS, IMP,
            REL, IZY, IMP, IMP, IMP, ZPX, ZPX, IMP, IMP, ABY, IMP, IMP, IMP, ABX, ABX, IMP
        };

        static final int[] CYCLES = {
            7, 6, 2, 2, 2, 3, 5, 2, 3, 2, 2, 2, 2, 4, 6, 2,
            2, 5, 2, 2, 2, 4, 6, 2, 2, 4, 2, 2, 2, 4, 7, 2,
            6, 6, 2, 2, 3, 3, 5, 2, 4, 2, 2, 2, 4, 4, 6, 2,
            2, 5, 2, 2, 2, 4, 6, 2, 2, 4, 2, 2, 2, 4, 7, 2,
            6, 6, 2, 2, 2, 3, 5, 2, 3, 2, 2, 2, 3, 4, 6, 2,
            2, 5, 2, 2, 2, 4, 6, 2, 2, 4, 2, 2, 2, 4, 7, 2,
            6, 6, 2, 2, 2, 3, 5, 2, 4, 2, 2, 2, 5, 4, 6, 2,
            2, 5, 2, 2, 2, 4, 6, 2, 2, 4, 2, 2, 2, 4, 7, 2,
            2, 6, 2, 2, 3, 3, 3, 2, 2, 2, 2, 2, 4, 4, 4, 2,
            2, 6, 2, 2, 4, 4, 4, 2, 2, 5, 2, 2, 2, 5, 2, 2,
            2, 6, 2, 2, 3, 3, 3, 2, 2, 2, 2, 2, 4, 4, 4, 2,
            2, 5, 2, 2, 4, 4, 4, 2, 2, 4, 2, 2, 4, 4, 4, 2,
            2, 6, 2, 2, 3, 3, 5, 2, 2, 2, 2, 2, 4, 4, 6, 2,
            2, 5, 2, 2, 2, 4, 6, 2, 2, 4, 2, 2, 2, 4, 7, 2,
            2, 6, 2, 2, 3, 3, 5, 2, 2, 2, 2, 2, 4, 4, 6, 2,
            2, 5, 2, 2, 2, 4, 6, 2, 2, 4, 2, 2, 2, 4, 7, 2
        };
    }

    /** The 6502 without decimal mode. */
    private static final class Core {
        private static final int C = 1;
        private static final int Z = 2;
        private static final int I = 4;
        private static final int D = 8;
        private static final int B = 16;
        private static final int ALWAYS = 32;
        private static final int V = 64;
        private static final int N = 128;
        private static final int NMI_VECTOR = 0xFFFA;
        private static final int RESET_VECTOR = 0xFFFC;
        private static final int IRQ_VECTOR = 0xFFFE;
        private static final int INTERRUPT_CYCLES = 7;

        private final Bus bus;
        private int a;
        private int x;
        private int y;
        private int s;
        private int p = ALWAYS;
        private int pc;
        /** 1 if the index of the instruction at hand led to another page. */
        private int crossed;

        Core(Bus bus) {
            this.bus = bus;
        }

        void restart() {
            s = (s - 3) & 0xFF;
            p |= I;
            pc = bus.vector(RESET_VECTOR);
        }

        int takeStep(boolean nmi, boolean irq) {
            if (nmi) {
                enter(NMI_VECTOR, pc, p);
                return INTERRUPT_CYCLES;
            }
            if (irq && (p & I) == 0) {
                enter(IRQ_VECTOR, pc, p);
                return INTERRUPT_CYCLES;
            }
            int start = pc;
            int opcode = fetch() & 0xFF;
            int operation = Opcodes.OPERATION[opcode];
            int extra = 0;
            if (operation == Opcodes.NON) {
                pc = start;
            } else {
                int mode = Opcodes.MODE[opcode];
                extra = perform(operation, mode, addressOf(mode, fetchOperand(mode)));
            }
            return Opcodes.CYCLES[opcode] + extra;
        }

        private int fetch() {
            int value = bus.load(pc);
            pc = (pc + 1) & 0xFFFF;
            return value;
        }

        private int fetchOperand(int mode) {
            if (mode < Opcodes.IMM) {
                return 0;
            }
            int low = fetch();
            return mode < Opcodes.ABS ? low : low | fetch() << 8;
        }

        /** Where the operand lies; of an immediate one, the operand itself. */
        private int addressOf(int mode, int operand) {
            crossed = 0;
            switch (mode) {
                case Opcodes.ZPX: return (operand + x) & 0xFF;
                case Opcodes.ZPY: return (operand + y) & 0xFF;
                case Opcodes.IZX: return wordWithinPage((operand + x) & 0xFF);
                case Opcodes.IZY: return indexed(wordWithinPage(operand), y);
                case Opcodes.REL: return (pc + (byte) operand) & 0xFFFF;
                case Opcodes.ABX: return indexed(operand, x);
                case Opcodes.ABY: return indexed(operand, y);
                case Opcodes.IND: return wordWithinPage(operand);
                default: return operand;
            }
        }

        private int wordWithinPage(int address) {
            int low = bus.load(address);
            return low | bus.load(address & 0xFF00 | (address + 1) & 0xFF) << 8;
        }

        private int indexed(int base, int index) {
            int address = (base + index) & 0xFFFF;
            crossed = otherPage(base, address);
            return address;
        }

        private static int otherPage(int one, int other) {
            return (one & 0xFF00) == (other & 0xFF00) ? 0 : 1;
        }

        /** Does an operation; its answer is the cycles beyond those of the table. */
        private int perform(int operation, int mode, int address) {
            int extra = 0;
            if (operation <= Opcodes.LAST_READ) {
                combine(operation, mode == Opcodes.IMM ? address : bus.load(address));
                extra = crossed;
            } else if (operation <= Opcodes.LAST_STORE) {
                bus.store(address, stored(operation));
            } else if (operation <= Opcodes.LAST_CHANGE) {
                change(operation, mode, address);
            } else if (operation <= Opcodes.LAST_BRANCH) {
                extra = branch(operation, address);
            } else if (operation <= Opcodes.LAST_REGISTER) {
                changeRegister(operation);
            } else if (operation <= Opcodes.LAST_FLAG) {
                changeFlag(operation);
            } else if (operation <= Opcodes.LAST_STACK) {
                useStack(operation);
            } else {
                jump(operation, address);
            }
            return extra;
        }

        private void combine(int operation, int value) {
            switch (operation) {
                case Opcodes.LDA: a = judged(value); break;
                case Opcodes.LDX: x = judged(value); break;
                case Opcodes.LDY: y = judged(value); break;
                case Opcodes.ADC: add(value); break;
                case Opcodes.SBC: add(value ^ 0xFF); break;
                case Opcodes.AND: a = judged(a & value); break;
                case Opcodes.ORA: a = judged(a | value); break;
                case Opcodes.EOR: a = judged(a ^ value); break;
                case Opcodes.CMP: compare(a, value); break;
                case Opcodes.CPX: compare(x, value); break;
                case Opcodes.CPY: compare(y, value); break;
                default: testBits(value); break;
            }
        }

        private void add(int value) {
            int sum = a + value + (p & C);
            setFlag(C, sum > 0xFF);
            setFlag(V, ((a ^ sum) & (value ^ sum) & 0x80) != 0);
            a = judged(sum);
        }

        private void compare(int register, int value) {
            setFlag(C, register >= value);
            judged(register - value);
        }

        private void testBits(int value) {
            setFlag(Z, (a & value) == 0);
            setFlag(V, (value & 0x40) != 0);
            setFlag(N, (value & 0x80) != 0);
        }

        private int stored(int operation) {
            switch (operation) {
                case Opcodes.STA: return a;
                case Opcodes.STX: return x;
                default: return y;
            }
        }

        private void change(int operation, int mode, int address) {
            if (mode == Opcodes.ACC) {
                a = changed(operation, a);
            } else {
                bus.store(address, changed(operation, bus.load(address)));
            }
        }

        private int changed(int operation, int value) {
            switch (operation) {
                case Opcodes.ASL: return shiftedUp(value, 0);
                case Opcodes.LSR: return shiftedDown(value, 0);
                case Opcodes.ROL: return shiftedUp(value, p & C);
                case Opcodes.ROR: return shiftedDown(value, p & C);
                case Opcodes.INC: return judged(value + 1);
                default: return judged(value - 1);
            }
        }

        private int shiftedUp(int value, int comingIn) {
            setFlag(C, (value & 0x80) != 0);
            return judged(value << 1 | comingIn);
        }

        private int shiftedDown(int value, int comingIn) {
            setFlag(C, (value & 1) != 0);
            return judged(value >> 1 | comingIn << 7);
        }

        private int branch(int operation, int target) {
            if (!branchTaken(operation)) {
                return 0;
            }
            int extra = 1 + otherPage(pc, target);
            pc = target;
            return extra;
        }

        private boolean branchTaken(int operation) {
            switch (operation) {
                case Opcodes.BPL: return (p & N) == 0;
                case Opcodes.BMI: return (p & N) != 0;
                case Opcodes.BVC: return (p & V) == 0;
                case Opcodes.BVS: return (p & V) != 0;
                case Opcodes.BCC: return (p & C) == 0;
                case Opcodes.BCS: return (p & C) != 0;
                case Opcodes.BNE: return (p & Z) == 0;
                default: return (p & Z) != 0;
            }
        }

        private void changeRegister(int operation) {
            switch (operation) {
                case Opcodes.TAX: x = judged(a); break;
                case Opcodes.TAY: y = judged(a); break;
                case Opcodes.TXA: a = judged(x); break;
                case Opcodes.TYA: a = judged(y); break;
                case Opcodes.TSX: x = judged(s); break;
                case Opcodes.TXS: s = x; break;
                case Opcodes.INX: x = judged(x + 1); break;
                case Opcodes.INY: y = judged(y + 1); break;
                case Opcodes.DEX: x = judged(x - 1); break;
                default: y = judged(y - 1); break;
            }
        }

        private void changeFlag(int operation) {
            switch (operation) {
                case Opcodes.CLC: setFlag(C, false); break;
                case Opcodes.SEC: setFlag(C, true); break;
                case Opcodes.CLI: setFlag(I, false); break;
                case Opcodes.SEI: setFlag(I, true); break;
                case Opcodes.CLV: setFlag(V, false); break;
                case Opcodes.CLD: setFlag(D, false); break;
                case Opcodes.SED: setFlag(D, true); break;
                default: break;
            }
        }

        private void useStack(int operation) {
            switch (operation) {
                case Opcodes.PHA: push(a); break;
                case Opcodes.PHP: push(p | B); break;
                case Opcodes.PLA: a = judged(pull()); break;
                default: pullFlags(); break;
            }
        }

        private void jump(int operation, int address) {
            switch (operation) {
                case Opcodes.JMP:
                    pc = address;
                    break;
                case Opcodes.JSR:
                    pushWord(pc - 1);
                    pc = address;
                    break;
                case Opcodes.RTS:
                    pc = (pullWord() + 1) & 0xFFFF;
                    break;
                case Opcodes.RTI:
                    pullFlags();
                    pc = pullWord();
                    break;
                default:
                    // BRK is one byte long, but what it pushes leaves room for one more.
                    enter(IRQ_VECTOR, pc + 1, p | B);
                    break;
            }
        }

        private void enter(int vector, int back, int flags) {
            pushWord(back);
            push(flags);
            p |= I;
            pc = bus.vector(vector);
        }

        private void push(int value) {
            bus.storeStack(s, value);
            s = (s - 1) & 0xFF;
        }

        private void pushWord(int word) {
            push(word >> 8 & 0xFF);
            push(word & 0xFF);
        }

        private int pull() {
            s = (s + 1) & 0xFF;
            return bus.loadStack(s);
        }

        private int pullWord() {
            int low = pull();
            return low | pull() << 8;
        }

        private void pullFlags() {
            p = pull() & ~B | ALWAYS;
        }

        private void setFlag(int flag, boolean on) {
            p = on ? p | flag : p & ~flag;
        }

        /** The lowest eight bits of a value, by which Z and N are set. */
        private int judged(int value) {
            int result = value & 0xFF;
            setFlag(Z, result == 0);
            setFlag(N, (result & 0x80) != 0);
            return result;
        }
    }
}
