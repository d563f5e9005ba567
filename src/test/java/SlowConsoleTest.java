import java.util.Random;

/**
 * The same random calls on a console and on the slow one: each answer must be the same. A console gets no more than
 * the 512 calls that the document promises anything about, looks at its state among them.
 */
public final class SlowConsoleTest {
    private static final int RUNS = 3000;
    private static final int TRIALS = 60;
    private static final int CALLS = 512;
    private static final int[] PLACES = {
        0x0000, 0x00FF, 0x0100, 0x01FF, 0x07FF, 0x1FFF, 0x2000, 0x2001, 0x2002, 0x2003, 0x2004, 0x2005, 0x2006, 0x2007,
        0x3FFF, 0x3FFA, 0x4000, 0x4003, 0x4004, 0x4007, 0x4008, 0x400B, 0x400C, 0x400F, 0x4010, 0x4013, 0x4014, 0x4015,
        0x4016, 0x4017, 0x4018, 0x5FFF, 0x6000, 0x7FFF, 0x8000, 0x8001, 0x9FFF, 0xA000, 0xA001, 0xBFFF, 0xC000, 0xC001,
        0xDFFE, 0xE000, 0xE001, 0xFFFE, 0xFFFF,
    };
    private static final int[] TIMES = {0, 1, 2, 3, 87, 113, 114, 341, 14913, 14914, 27394, 29829, 29830, 30000, 29781};
    private static final int[] BUSY = {0x8D, 0xAD, 0xEE, 0x9D, 0xBD, 0x91, 0xB1, 0x6C, 0x28, 0x40};

    private final Random random;
    private final GameConsole quick;
    private final SlowConsole slow;
    private final String name;
    private int calls;
    private boolean alike = true;

    private SlowConsoleTest(String what, int seed) {
        random = new Random(seed);
        int kind = random.nextInt();
        quick = new GameConsole(kind);
        slow = new SlowConsole(kind);
        name = what + ", seed " + seed;
    }

    public static void main(String[] args) {
        boolean good = true;
        for (int opcode = 0; opcode < 256; opcode++) {
            for (int seed = 0; seed < TRIALS && good; seed++) {
                SlowConsoleTest test = new SlowConsoleTest("opcode " + opcode, opcode * TRIALS + seed);
                test.tryOpcode(opcode);
                good = test.alike;
            }
        }
        int runs = args.length > 0 ? Integer.parseInt(args[0]) : RUNS;
        for (int seed = 0; seed < runs && good; seed++) {
            SlowConsoleTest test = new SlowConsoleTest("run", seed);
            test.tryCalls();
            good = test.alike;
        }
        if (!good) {
            System.exit(1);
        }
        System.out.println(TRIALS + " trials of each opcode and " + runs + " runs of " + CALLS + " calls, all alike");
    }

    /** One opcode at some place of a RAM with random bytes, with random registers and flags, and what follows it. */
    private void tryOpcode(int opcode) {
        for (int i = 0; i < 60; i++) {
            onWrite(random.nextInt(0x200), someByte(i));
            onWrite(random.nextInt(0x600), someByte(i));
        }
        int at = random.nextBoolean() ? random.nextInt(0x600) : 0x200 * random.nextInt(3) + 0xFC + random.nextInt(4);
        put(at, opcode, someByte(1), someByte(2));
        put(0x700, 0xA2, random.nextInt(256), 0x9A, 0xA9, random.nextInt(256), 0x48, 0x28);
        put(0x707, 0xA9, random.nextInt(256), 0xA2, random.nextInt(256), 0xA0, random.nextInt(256));
        put(0x70D, 0x4C, at & 0xFF, at >> 8);
        for (int i = 504; i < 508; i++) {
            onRom(i, someByte(i));
        }
        onRom(508, 0x00);
        onRom(509, 0x07);
        onRom(510, someByte(510));
        onRom(511, someByte(511));
        onReset();
        onRun(9);
        for (int step = 0; step < 3; step++) {
            onStep();
            lookAtAll();
        }
        while (calls < CALLS && alike) {
            onRead(random.nextInt(0x600));
        }
    }

    private void put(int address, int... bytes) {
        for (int i = 0; i < bytes.length; i++) {
            onWrite(address + i, bytes[i]);
        }
    }

    private void tryCalls() {
        for (int i = 0; i < 64; i++) {
            onRom(448 + i, someByte(i));
            onWrite(0x0200 + i, someByte(i));
        }
        for (int i = 0; i < 24; i++) {
            onRom(random.nextInt(512), someByte(i));
            onChr(random.nextInt(128), random.nextInt());
        }
        if (random.nextBoolean()) {
            onRom(509, 2 * random.nextInt(2));
        }
        onReset();
        while (calls < CALLS && alike) {
            oneCall();
            someLook();
            someLook();
        }
    }

    /** Bytes that, read as a program, often reach the registers. */
    private int someByte(int place) {
        switch (random.nextInt(6)) {
            case 0: return 0x20 + random.nextInt(8);
            case 1: return PLACES[random.nextInt(PLACES.length)] >> 8 * random.nextInt(2);
            case 2: return BUSY[random.nextInt(BUSY.length)];
            case 3: return place % 3 == 0 ? 0x8D : 0x40;
            default: return random.nextInt(256);
        }
    }

    private int someAddress() {
        switch (random.nextInt(4)) {
            case 0: return random.nextInt();
            case 1: return 0x8000 + random.nextInt(4) * 0x2000 + random.nextInt(2);
            default: return PLACES[random.nextInt(PLACES.length)];
        }
    }

    private int someValue() {
        return random.nextInt(3) == 0 ? 1 << random.nextInt(8) : random.nextInt();
    }

    private int nearly(int end) {
        return random.nextInt(9) == 0 ? random.nextInt() : random.nextInt(end + 2) - 1;
    }

    private void oneCall() {
        switch (random.nextInt(14)) {
            case 0: onRom(nearly(512), someValue()); break;
            case 1: onChr(nearly(128), someValue()); break;
            case 2: onReset(); break;
            case 3:
            case 4: onStep(); break;
            case 5: onRun(nearly(201)); break;
            case 6: onPass(random.nextBoolean() ? TIMES[random.nextInt(TIMES.length)] : nearly(30001)); break;
            case 7:
            case 8: onRead(someAddress()); break;
            case 9: onPad(nearly(2), someValue()); break;
            default: onWrite(someAddress(), someValue()); break;
        }
    }

    private void someLook() {
        switch (random.nextInt(7)) {
            case 0: onCore(nearly(9)); break;
            case 1: onPicture(nearly(11)); break;
            case 2: onCartridge(nearly(14)); break;
            case 3: onSound(nearly(5)); break;
            case 4: onOam(nearly(256)); break;
            case 5: onMemory(nearly(0x4000)); break;
            default: onRead(random.nextInt(0x800)); break;
        }
    }

    private void lookAtAll() {
        for (int what = 0; what < 14; what++) {
            onCartridge(what);
            if (what < 11) {
                onPicture(what);
            }
            if (what < 9) {
                onCore(what);
            }
            if (what < 5) {
                onSound(what);
            }
        }
    }

    private interface Call {
        int answer();
    }

    /** The answer, or a number for the exception's class. */
    private static long outcome(Call call) {
        try {
            return call.answer();
        } catch (RuntimeException e) {
            if (e.getClass() == IllegalArgumentException.class) {
                return 1L << 40;
            }
            return e.getClass() == IndexOutOfBoundsException.class ? 1L << 41 : 1L << 42;
        }
    }

    private void both(String text, Call onQuick, Call onSlow) {
        if (calls >= CALLS || !alike) {
            return;
        }
        calls++;
        long got = outcome(onQuick);
        long want = outcome(onSlow);
        if (got != want) {
            alike = false;
            System.out.println(name + ", call " + calls + ", " + text + ": answered " + got + ", due is " + want);
        }
    }

    private void onRom(int at, int value) {
        both("rom " + at + " " + value, () -> {
            quick.rom(at, value);
            return 0;
        }, () -> {
            slow.rom(at, value);
            return 0;
        });
    }

    private void onChr(int at, int value) {
        both("chr " + at + " " + value, () -> {
            quick.chr(at, value);
            return 0;
        }, () -> {
            slow.chr(at, value);
            return 0;
        });
    }

    private void onReset() {
        both("reset", () -> {
            quick.reset();
            return 0;
        }, () -> {
            slow.reset();
            return 0;
        });
    }

    private void onStep() {
        both("step", quick::step, slow::step);
    }

    private void onRun(int steps) {
        both("run " + steps, () -> quick.run(steps), () -> slow.run(steps));
    }

    private void onPass(int cycles) {
        both("pass " + cycles, () -> quick.pass(cycles) ? 1 : 0, () -> slow.pass(cycles) ? 1 : 0);
    }

    private void onRead(int address) {
        both("read " + address, () -> quick.read(address), () -> slow.read(address));
    }

    private void onWrite(int address, int value) {
        both("write " + address + " " + value, () -> {
            quick.write(address, value);
            return 0;
        }, () -> {
            slow.write(address, value);
            return 0;
        });
    }

    private void onPad(int pad, int buttons) {
        both("pad " + pad + " " + buttons, () -> {
            quick.pad(pad, buttons);
            return 0;
        }, () -> {
            slow.pad(pad, buttons);
            return 0;
        });
    }

    private void onCore(int what) {
        both("core " + what, () -> quick.core(what), () -> slow.core(what));
    }

    private void onPicture(int what) {
        both("picture " + what, () -> quick.picture(what), () -> slow.picture(what));
    }

    private void onCartridge(int what) {
        both("cartridge " + what, () -> quick.cartridge(what), () -> slow.cartridge(what));
    }

    private void onSound(int what) {
        both("sound " + what, () -> quick.sound(what), () -> slow.sound(what));
    }

    private void onOam(int at) {
        both("oam " + at, () -> quick.oam(at), () -> slow.oam(at));
    }

    private void onMemory(int address) {
        both("memory " + address, () -> quick.memory(address), () -> slow.memory(address));
    }
}
