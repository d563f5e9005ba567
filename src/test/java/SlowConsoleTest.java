import java.util.Random;

/** The same random calls on a console and on the slow one; all that can be seen must be the same after each call. */
public final class SlowConsoleTest {
    private static final int RUNS = 400;
    private static final int TRIALS = 60;
    private static final int CALLS = 512;
    private static final int[] PLACES = {
        0x0000, 0x00FF, 0x0100, 0x01FF, 0x07FF, 0x1FFF, 0x2000, 0x2001, 0x2002, 0x2003, 0x2004, 0x2005, 0x2006, 0x2007,
        0x3FFF, 0x3FFA, 0x4000, 0x4003, 0x4004, 0x4007, 0x4008, 0x400B, 0x400C, 0x400F, 0x4010, 0x4013, 0x4014, 0x4015,
        0x4016, 0x4017, 0x4018, 0x5FFF, 0x6000, 0x7FFF, 0x8000, 0x8001, 0x9FFF, 0xA000, 0xA001, 0xBFFF, 0xC000, 0xC001,
        0xDFFE, 0xE000, 0xE001, 0xFFFE, 0xFFFF,
    };
    private static final int[] TIMES = {0, 1, 2, 3, 87, 113, 114, 341, 14913, 14914, 27394, 29829, 29830, 30000, 29781};

    private final Check check = new Check();
    private final Random random;
    private final GameConsole quick;
    private final SlowConsole slow;
    private final String name;

    private SlowConsoleTest(int seed) {
        random = new Random(seed);
        int kind = random.nextInt();
        quick = new GameConsole(kind);
        slow = new SlowConsole(kind);
        name = "seed " + seed;
    }

    public static void main(String[] args) {
        for (int opcode = 0; opcode < 256; opcode++) {
            for (int seed = 0; seed < TRIALS; seed++) {
                if (!new SlowConsoleTest(opcode * TRIALS + seed).alikeFor(opcode)) {
                    System.exit(1);
                }
            }
        }
        System.out.println(TRIALS + " trials of each opcode, all alike");
        int runs = args.length > 0 ? Integer.parseInt(args[0]) : RUNS;
        for (int seed = 0; seed < runs; seed++) {
            SlowConsoleTest test = new SlowConsoleTest(seed);
            if (!test.allAlike()) {
                System.exit(1);
            }
        }
        System.out.println(runs + " runs of " + CALLS + " calls, all alike");
    }

    private boolean allAlike() {
        fill();
        for (int call = 0; call < CALLS; call++) {
            String text = oneCall();
            String difference = difference();
            if (difference != null) {
                System.out.println(name + ", call " + call + ", " + text + ": " + difference);
                return false;
            }
        }
        return sameRam();
    }

    /** One opcode somewhere in a RAM of random bytes, with random registers and flags, and what follows it. */
    private boolean alikeFor(int opcode) {
        fill();
        int at = random.nextBoolean() ? random.nextInt(0x600) : 0x200 * random.nextInt(3) + 0xFC + random.nextInt(4);
        put(at, opcode);
        put(0x700, 0xA2, random.nextInt(256), 0x9A, 0xA9, random.nextInt(256), 0x48, 0x28);
        put(0x707, 0xA9, random.nextInt(256), 0xA2, random.nextInt(256), 0xA0, random.nextInt(256));
        put(0x70D, 0x4C, at & 0xFF, at >> 8);
        onRom(508, 0x00);
        onRom(509, 0x07);
        onReset();
        onRun(9);
        for (int step = 0; step < 3; step++) {
            alike("step of " + opcode, quick.step(), slow.step());
            String difference = difference();
            if (difference != null) {
                System.out.println(name + ", opcode " + opcode + ", step " + step + ": " + difference);
                return false;
            }
        }
        return sameRam();
    }

    private void put(int address, int... bytes) {
        for (int i = 0; i < bytes.length; i++) {
            onWrite(address + i, bytes[i]);
        }
    }

    private boolean sameRam() {
        for (int i = 0; i < 0x800; i++) {
            onRead(i);
            onRead(0x6000 + i);
        }
        return true;
    }

    private void fill() {
        for (int i = 0; i < 512; i++) {
            int value = someByte(i);
            quick.rom(i, value);
            slow.rom(i, value);
        }
        for (int i = 0; i < 128; i++) {
            int value = random.nextInt();
            quick.chr(i, value);
            slow.chr(i, value);
        }
        for (int i = 0; i < 2048; i++) {
            int value = someByte(i);
            quick.write(i, value);
            slow.write(i, value);
        }
    }

    /** Bytes that, read as a program, often reach the registers. */
    private int someByte(int place) {
        switch (random.nextInt(6)) {
            case 0: return 0x20 + random.nextInt(8);
            case 1: return PLACES[random.nextInt(PLACES.length)] >> 8 * random.nextInt(2);
            case 2: return new int[] {0x8D, 0xAD, 0xEE, 0x9D, 0xBD, 0x91, 0xB1, 0x6C, 0x28, 0x40}[random.nextInt(10)];
            case 3: return place % 3 == 0 ? 0x8D : 0x40;
            default: return random.nextInt(256);
        }
    }

    private int someAddress() {
        switch (random.nextInt(4)) {
            case 0: return random.nextInt();
            case 1: return 0x8000 + random.nextInt(4) * 0x2000 + random.nextInt(2);
            default: return PLACES[random.nextInt(PLACES.length)];
        }
    }

    private int someValue() {
        return random.nextInt(3) == 0 ? 1 << random.nextInt(8) : random.nextInt();
    }

    private int nearly(int end) {
        return random.nextInt(5) == 0 ? random.nextInt() : random.nextInt(end + 2) - 1;
    }

    private String oneCall() {
        switch (random.nextInt(14)) {
            case 0: return onRom(nearly(512), someValue());
            case 1: return onChr(nearly(128), someValue());
            case 2: return onReset();
            case 3:
            case 4: return alike("step", quick.step(), slow.step());
            case 5: return onRun(nearly(201));
            case 6: return onPass(random.nextBoolean() ? TIMES[random.nextInt(TIMES.length)] : nearly(30001));
            case 7:
            case 8: return onRead(someAddress());
            case 9: return onPad(nearly(2), someValue());
            case 10: return onLooks(nearly(14));
            default: return onWrite(someAddress(), someValue());
        }
    }

    private String alike(String text, long got, long want) {
        check.due(name + " " + text, got, want);
        if (got != want) {
            System.exit(1);
        }
        return text;
    }

    private interface Call {
        int answer();
    }

    /** The answer, or a number for the exception's class. */
    private static long outcome(Call call) {
        try {
            return call.answer();
        } catch (IllegalArgumentException e) {
            return 1L << 40;
        } catch (IndexOutOfBoundsException e) {
            return e.getClass() == IndexOutOfBoundsException.class ? 1L << 41 : 1L << 42;
        }
    }

    private String onRom(int at, int value) {
        return alike("rom " + at + " " + value, outcome(() -> {
            quick.rom(at, value);
            return 0;
        }), outcome(() -> {
            slow.rom(at, value);
            return 0;
        }));
    }

    private String onChr(int at, int value) {
        return alike("chr " + at + " " + value, outcome(() -> {
            quick.chr(at, value);
            return 0;
        }), outcome(() -> {
            slow.chr(at, value);
            return 0;
        }));
    }

    private String onReset() {
        quick.reset();
        slow.reset();
        return "reset";
    }

    private String onRun(int steps) {
        return alike("run " + steps, quick.run(steps), slow.run(steps));
    }

    private String onPass(int cycles) {
        return alike("pass " + cycles, quick.pass(cycles) ? 1 : 0, slow.pass(cycles) ? 1 : 0);
    }

    private String onRead(int address) {
        return alike("read " + address, quick.read(address), slow.read(address));
    }

    private String onWrite(int address, int value) {
        quick.write(address, value);
        slow.write(address, value);
        return "write " + address + " " + value;
    }

    private String onPad(int pad, int buttons) {
        return alike("pad " + pad + " " + buttons, outcome(() -> {
            quick.pad(pad, buttons);
            return 0;
        }), outcome(() -> {
            slow.pad(pad, buttons);
            return 0;
        }));
    }

    private String onLooks(int what) {
        alike("core " + what, outcome(() -> quick.core(what)), outcome(() -> slow.core(what)));
        alike("picture " + what, outcome(() -> quick.picture(what)), outcome(() -> slow.picture(what)));
        alike("cartridge " + what, outcome(() -> quick.cartridge(what)), outcome(() -> slow.cartridge(what)));
        alike("sound " + what, outcome(() -> quick.sound(what)), outcome(() -> slow.sound(what)));
        int far = random.nextBoolean() ? random.nextInt(260) - 2 : random.nextInt();
        alike("oam " + far, outcome(() -> quick.oam(far)), outcome(() -> slow.oam(far)));
        return alike("memory " + far, quick.memory(far), slow.memory(far));
    }

    private String difference() {
        for (int what = 0; what < 14; what++) {
            if (what < 9 && quick.core(what) != slow.core(what)) {
                return "core " + what + " is " + quick.core(what) + ", not " + slow.core(what);
            }
            if (what < 11 && quick.picture(what) != slow.picture(what)) {
                return "picture " + what + " is " + quick.picture(what) + ", not " + slow.picture(what);
            }
            if (quick.cartridge(what) != slow.cartridge(what)) {
                return "cartridge " + what + " is " + quick.cartridge(what) + ", not " + slow.cartridge(what);
            }
            if (what < 5 && quick.sound(what) != slow.sound(what)) {
                return "sound " + what + " is " + quick.sound(what) + ", not " + slow.sound(what);
            }
        }
        for (int i = 0; i < 256; i++) {
            if (quick.oam(i) != slow.oam(i)) {
                return "oam " + i + " is " + quick.oam(i) + ", not " + slow.oam(i);
            }
        }
        for (int i = 0; i < 0x4000; i += 1 + random.nextInt(200)) {
            if (quick.memory(i) != slow.memory(i)) {
                return "memory " + i + " is " + quick.memory(i) + ", not " + slow.memory(i);
            }
        }
        return null;
    }
}
