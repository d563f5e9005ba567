/** Makes consoles for tests, with a program in their RAM and vectors in their ROM. */
final class Rig {
    static final int MMC1 = 0;
    static final int MMC3 = 1;
    static final int START = 0x0200;
    static final int NMI_AT = 0x0400;
    static final int IRQ_AT = 0x0500;

    private Rig() {
    }

    static void vectors(GameConsole console, int nmi, int reset, int irq) {
        word(console, 506, nmi);
        word(console, 508, reset);
        word(console, 510, irq);
    }

    private static void word(GameConsole console, int at, int value) {
        console.rom(at, value & 0xFF);
        console.rom(at + 1, value >> 8);
    }

    static void put(GameConsole console, int address, int... bytes) {
        for (int i = 0; i < bytes.length; i++) {
            console.write(address + i, bytes[i]);
        }
    }

    /** PC is at the program, S is 0xFD, I is 1. */
    static GameConsole with(int kind, int... program) {
        return at(kind, START, program);
    }

    static GameConsole at(int kind, int start, int... program) {
        GameConsole console = new GameConsole(kind);
        vectors(console, NMI_AT, start, IRQ_AT);
        put(console, start, program);
        console.reset();
        return console;
    }

    /** A console of which hardly anything that can be seen is 0: VBLANK is 1, NMI and IRQ wait, W is 1. */
    static GameConsole busy(int kind) {
        GameConsole console = with(kind, 0xA9, 0x80, 0xA2, 5, 0xA0, 7, 0x48, 0x38, 0xE8, 0xC8, 0x4C, 0x08, 0x02);
        console.run(5);
        pictureAddress(console, 0x2123);
        console.write(0x2007, 0x5A);
        pictureAddress(console, 0x2123);
        console.read(0x2007);
        console.write(0x2003, 0x33);
        console.write(0x2001, 0x1E);
        console.write(0xC000, 6);
        console.write(0xE001, 0);
        console.write(0x4015, 15);
        for (int channel = 0; channel < 4; channel++) {
            console.write(0x4003 + 4 * channel, 8);
        }
        console.write(0x2000, 0x80);
        console.write(0x2005, 0x7D);
        console.pass(30000);
        console.pass(27500);
        return console;
    }

    /** Goes on to a line and a dot that lie at a number of dots from the beginning that 3 divides. */
    static void passTo(GameConsole console, int line, int dot) {
        int now = console.picture(8) * 341 + console.picture(9);
        int dots = Math.floorMod(line * 341 + dot - now, 262 * 341);
        if (dots % 3 != 0) {
            throw new IllegalStateException("no whole cycles");
        }
        if (!console.pass(dots / 3)) {
            throw new IllegalStateException("too far");
        }
    }

    /** Shifts five bits into an MMC1. */
    static void shift(GameConsole console, int address, int bits) {
        for (int i = 0; i < 5; i++) {
            console.write(address, bits >> i & 1);
        }
    }

    static void pictureAddress(GameConsole console, int address) {
        console.read(0x2002);
        console.write(0x2006, address >> 8);
        console.write(0x2006, address & 0xFF);
    }

    /** V with its bit 14 too, which the first 0x2006 would make 0: T is built by 0x2000 and 0x2005 instead. */
    static void wideAddress(GameConsole console, int v) {
        console.read(0x2002);
        console.write(0x2000, console.picture(4) & 0xFC | v >> 10 & 3);
        console.write(0x2005, 0);
        console.write(0x2005, v >> 12 & 7 | (v >> 5 & 31) << 3);
        console.write(0x2005, 0);
        console.write(0x2006, v & 0xFF);
    }
}
