/** Makes consoles for tests, with a program in their RAM and vectors in their ROM. */
final class Rig {
    static final int MMC1 = 0;
    static final int MMC3 = 1;
    static final int START = 0x0200;
    static final int NMI_AT = 0x0400;
    static final int IRQ_AT = 0x0500;

    private Rig() {
    }

    static void vectors(GameConsole console, int nmi, int reset, int irq) {
        word(console, 506, nmi);
        word(console, 508, reset);
        word(console, 510, irq);
    }

    private static void word(GameConsole console, int at, int value) {
        console.rom(at, value & 0xFF);
        console.rom(at + 1, value >> 8);
    }

    static void put(GameConsole console, int address, int... bytes) {
        for (int i = 0; i < bytes.length; i++) {
            console.write(address + i, bytes[i]);
        }
    }

    /** PC is at the program, S is 0xFD, I is 1. */
    static GameConsole with(int kind, int... program) {
        return at(kind, START, program);
    }

    static GameConsole at(int kind, int start, int... program) {
        GameConsole console = new GameConsole(kind);
        vectors(console, NMI_AT, start, IRQ_AT);
        put(console, start, program);
        console.reset();
        return console;
    }

    /** Goes on to a line and a dot that lie at a number of dots from the beginning that 3 divides. */
    static void passTo(GameConsole console, int line, int dot) {
        int now = console.picture(8) * 341 + console.picture(9);
        int dots = Math.floorMod(line * 341 + dot - now, 262 * 341);
        if (dots % 3 != 0) {
            throw new IllegalStateException("no whole cycles");
        }
        if (!console.pass(dots / 3)) {
            throw new IllegalStateException("too far");
        }
    }

    /** Shifts five bits into an MMC1. */
    static void shift(GameConsole console, int address, int bits) {
        for (int i = 0; i < 5; i++) {
            console.write(address, bits >> i & 1);
        }
    }

    static void pictureAddress(GameConsole console, int address) {
        console.read(0x2002);
        console.write(0x2006, address >> 8);
        console.write(0x2006, address & 0xFF);
    }
}
