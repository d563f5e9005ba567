/** What core, picture, cartridge and sound show of a console, in 39 calls. */
final class Look {
    private static final int PICTURE = 9;
    private static final int CARTRIDGE = 20;
    private static final int SOUND = 34;
    static final int SIZE = 39;

    private Look() {
    }

    static int[] at(GameConsole console) {
        int[] shown = new int[SIZE];
        for (int i = 0; i < SIZE; i++) {
            shown[i] = one(console, i);
        }
        return shown;
    }

    private static int one(GameConsole console, int i) {
        if (i < PICTURE) {
            return console.core(i);
        }
        if (i < CARTRIDGE) {
            return console.picture(i - PICTURE);
        }
        return i < SOUND ? console.cartridge(i - CARTRIDGE) : console.sound(i - SOUND);
    }

    static String name(int i) {
        if (i < PICTURE) {
            return "core " + i;
        }
        if (i < CARTRIDGE) {
            return "picture " + (i - PICTURE);
        }
        return i < SOUND ? "cartridge " + (i - CARTRIDGE) : "sound " + (i - SOUND);
    }
}
