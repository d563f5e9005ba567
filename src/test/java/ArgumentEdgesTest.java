/**
 * Edges of what calls are given: too small, too large, refused, and numbers of which only the lowest bits count
 * (promises 1 to 3 and 6 to 16).
 */
public final class ArgumentEdgesTest {
    private static final Check CHECK = new Check();
    private static final int[] BYTES = {0, 1, 127, 128, 255, 256, 257, 511, 0x1234, -1, -128, -256,
        Integer.MAX_VALUE, Integer.MIN_VALUE};

    public static void main(String[] args) {
        kinds();
        newObjects();
        romPlaces();
        romRefusals();
        romValues();
        chrPlaces();
        chrRefusals();
        chrValues();
        runEdges();
        runRefusals();
        passEdges();
        passRefusals();
        readAddresses();
        readTakesNoTime();
        writeAddresses();
        writeValues();
        padButtons();
        padRefusals();
        memoryAddresses();
        memoryDisturbsNothing();
        coreRefusals();
        pictureRefusals();
        oamRefusals();
        cartridgeRefusals();
        soundRefusals();
        CHECK.finish();
    }

    /** Each call throws, and leaves all that can be seen as it was. */
    private interface Refused {
        void call(GameConsole console, int number);
    }

    private static void refused(String name, Class<? extends RuntimeException> thrown, Refused call, int... numbers) {
        for (int kind = 0; kind < 2; kind++) {
            GameConsole console = Rig.busy(kind);
            int[] before = Look.at(console);
            for (int number : numbers) {
                CHECK.dueThrow(name + " " + number, thrown, () -> call.call(console, number));
                CHECK.dueSame(name + " " + number, before, Look.at(console));
            }
        }
    }

    private static void kinds() {
        CHECK.sentence("A cartridge of kind MMC3 if the lowest bit of kind is 1, else MMC1");
        for (int kind : BYTES) {
            GameConsole console = new GameConsole(kind);
            boolean odd = kind % 2 != 0;
            CHECK.due("mirroring of kind " + kind, console.cartridge(12), odd ? 2 : 0);
            CHECK.due("second bank of kind " + kind, console.cartridge(1), odd ? 0 : 1);
            Rig.shift(console, 0x8000, 0b01101);
            CHECK.due("kind " + kind + " is shifted into", console.cartridge(12), odd ? 2 : 1);
        }
    }

    private static void newObjects() {
        CHECK.sentence("all memory 0, all registers 0 (but as is said above), S 0, time 0. No reset is done.");
        for (int kind = 0; kind < 2; kind++) {
            GameConsole console = new GameConsole(kind);
            Rig.vectors(console, 0x1111, 0x2222, 0x3333);
            int[] now = Look.at(console);
            for (int i = 0; i < Look.SIZE; i++) {
                if (!Look.name(i).startsWith("cartridge")) {
                    CHECK.due(Look.name(i), now[i], i == 4 ? 32 : 0);
                }
            }
            CHECK.due("first of RAM", console.read(0), 0);
            CHECK.due("last of RAM", console.read(0x1FFF), 0);
            CHECK.due("last of the cartridge's own RAM", console.read(0x7FFF), 0);
            CHECK.due("last of OAM", console.oam(255), 0);
            CHECK.due("last of the palette", console.memory(0x3FFF), 0);
            CHECK.due("nothing is halted, enabled or ringing", console.read(0x4015), 0);
        }
        GameConsole one = new GameConsole(1);
        GameConsole other = new GameConsole(1);
        one.write(0x0005, 5);
        one.rom(511, 6);
        one.chr(0, 7);
        CHECK.due("each object has its own RAM", other.read(0x0005), 0);
        CHECK.due("each object has its own ROM", other.read(0xFFFF), 0);
        CHECK.due("each object has its own CHR", other.memory(0), 0);
    }

    private static void romPlaces() {
        CHECK.sentence("A byte of ROM: bank times 64 and place.");
        int[] places = {0, 1, 62, 63};
        for (int bank = 0; bank < 8; bank++) {
            GameConsole console = new GameConsole(Rig.MMC3);
            console.write(0x8000, 6);
            console.write(0x8001, bank);
            for (int place : places) {
                console.rom(bank * 64 + place, 1 + place);
            }
            for (int place = 0; place < 64; place++) {
                boolean put = place < 2 || place > 61;
                CHECK.due("bank " + bank + ", " + place, console.read(0x8000 + place), put ? 1 + place : 0);
            }
            console.write(0x8001, bank + 1);
            CHECK.due("the bank behind, first", console.read(0x8000), 0);
            console.write(0x8001, bank + 7);
            CHECK.due("the bank before, last", console.read(0x803F), 0);
        }
    }

    private static void romRefusals() {
        CHECK.sentence("rom: IllegalArgumentException if it is not 0 .. 511.");
        int[] wrong = {-1, 512, 513, -512, 1024, 0x10000, Integer.MIN_VALUE, Integer.MAX_VALUE};
        refused("rom", IllegalArgumentException.class, (console, at) -> console.rom(at, 0x5A), wrong);
        for (int slot = 0; slot < 8; slot++) {
            GameConsole console = new GameConsole(Rig.MMC3);
            console.write(0x8000, 6);
            console.write(0x8001, slot);
            for (int at : wrong) {
                CHECK.dueThrow("rom " + at, IllegalArgumentException.class, () -> console.rom(at, 0x5A));
            }
            for (int place = 0; place < 64; place++) {
                CHECK.due("bank " + slot + ", " + place, console.read(0x8000 + place), 0);
            }
        }
        GameConsole console = new GameConsole(Rig.MMC1);
        console.rom(0, 1);
        console.rom(511, 2);
        CHECK.due("0 is not refused", console.read(0x8000), 1);
        CHECK.due("511 is not refused", console.read(0xFFFF), 2);
    }

    private static void romValues() {
        CHECK.sentence("(Of a value the lowest 8 bits count.)");
        GameConsole console = new GameConsole(Rig.MMC1);
        for (int value : BYTES) {
            console.rom(511, value);
            CHECK.due("rom of " + value, console.read(0xFFFF), value & 0xFF);
            CHECK.due("its neighbour", console.read(0xFFFE), 0);
        }
    }

    private static void chrPlaces() {
        CHECK.sentence("A byte of CHR: bank times 16 and place.");
        for (int bank = 0; bank < 8; bank++) {
            GameConsole console = new GameConsole(Rig.MMC1);
            console.chr(bank * 16, 0x11);
            console.chr(bank * 16 + 15, 0x22);
            for (int at = 0; at < 128; at++) {
                int due = at == bank * 16 ? 0x11 : at == bank * 16 + 15 ? 0x22 : 0;
                CHECK.due("bank " + bank + ", at " + at, console.memory(at / 16 * 1024 + at % 16), due);
            }
        }
    }

    private static void chrRefusals() {
        CHECK.sentence("chr: IllegalArgumentException if it is not 0 .. 127.");
        int[] wrong = {-1, 128, 129, -128, 256, 0x10000, Integer.MIN_VALUE, Integer.MAX_VALUE};
        refused("chr", IllegalArgumentException.class, (console, at) -> console.chr(at, 0x5A), wrong);
        GameConsole console = new GameConsole(Rig.MMC1);
        for (int at : wrong) {
            CHECK.dueThrow("chr " + at, IllegalArgumentException.class, () -> console.chr(at, 0x5A));
        }
        for (int at = 0; at < 128; at++) {
            CHECK.due("CHR " + at, console.memory(at / 16 * 1024 + at % 16), 0);
        }
        console.chr(0, 1);
        console.chr(127, 2);
        CHECK.due("0 is not refused", console.memory(0), 1);
        CHECK.due("127 is not refused", console.memory(0x1FFF), 2);
    }

    private static void chrValues() {
        CHECK.sentence("chr: a byte of CHR (the lowest 8 bits of a value)");
        GameConsole console = new GameConsole(Rig.MMC1);
        for (int value : BYTES) {
            console.chr(127, value);
            CHECK.due("chr of " + value, console.memory(0x1FFF), value & 0xFF);
            CHECK.due("its neighbour", console.memory(0x1FFE), 0);
        }
    }

    private static void runEdges() {
        CHECK.sentence("So many steps (0 .. 200): all their cycles.");
        GameConsole none = Rig.busy(Rig.MMC3);
        int[] before = Look.at(none);
        CHECK.due("run 0", none.run(0), 0);
        CHECK.dueSame("run 0, though an NMI waits,", before, Look.at(none));
        int[] numbers = {1, 2, 199, 200};
        for (int steps : numbers) {
            GameConsole console = Rig.with(Rig.MMC1, 0xE8, 0xE8, 0x4C, 0x00, 0x02);
            int due = steps / 3 * 7 + steps % 3 * 2;
            CHECK.due("run " + steps, console.run(steps), due);
            CHECK.due("X behind run " + steps, console.core(1), steps / 3 * 2 + steps % 3);
            CHECK.due("all cycles behind run " + steps, console.core(6), due);
        }
        GameConsole still = Rig.with(Rig.MMC1, 0x02);
        CHECK.due("200 steps that do nothing", still.run(200), 400);
        GameConsole dma = Rig.with(Rig.MMC1, 0x8D, 0x14, 0x40, 0x4C, 0x00, 0x02);
        CHECK.due("200 steps, every other one DMA", dma.run(200), 100 * (4 + 513 + 3));
    }

    private static void runRefusals() {
        CHECK.sentence("-1, refused, if it is not 0 .. 200.");
        int[] wrong = {-1, 201, 202, -200, 256, 65536, Integer.MIN_VALUE, Integer.MAX_VALUE};
        for (int kind = 0; kind < 2; kind++) {
            GameConsole console = Rig.busy(kind);
            int[] before = Look.at(console);
            for (int steps : wrong) {
                CHECK.due("run " + steps, console.run(steps), -1);
                CHECK.dueSame("run " + steps, before, Look.at(console));
            }
        }
    }

    private static void passEdges() {
        CHECK.sentence("Time goes on by so many cycles (0 .. 30000)");
        GameConsole none = Rig.busy(Rig.MMC3);
        int[] before = Look.at(none);
        CHECK.due("pass 0", none.pass(0) ? 1 : 0, 1);
        CHECK.dueSame("pass 0", before, Look.at(none));
        int[] numbers = {1, 2, 29999, 30000};
        for (int cycles : numbers) {
            GameConsole console = new GameConsole(Rig.MMC1);
            CHECK.due("pass " + cycles, console.pass(cycles) ? 1 : 0, 1);
            CHECK.due("all cycles behind it", console.core(6), cycles);
            CHECK.due("line behind it", console.picture(8), cycles * 3 % 89342 / 341);
            CHECK.due("dot behind it", console.picture(9), cycles * 3 % 89342 % 341);
            CHECK.due("the frame's cycles behind it", console.sound(4), cycles % 29830);
        }
    }

    private static void passRefusals() {
        CHECK.sentence("false, refused, for another number.");
        int[] wrong = {-1, 30001, 30002, -30000, 65536, 60000, Integer.MIN_VALUE, Integer.MAX_VALUE};
        for (int kind = 0; kind < 2; kind++) {
            GameConsole console = Rig.busy(kind);
            int[] before = Look.at(console);
            for (int cycles : wrong) {
                CHECK.due("pass " + cycles, console.pass(cycles) ? 1 : 0, 0);
                CHECK.dueSame("pass " + cycles, before, Look.at(console));
            }
        }
    }

    private static void readAddresses() {
        CHECK.sentence("The bus is read at the lowest 16 bits of an address.");
        int[] above = {0x10000, 0x20000, 0x12340000, 0x7FFF0000, 0x80000000, 0xFFFF0000};
        for (int more : above) {
            GameConsole console = new GameConsole(Rig.MMC1);
            console.write(0x0000, 1);
            console.write(0x07FF, 2);
            console.write(0x6000, 3);
            console.rom(511, 4);
            CHECK.due("the first, with " + more, console.read(more), 1);
            CHECK.due("the RAM's last, with " + more, console.read(more | 0x1FFF), 2);
            CHECK.due("own RAM, with " + more, console.read(more | 0x6000), 3);
            CHECK.due("the last, with " + more, console.read(more | 0xFFFF), 4);
            CHECK.due("register 7, with " + more, console.read(more | 0x2007), 0);
            CHECK.due("V behind it", console.picture(0), 1);
            CHECK.due("a pad, with " + more, console.read(more | 0x4016), 1);
        }
    }

    private static void readTakesNoTime() {
        CHECK.sentence("(Time does not go on.)");
        int[] addresses = {0x0000, 0x1FFF, 0x2002, 0x2004, 0x2007, 0x4014, 0x4015, 0x4016, 0x4017, 0x5000, 0x6000,
            0x8000, 0xFFFF};
        GameConsole console = Rig.busy(Rig.MMC3);
        int[] before = Look.at(console);
        for (int address : addresses) {
            console.read(address);
            CHECK.due("cycles behind read " + address, console.core(6), before[6]);
            CHECK.due("dot behind read " + address, console.picture(9), before[18]);
            CHECK.due("the frame's cycles behind read " + address, console.sound(4), before[38]);
        }
    }

    private static void writeAddresses() {
        CHECK.sentence("The bus is written (at the lowest 16 bits of an address)");
        int[] above = {0x10000, 0x20000, 0x12340000, 0x7FFF0000, 0x80000000, 0xFFFF0000};
        for (int more : above) {
            GameConsole console = new GameConsole(Rig.MMC3);
            console.write(more, 1);
            console.write(more | 0x1FFF, 2);
            console.write(more | 0x7FFF, 3);
            console.write(more | 0x2003, 4);
            console.write(more | 0xA000, 1);
            console.write(more | 0x4014, 0);
            CHECK.due("the first, with " + more, console.read(0), 1);
            CHECK.due("the RAM's last, with " + more, console.read(0x07FF), 2);
            CHECK.due("own RAM, with " + more, console.read(0x60FF), 3);
            CHECK.due("the OAM address, with " + more, console.picture(7), 4);
            CHECK.due("mirroring, with " + more, console.cartridge(12), 3);
            CHECK.due("DMA, with " + more, console.core(6), 513);
        }
    }

    private static void writeValues() {
        CHECK.sentence("The bus is written (bytes: the lowest 8 bits of a value)");
        for (int value : BYTES) {
            GameConsole console = new GameConsole(Rig.MMC3);
            int due = value & 0xFF;
            console.write(0x0010, value);
            CHECK.due("RAM of " + value, console.read(0x0010), due);
            console.write(0x7FFF, value);
            CHECK.due("own RAM of " + value, console.read(0x7FFF), due);
            console.write(0x2003, value);
            CHECK.due("the OAM address of " + value, console.picture(7), due);
            console.write(0x2004, value);
            CHECK.due("OAM of " + value, console.oam(due), due);
            console.write(0x2001, value);
            CHECK.due("MASK of " + value, console.picture(5), due);
            console.write(0x2000, value);
            CHECK.due("CTRL of " + value, console.picture(4), due);
            console.write(0x2005, value);
            CHECK.due("T of " + value, console.picture(1), (due & 3) << 10 | due >> 3);
            Rig.pictureAddress(console, 0x3F01);
            console.write(0x2007, value);
            CHECK.due("the palette of " + value, console.memory(0x3F01), due);
            console.write(0x8000, 0);
            console.write(0x8001, value);
            CHECK.due("R0 of " + value, console.cartridge(4), due & 6);
            console.write(0x4015, value);
            console.write(0x4003, value);
            CHECK.due("a length's register of " + value, console.sound(0) == 0 ? 0 : 1, due & 1);
        }
    }

    private static void padButtons() {
        CHECK.sentence("The buttons of a pad, eight bits.");
        for (int buttons : BYTES) {
            GameConsole console = new GameConsole(Rig.MMC1);
            console.pad(0, buttons);
            console.pad(1, ~buttons);
            console.write(0x4016, 1);
            console.write(0x4016, 0);
            for (int bit = 0; bit < 10; bit++) {
                CHECK.due("pad 0 of " + buttons + ", " + bit, console.read(0x4016), bit < 8 ? buttons >> bit & 1 : 1);
                CHECK.due("pad 1 of " + buttons + ", " + bit, console.read(0x4017), bit < 8 ? ~buttons >> bit & 1 : 1);
            }
        }
    }

    private static void padRefusals() {
        CHECK.sentence("pad: IndexOutOfBoundsException if it is not 0 or 1.");
        int[] wrong = {-1, 2, 3, -2, 256, 0x10000, Integer.MIN_VALUE, Integer.MAX_VALUE};
        refused("pad", IndexOutOfBoundsException.class, (console, pad) -> console.pad(pad, 0xFF), wrong);
        for (int pad : wrong) {
            GameConsole console = new GameConsole(Rig.MMC1);
            console.pad(0, 0xAA);
            console.pad(1, 0x54);
            CHECK.dueThrow("pad " + pad, IndexOutOfBoundsException.class, () -> console.pad(pad, 0xFF));
            console.write(0x4016, 1);
            console.write(0x4016, 0);
            for (int bit = 0; bit < 8; bit++) {
                CHECK.due("pad 0 keeps bit " + bit, console.read(0x4016), 0xAA >> bit & 1);
                CHECK.due("pad 1 keeps bit " + bit, console.read(0x4017), 0x54 >> bit & 1);
            }
        }
    }

    private static void memoryAddresses() {
        CHECK.sentence("Its memory at the lowest 14 bits of an address");
        int[] above = {0x4000, 0x8000, 0xC000, 0x10000, 0x7FFFC000, 0x80000000, 0xFFFFC000};
        for (int more : above) {
            GameConsole console = new GameConsole(Rig.MMC1);
            console.chr(0, 1);
            console.chr(127, 2);
            Rig.pictureAddress(console, 0x2000);
            console.write(0x2007, 3);
            Rig.pictureAddress(console, 0x3FFF);
            console.write(0x2007, 4);
            CHECK.due("the first, with " + more, console.memory(more), 1);
            CHECK.due("the last of CHR, with " + more, console.memory(more | 0x1FFF), 2);
            CHECK.due("the first of the tables, with " + more, console.memory(more | 0x2000), 3);
            CHECK.due("the last, with " + more, console.memory(more | 0x3FFF), 4);
        }
    }

    private static void memoryDisturbsNothing() {
        CHECK.sentence("without disturbing anything.");
        int[] addresses = {0, 0x1FFF, 0x2000, 0x2123, 0x3EFF, 0x3F00, 0x3FFF, -1};
        for (int kind = 0; kind < 2; kind++) {
            GameConsole console = Rig.busy(kind);
            int[] before = Look.at(console);
            for (int address : addresses) {
                console.memory(address);
                CHECK.dueSame("memory " + address, before, Look.at(console));
            }
        }
    }

    private static void coreRefusals() {
        CHECK.sentence("core: IndexOutOfBoundsException for others (than 0 .. 8).");
        refused("core", IndexOutOfBoundsException.class, (console, what) -> console.core(what),
            -1, 9, 10, -9, 256, 0x10000, Integer.MIN_VALUE, Integer.MAX_VALUE);
    }

    private static void pictureRefusals() {
        CHECK.sentence("picture: IndexOutOfBoundsException for others (than 0 .. 10).");
        refused("picture", IndexOutOfBoundsException.class, (console, what) -> console.picture(what),
            -1, 11, 12, -11, 256, 0x10000, Integer.MIN_VALUE, Integer.MAX_VALUE);
    }

    private static void oamRefusals() {
        CHECK.sentence("oam: IndexOutOfBoundsException if it is not 0 .. 255.");
        refused("oam", IndexOutOfBoundsException.class, (console, at) -> console.oam(at),
            -1, 256, 257, -256, 511, 0x10000, Integer.MIN_VALUE, Integer.MAX_VALUE);
    }

    private static void cartridgeRefusals() {
        CHECK.sentence("cartridge: IndexOutOfBoundsException for others (than 0 .. 13).");
        refused("cartridge", IndexOutOfBoundsException.class, (console, what) -> console.cartridge(what),
            -1, 14, 15, -14, 256, 0x10000, Integer.MIN_VALUE, Integer.MAX_VALUE);
    }

    private static void soundRefusals() {
        CHECK.sentence("sound: IndexOutOfBoundsException for others (than 0 .. 4).");
        refused("sound", IndexOutOfBoundsException.class, (console, what) -> console.sound(what),
            -1, 5, 6, -5, 256, 0x10000, Integer.MIN_VALUE, Integer.MAX_VALUE);
    }
}
