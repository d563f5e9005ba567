/** Edges of TIME in the picture unit (promises 7 and 12): each dot before, at and behind those that are named. */
public final class TimeEdgesTest {
    private static final Check CHECK = new Check();
    private static final int LINE = 341;
    private static final int PICTURE = 262 * LINE;

    public static void main(String[] args) {
        atFirst();
        threeDots();
        lineEnds();
        pictureEnds();
        vblankBegins();
        nmiOfVblank();
        vblankEnds();
        nmiStays();
        lineIsTold();
        linesThatAreTold();
        maskSays();
        maskAtThatDot();
        manyLinesAtOnce();
        oneByOne();
        CHECK.finish();
    }

    /** A picture is no whole number of cycles: each dot is come to exactly in one of the first three pictures. */
    private static GameConsole at(int line, int dot) {
        GameConsole console = new GameConsole(Rig.MMC3);
        int dots = line * LINE + dot;
        while (dots % 3 != 0) {
            dots += PICTURE;
        }
        int cycles = dots / 3;
        while (cycles > 0) {
            int part = Math.min(cycles, 30000);
            console.pass(part);
            cycles -= part;
        }
        return console;
    }

    private static void place(String name, GameConsole console, int line, int dot) {
        CHECK.due(name + ": line", console.picture(8), line);
        CHECK.due(name + ": dot", console.picture(9), dot);
    }

    private static void atFirst() {
        CHECK.sentence("at first line 0, dot 0");
        place("MMC1", new GameConsole(Rig.MMC1), 0, 0);
        place("MMC3", new GameConsole(Rig.MMC3), 0, 0);
    }

    private static void threeDots() {
        CHECK.sentence("each cycle is three DOTS");
        GameConsole console = new GameConsole(Rig.MMC1);
        for (int cycle = 1; cycle < 100; cycle++) {
            console.pass(1);
            CHECK.due("dot behind cycle " + cycle, console.picture(9), 3 * cycle);
        }
        GameConsole step = Rig.with(Rig.MMC1, 0xEA, 0x02, 0xEA);
        step.run(2);
        place("behind two steps of two cycles", step, 0, 12);
        GameConsole dma = new GameConsole(Rig.MMC1);
        dma.write(0x4014, 0);
        place("behind DMA", dma, 4, 3 * 513 - 4 * LINE);
    }

    private static void lineEnds() {
        CHECK.sentence("a line has dots 0 .. 340");
        int[] lines = {0, 1, 100, 240, 260};
        for (int line : lines) {
            for (int dot = 338; dot <= 340; dot++) {
                GameConsole console = at(line, dot);
                place("before the end of " + line, console, line, dot);
                console.pass(1);
                place("behind " + line + ", " + dot, console, line + 1, dot + 3 - LINE);
            }
            GameConsole last = at(line, 337);
            last.pass(1);
            place("the last dot of " + line, last, line, 340);
        }
    }

    private static void pictureEnds() {
        CHECK.sentence("a picture lines 0 .. 261");
        for (int dot = 338; dot <= 340; dot++) {
            GameConsole console = at(261, dot);
            place("before the end", console, 261, dot);
            console.pass(1);
            place("behind 261, " + dot, console, 0, dot + 3 - LINE);
        }
        GameConsole long1 = new GameConsole(Rig.MMC1);
        for (int i = 0; i < 3; i++) {
            long1.pass(29780);
        }
        place("two cycles before three pictures", long1, 261, 335);
        long1.pass(2);
        place("three pictures are 89342 cycles", long1, 0, 0);
    }

    private static void vblankBegins() {
        CHECK.sentence("When line 241, dot 1 is come to: VBLANK is 1");
        int[] lines = {240, 240, 240, 241, 241, 241, 241};
        int[] dots = {1, 339, 340, 0, 1, 2, 3};
        int[] due = {0, 0, 0, 0, 1, 1, 1};
        for (int i = 0; i < lines.length; i++) {
            GameConsole console = at(lines[i], dots[i]);
            place("there", console, lines[i], dots[i]);
            CHECK.due("VBLANK at " + lines[i] + ", " + dots[i], console.picture(6), due[i]);
        }
        for (int dot = 339; dot <= 341; dot++) {
            GameConsole console = dot < 341 ? at(240, dot) : at(241, 0);
            console.pass(1);
            CHECK.due("VBLANK one cycle behind 240, " + dot, console.picture(6), 1);
        }
        GameConsole read = at(241, 1);
        read.read(0x2002);
        read.pass(1000);
        CHECK.due("it does not come again in this picture", read.picture(6), 0);
        read.pass(28782);
        CHECK.due("but in the next one", read.picture(6), 1);
    }

    private static void nmiOfVblank() {
        CHECK.sentence("and an NMI is pending if bit 7 of CTRL is 1");
        for (int dot = 338; dot <= 341; dot++) {
            GameConsole console = dot < 341 ? at(240, dot) : at(241, 0);
            console.write(0x2000, 0x80);
            CHECK.due("pending at 240, " + dot, console.core(7), 0);
            console.pass(1);
            CHECK.due("pending one cycle behind 240, " + dot, console.core(7), dot == 338 ? 0 : 1);
        }
        GameConsole off = at(240, 340);
        off.write(0x2000, 0x7F);
        off.pass(1);
        CHECK.due("bit 7 is 0", off.core(7), 0);
        GameConsole gone = at(240, 337);
        gone.write(0x2000, 0x80);
        gone.pass(1);
        gone.write(0x2000, 0x00);
        gone.pass(1);
        CHECK.due("bit 7 became 0 before", gone.core(7), 0);
        GameConsole twice = at(240, 340);
        twice.write(0x2000, 0x80);
        twice.pass(1);
        twice.pass(29781);
        CHECK.due("two of them are one", twice.core(7), 1);
        GameConsole again = at(240, 340);
        again.pass(1);
        CHECK.due("VBLANK", again.picture(6), 1);
        again.write(0x2000, 0x80);
        again.step();
        CHECK.due("taken", again.core(7), 0);
        again.pass(29781);
        CHECK.due("VBLANK was 0 and is 1 again: pending", again.core(7), 1);
    }

    private static void vblankEnds() {
        CHECK.sentence("at line 261, dot 1 it is 0");
        int[] lines = {260, 260, 261, 261, 261, 0};
        int[] dots = {1, 340, 0, 1, 2, 1};
        int[] due = {1, 1, 1, 0, 0, 0};
        for (int i = 0; i < lines.length; i++) {
            CHECK.due("VBLANK at " + lines[i] + ", " + dots[i], at(lines[i], dots[i]).picture(6), due[i]);
        }
        for (int dot = 339; dot <= 341; dot++) {
            GameConsole console = dot < 341 ? at(260, dot) : at(261, 0);
            console.pass(1);
            CHECK.due("VBLANK one cycle behind 260, " + dot, console.picture(6), 0);
        }
    }

    private static void nmiStays() {
        CHECK.sentence("it (VBLANK) is 0 (and a pending NMI stays)");
        GameConsole console = at(240, 340);
        console.write(0x2000, 0x80);
        console.pass(3000);
        CHECK.due("VBLANK", console.picture(6), 0);
        CHECK.due("pending", console.core(7), 1);
    }

    /** A counter that takes over the latch of 9 tells that a line was told. */
    private static int toldWithin(int line, int dot, int cycles) {
        GameConsole console = at(line, dot);
        console.write(0xC000, 9);
        console.write(0x2001, 0x08);
        console.pass(cycles);
        return console.cartridge(13);
    }

    private static void lineIsTold() {
        CHECK.sentence("At dot 260 of the lines .. the cartridge is told of a LINE.");
        int[] lines = {0, 1, 2, 239, 261};
        for (int line : lines) {
            CHECK.due("256 to 259 of " + line, toldWithin(line, 256, 1), 0);
            CHECK.due("257 to 260 of " + line, toldWithin(line, 257, 1), 9);
            CHECK.due("258 to 261 of " + line, toldWithin(line, 258, 1), 9);
            CHECK.due("259 to 262 of " + line, toldWithin(line, 259, 1), 9);
            CHECK.due("260 to 263 of " + line, toldWithin(line, 260, 1), 0);
            CHECK.due("261 to the end of " + line, toldWithin(line, 261, 26), 0);
        }
    }

    private static void linesThatAreTold() {
        CHECK.sentence("the lines 0 .. 239 and 261");
        for (int line = 0; line <= 261; line++) {
            int due = line < 240 || line == 261 ? 9 : 0;
            CHECK.due("line " + line, toldWithin(line, 200, 46), due);
        }
    }

    private static void maskSays() {
        CHECK.sentence("if MASK has bit 3 or 4");
        int[] masks = {0x00, 0x01, 0x02, 0x04, 0x08, 0x10, 0x20, 0x40, 0x80, 0x18, 0xE7, 0xFF};
        for (int mask : masks) {
            GameConsole console = new GameConsole(Rig.MMC3);
            console.write(0xC000, 9);
            console.write(0x2001, mask);
            console.pass(100);
            CHECK.due("MASK " + mask, console.cartridge(13), (mask & 0x18) != 0 ? 9 : 0);
        }
    }

    private static void maskAtThatDot() {
        CHECK.sentence("At dot 260 .., if MASK has (then) bit 3 or 4");
        GameConsole off = at(2, 254);
        off.write(0xC000, 9);
        off.write(0x2001, 0x18);
        off.pass(1);
        off.write(0x2001, 0);
        off.pass(20);
        CHECK.due("it had them before only", off.cartridge(13), 0);
        GameConsole late = at(2, 260);
        late.write(0xC000, 9);
        late.write(0x2001, 0x18);
        late.pass(20);
        CHECK.due("it has them afterwards only", late.cartridge(13), 0);
    }

    private static void manyLinesAtOnce() {
        CHECK.sentence("told of a LINE (as many as go by at once)");
        GameConsole console = new GameConsole(Rig.MMC3);
        console.write(0xC000, 255);
        console.write(0x2001, 0x08);
        console.pass(30000);
        place("behind 30000 cycles", console, 1, 317);
        CHECK.due("240 lines, line 261, and lines 0 and 1 again", console.cartridge(13), 255 - 242);
        GameConsole dma = new GameConsole(Rig.MMC3);
        dma.write(0xC000, 255);
        dma.write(0x2001, 0x08);
        dma.write(0x4014, 0);
        CHECK.due("four in the time of DMA", dma.cartridge(13), 255 - 3);
    }

    private static void oneByOne() {
        CHECK.sentence("Time goes on by so many cycles (at once or one by one)");
        int[] lines = {239, 240, 260, 261};
        for (int line : lines) {
            GameConsole once = at(line, 200);
            GameConsole single = at(line, 200);
            GameConsole[] both = {once, single};
            for (GameConsole console : both) {
                console.write(0xC000, 3);
                console.write(0xE001, 0);
                console.write(0x2001, 0x10);
                console.write(0x2000, 0x80);
            }
            once.pass(300);
            for (int i = 0; i < 300; i++) {
                single.pass(1);
            }
            CHECK.dueSame("300 cycles from line " + line, Look.at(once), Look.at(single));
        }
    }
}
