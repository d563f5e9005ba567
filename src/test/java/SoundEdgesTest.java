/** Edges of SOUND and its FRAME (promises 7 to 9 and 16): lengths at 0, the frame's marks, and its IRQ line. */
public final class SoundEdgesTest {
    private static final Check CHECK = new Check();
    private static final int[] TABLE = {
        10, 254, 20, 2, 40, 4, 80, 6, 160, 8, 60, 10, 14, 12, 26, 14,
        12, 16, 24, 18, 48, 20, 96, 22, 192, 24, 72, 26, 16, 28, 32, 30
    };

    public static void main(String[] args) {
        haltBits();
        upperFiveBits();
        ifEnabled();
        othersAreZero();
        statusRead();
        statusLine();
        longAndQuiet();
        quietTakesTheLine();
        frameBeginsAnew();
        countedIfLong();
        countedAboveZero();
        countedWithoutHalt();
        theMiddle();
        theEnd();
        theLongEnd();
        theLine();
        oneCycleLater();
        marksAtOnce();
        aStepsOwnCycles();
        writtenAtAMark();
        CHECK.finish();
    }

    private static GameConsole ringing(int value) {
        GameConsole console = new GameConsole(Rig.MMC3);
        console.write(0x4015, 15);
        for (int channel = 0; channel < 4; channel++) {
            console.write(0x4003 + 4 * channel, value);
        }
        return console;
    }

    private static void lengths(String name, GameConsole console, int... due) {
        for (int channel = 0; channel < 4; channel++) {
            CHECK.due(name + ": length " + channel, console.sound(channel), due[channel]);
        }
    }

    private static void frame(String name, GameConsole console, int cycles, int length, int line) {
        CHECK.due(name + ": cycles", console.sound(4), cycles);
        CHECK.due(name + ": length", console.sound(0), length);
        CHECK.due(name + ": line", console.core(8), line);
    }

    private static void haltBits() {
        CHECK.sentence("HALT (bit 5 of the first register, of the third one bit 7)");
        for (int channel = 0; channel < 4; channel++) {
            for (int bit = 0; bit < 8; bit++) {
                GameConsole console = ringing(0);
                console.write(0x4000 + 4 * channel, 1 << bit);
                console.write(0x4017, 0x80);
                int[] due = {9, 9, 9, 9};
                if (bit == (channel == 2 ? 7 : 5)) {
                    due[channel] = 10;
                }
                lengths("bit " + bit + " of " + channel, console, due);
            }
        }
        GameConsole atFirst = ringing(0);
        atFirst.write(0x4017, 0x80);
        lengths("none is halted at first", atFirst, 9, 9, 9, 9);
    }

    private static void upperFiveBits() {
        CHECK.sentence("the length is that of the upper five bits in 10 254 20 .. 28 32 30");
        for (int i = 0; i < 32; i++) {
            int due = TABLE[i];
            lengths("place " + i, ringing(i * 8), due, due, due, due);
            lengths("place " + i + " and lower bits", ringing(i * 8 + 7), due, due, due, due);
        }
        GameConsole again = ringing(8);
        again.write(0x4003, 0x18);
        lengths("a length that is there is put anew", again, 2, 254, 254, 254);
    }

    private static void ifEnabled() {
        CHECK.sentence("written: if enabled, the length is ..");
        GameConsole none = new GameConsole(Rig.MMC3);
        for (int channel = 0; channel < 4; channel++) {
            none.write(0x4003 + 4 * channel, 8);
        }
        lengths("none is enabled at first", none, 0, 0, 0, 0);
        none.write(0x4015, 15);
        lengths("enabling puts none", none, 0, 0, 0, 0);
        for (int channel = 0; channel < 4; channel++) {
            GameConsole one = new GameConsole(Rig.MMC3);
            one.write(0x4015, 1 << channel);
            for (int other = 0; other < 4; other++) {
                one.write(0x4003 + 4 * other, 8);
            }
            int[] due = new int[4];
            due[channel] = 254;
            lengths("enabled " + channel, one, due);
        }
    }

    private static void othersAreZero() {
        CHECK.sentence("0x4015 written: enabled are those of bits 0 .. 3, the others' lengths are 0");
        lengths("0x0F", enabledWith(0x0F), 254, 254, 254, 254);
        lengths("0xF0", enabledWith(0xF0), 0, 0, 0, 0);
        lengths("0x00", enabledWith(0x00), 0, 0, 0, 0);
        lengths("0xFF", enabledWith(0xFF), 254, 254, 254, 254);
        lengths("0x05", enabledWith(0x05), 254, 0, 254, 0);
        lengths("0x0A", enabledWith(0x0A), 0, 254, 0, 254);
        GameConsole halted = ringing(8);
        halted.write(0x4000, 0x20);
        halted.write(0x4015, 0);
        CHECK.due("HALT does not keep it", halted.sound(0), 0);
        GameConsole line = ringing(8);
        line.pass(29829);
        line.write(0x4015, 15);
        CHECK.due("the frame's line stays", line.core(8), 1);
    }

    private static GameConsole enabledWith(int value) {
        GameConsole console = ringing(8);
        console.write(0x4015, value);
        return console;
    }

    private static void statusRead() {
        CHECK.sentence("read: bits 0 .. 3 for lengths above 0");
        CHECK.due("none", new GameConsole(Rig.MMC3).read(0x4015), 0);
        for (int bits = 0; bits < 16; bits++) {
            CHECK.due("lengths " + bits, enabledWith(bits).read(0x4015), bits);
        }
        GameConsole enabled = new GameConsole(Rig.MMC3);
        enabled.write(0x4015, 15);
        CHECK.due("enabled, but 0", enabled.read(0x4015), 0);
        GameConsole last = ringing(0x18);
        last.write(0x4017, 0x80);
        CHECK.due("lengths of 1", last.read(0x4015), 15);
        last.write(0x4017, 0x80);
        CHECK.due("lengths of 0", last.read(0x4015), 0);
    }

    private static void statusLine() {
        CHECK.sentence("bit 6 the FRAME's IRQ line, which is 0 then");
        GameConsole console = new GameConsole(Rig.MMC3);
        console.pass(29828);
        CHECK.due("before", console.read(0x4015), 0);
        console.pass(1);
        CHECK.due("the line", console.read(0x4015), 0x40);
        CHECK.due("it is 0 then", console.core(8), 0);
        CHECK.due("again", console.read(0x4015), 0);
        GameConsole cartridge = new GameConsole(Rig.MMC3);
        cartridge.write(0x2001, 8);
        cartridge.write(0xE001, 0);
        cartridge.pass(29829);
        CHECK.due("both lines", cartridge.core(8), 3);
        CHECK.due("the cartridge's is not shown", cartridge.read(0x4015), 0x40);
        CHECK.due("the cartridge's stays", cartridge.core(8), 2);
        CHECK.due("the cartridge's alone is not shown", cartridge.read(0x4015), 0);
    }

    private static void longAndQuiet() {
        CHECK.sentence("0x4017 written: bit 7 LONG, bit 6 QUIET");
        for (int value = 0; value < 256; value += 5) {
            GameConsole console = ringing(0);
            console.write(0x4017, value);
            boolean isLong = value >= 128;
            console.pass(29829);
            boolean line = !isLong && (value & 0x40) == 0;
            frame("by " + value, console, 29829, 8, line ? 1 : 0);
            console.pass(1);
            CHECK.due("one more by " + value, console.sound(4), isLong ? 29830 : 0);
        }
    }

    private static void quietTakesTheLine() {
        CHECK.sentence("(then the frame's IRQ line is 0)");
        int[] values = {0x40, 0xC0, 0x7F, 0xFF, 0x00, 0x80, 0xBF, 0x3F};
        for (int value : values) {
            GameConsole console = new GameConsole(Rig.MMC3);
            console.pass(29829);
            console.write(0x4017, value);
            CHECK.due("the line by " + value, console.core(8), (value & 0x40) != 0 ? 0 : 1);
        }
        GameConsole cartridge = new GameConsole(Rig.MMC3);
        cartridge.write(0x2001, 8);
        cartridge.write(0xE001, 0);
        cartridge.pass(29829);
        cartridge.write(0x4017, 0x40);
        CHECK.due("the cartridge's line stays", cartridge.core(8), 2);
    }

    private static void frameBeginsAnew() {
        CHECK.sentence("the FRAME begins anew (its cycles are 0)");
        int[] times = {0, 1, 14912, 14913, 14914, 29828, 29829};
        int[] values = {0x00, 0x40, 0x80, 0xC0};
        for (int time : times) {
            for (int value : values) {
                GameConsole console = new GameConsole(Rig.MMC3);
                console.pass(time);
                console.write(0x4017, value);
                CHECK.due(value + " behind " + time, console.sound(4), 0);
                console.pass(100);
                CHECK.due(value + " behind " + time + ", later", console.sound(4), 100);
            }
        }
    }

    private static void countedIfLong() {
        CHECK.sentence("and if it is long, lengths are COUNTED.");
        int[] values = {0x00, 0x40, 0x7F, 0x80, 0xC0, 0xFF};
        for (int value : values) {
            GameConsole console = ringing(0);
            console.write(0x4017, value);
            int due = value >= 0x80 ? 9 : 10;
            lengths("by " + value, console, due, due, due, due);
            console.write(0x4017, value);
            int then = value >= 0x80 ? 8 : 10;
            lengths("by " + value + " twice", console, then, then, then, then);
        }
        GameConsole back = ringing(0);
        back.write(0x4017, 0x80);
        back.write(0x4017, 0x00);
        lengths("long before is not long now", back, 9, 9, 9, 9);
    }

    private static void countedAboveZero() {
        CHECK.sentence("Counted: each one above 0 .. is 1 less.");
        GameConsole console = ringing(0x18);
        console.write(0x4007, 8);
        int[] due = {1, 0, 0, 0};
        for (int i = 0; i < due.length; i++) {
            console.write(0x4017, 0x80);
            lengths("counted " + (i + 1) + " times", console, due[i], 253 - i, due[i], due[i]);
        }
        GameConsole none = new GameConsole(Rig.MMC3);
        none.write(0x4017, 0x80);
        lengths("0 at first stays 0", none, 0, 0, 0, 0);
        GameConsole all = ringing(8);
        for (int i = 0; i < 254; i++) {
            all.write(0x4017, 0x80);
        }
        lengths("254 times", all, 0, 0, 0, 0);
        all.write(0x4017, 0x80);
        lengths("255 times", all, 0, 0, 0, 0);
    }

    private static void countedWithoutHalt() {
        CHECK.sentence("each one .. that has not HALT is 1 less.");
        GameConsole console = ringing(0);
        console.write(0x4000, 0x20);
        console.write(0x4004, 0x20);
        console.write(0x4008, 0x80);
        console.write(0x400C, 0x20);
        console.pass(14913);
        console.write(0x4017, 0x80);
        lengths("all are halted", console, 10, 10, 10, 10);
        console.write(0x4004, 0xDF);
        console.write(0x4008, 0x7F);
        console.write(0x4017, 0x80);
        lengths("two are not any more", console, 10, 9, 9, 10);
    }

    private static void theMiddle() {
        CHECK.sentence("When the frame's cycles come to 14913: counted");
        int[] values = {0x00, 0x40};
        for (int value : values) {
            GameConsole console = ringing(0);
            console.write(0x4017, value);
            console.pass(14912);
            frame("before, by " + value, console, 14912, 10, 0);
            console.pass(1);
            frame("there, by " + value, console, 14913, 9, 0);
            console.pass(1);
            frame("behind, by " + value, console, 14914, 9, 0);
        }
        GameConsole isLong = ringing(0);
        isLong.write(0x4017, 0x80);
        isLong.pass(14912);
        frame("before, long", isLong, 14912, 9, 0);
        isLong.pass(1);
        frame("there, long", isLong, 14913, 8, 0);
        isLong.pass(1);
        frame("behind, long", isLong, 14914, 8, 0);
    }

    private static void theEnd() {
        CHECK.sentence("to 29829: counted, and, unless long or quiet, the frame's IRQ line is 1");
        GameConsole console = ringing(0);
        console.pass(29828);
        frame("before", console, 29828, 9, 0);
        console.pass(1);
        frame("there", console, 29829, 8, 1);
        GameConsole quiet = ringing(0);
        quiet.write(0x4017, 0x40);
        quiet.pass(29828);
        frame("before, quiet", quiet, 29828, 9, 0);
        quiet.pass(1);
        frame("there, quiet", quiet, 29829, 8, 0);
        GameConsole isLong = ringing(0);
        isLong.write(0x4017, 0x80);
        isLong.pass(29829);
        frame("long is not there yet", isLong, 29829, 8, 0);
        isLong.pass(1);
        frame("long goes on", isLong, 29830, 8, 0);
    }

    private static void theLongEnd() {
        CHECK.sentence("(37281 if long): counted, and, unless long or quiet, the frame's IRQ line is 1");
        int[] values = {0x80, 0xC0};
        for (int value : values) {
            GameConsole console = ringing(0);
            console.write(0x4017, value);
            console.pass(30000);
            console.pass(7280);
            frame("before, by " + value, console, 37280, 8, 0);
            console.pass(1);
            frame("there, by " + value, console, 37281, 7, 0);
            console.pass(1);
            frame("behind, by " + value, console, 0, 7, 0);
            console.pass(14913);
            frame("the next one's middle, by " + value, console, 14913, 6, 0);
        }
    }

    private static void theLine() {
        CHECK.sentence("the frame's IRQ line is 1 (until it is read or made quiet)");
        GameConsole console = new GameConsole(Rig.MMC3);
        console.pass(29829);
        console.pass(30000);
        CHECK.due("it stays", console.core(8), 1);
        CHECK.due("it is read", console.read(0x4015), 0x40);
        CHECK.due("it is 0", console.core(8), 0);
        console.pass(29829);
        CHECK.due("it comes again", console.core(8), 1);
    }

    private static void oneCycleLater() {
        CHECK.sentence("one cycle later they are 0.");
        GameConsole console = ringing(0);
        console.pass(29829);
        console.read(0x4015);
        console.pass(1);
        frame("behind the end", console, 0, 8, 0);
        console.pass(1);
        frame("one more", console, 1, 8, 0);
        console.pass(14911);
        frame("before the next middle", console, 14912, 8, 0);
        console.pass(1);
        frame("the next middle", console, 14913, 7, 0);
        console.pass(14916);
        frame("the next end", console, 29829, 6, 1);
    }

    private static void marksAtOnce() {
        CHECK.sentence("(They go on with time) over several marks at once");
        GameConsole console = ringing(0);
        console.pass(14912);
        console.pass(30000);
        frame("middle, end, and nearly the next middle", console, 14912 + 30000 - 29830, 7, 1);
        GameConsole both = ringing(0);
        both.pass(30000);
        frame("middle and end", both, 170, 8, 1);
        GameConsole three = ringing(0);
        three.pass(14900);
        three.pass(29999);
        frame("middle, end and middle", three, 15069, 7, 1);
        GameConsole single = ringing(0);
        single.pass(14900);
        for (int i = 0; i < 200; i++) {
            single.pass(i < 100 ? 1 : 150);
        }
        frame("one by one", single, (14900 + 100 + 15000) % 29830, 8, 1);
    }

    private static void aStepsOwnCycles() {
        CHECK.sentence("a step that begins the frame anew has its own cycles counted in the new one.");
        GameConsole console = Rig.with(Rig.MMC3, 0x8D, 0x17, 0x40, 0xEA);
        console.pass(5000);
        console.step();
        CHECK.due("STA's four", console.sound(4), 4);
        console.step();
        CHECK.due("and NOP's two", console.sound(4), 6);
        GameConsole late = Rig.with(Rig.MMC3, 0x8D, 0x17, 0x40);
        late.pass(29828);
        late.step();
        CHECK.due("the old frame's end is not come to", late.core(8), 0);
        CHECK.due("the new frame's cycles", late.sound(4), 4);
        GameConsole write = new GameConsole(Rig.MMC3);
        write.pass(5000);
        write.write(0x4017, 0);
        CHECK.due("a write has no cycles", write.sound(4), 0);
    }

    private static void writtenAtAMark() {
        CHECK.sentence("come to 14913 .., to 29829 (once each: a new frame comes to them anew)");
        GameConsole console = ringing(0);
        console.pass(14913);
        console.write(0x4017, 0);
        console.pass(14912);
        frame("nearly again", console, 14912, 9, 0);
        console.pass(1);
        frame("the middle again", console, 14913, 8, 0);
        GameConsole isLong = ringing(0);
        isLong.write(0x4017, 0x80);
        isLong.pass(30000);
        isLong.write(0x4017, 0x00);
        frame("short behind the short end", isLong, 0, 8, 0);
        isLong.pass(29829);
        frame("its end", isLong, 29829, 6, 1);
    }
}
