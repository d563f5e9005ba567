/** Edges of A STEP and of what it reads (promises 5, 6 and 11): which interrupt is taken, when, and what time does. */
public final class StepEdgesTest {
    private static final Check CHECK = new Check();

    public static void main(String[] args) {
        nmiIsTaken();
        nmiIsNotPendingAnyMore();
        irqIfIIsZero();
        irqOfEitherLine();
        elseTheInstruction();
        whatIsPushed();
        pushingWraps();
        vectors();
        interruptCycles();
        allAtOnceThenTime();
        nmiOfTheStepsOwnTime();
        eachByteOnce();
        inItsOrder();
        nothingElseIsRead();
        cyclesModulo();
        CHECK.finish();
    }

    /** An NMI is pending and the frame's IRQ line is 1. */
    private static GameConsole bothWait(int... program) {
        GameConsole console = Rig.with(Rig.MMC3, program);
        console.write(0x2000, 0x80);
        console.pass(29829);
        return console;
    }

    private static GameConsole lineIsOne(int... program) {
        GameConsole console = Rig.with(Rig.MMC3, program);
        console.pass(29829);
        return console;
    }

    private static void nmiIsTaken() {
        CHECK.sentence("if an NMI is PENDING, it is taken");
        int[] programs = {0x78, 0x58};
        for (int opcode : programs) {
            GameConsole console = Rig.with(Rig.MMC3, opcode, 0xEA);
            console.step();
            console.write(0x2000, 0x80);
            console.pass(29829);
            CHECK.due("an IRQ line is 1 too", console.core(8), 1);
            CHECK.due("cycles, I set by " + opcode, console.step(), 7);
            CHECK.due("the NMI goes first, I set by " + opcode, console.core(5), Rig.NMI_AT);
        }
    }

    private static void nmiIsNotPendingAnyMore() {
        CHECK.sentence("(not pending any more)");
        GameConsole console = bothWait(0xEA);
        console.step();
        CHECK.due("pending", console.core(7), 0);
        console.write(Rig.NMI_AT, 0xEA);
        CHECK.due("the next step is an instruction", console.step(), 2);
        CHECK.due("PC", console.core(5), Rig.NMI_AT + 1);
        GameConsole again = bothWait(0xEA);
        again.pass(30000);
        CHECK.due("two VBLANKs make one NMI", again.core(7), 1);
        again.step();
        CHECK.due("it is gone with one step", again.core(7), 0);
    }

    private static void irqIfIIsZero() {
        CHECK.sentence("else, if an IRQ LINE is 1 and I is 0, an IRQ");
        GameConsole off = lineIsOne(0xEA, 0x58, 0xEA);
        CHECK.due("I is 1", off.step(), 2);
        CHECK.due("CLI itself", off.step(), 2);
        CHECK.due("behind CLI at once", off.step(), 7);
        CHECK.due("PC", off.core(5), Rig.IRQ_AT);
        CHECK.due("the line stays", off.core(8), 1);
        GameConsole sei = Rig.with(Rig.MMC3, 0x58, 0x78, 0xEA);
        sei.step();
        sei.pass(29828);
        CHECK.due("the line before SEI", sei.core(8), 1);
        CHECK.due("before SEI is done, an IRQ", sei.step(), 7);
        GameConsole plp = lineIsOne(0xA9, 0x00, 0x48, 0x28, 0xEA);
        plp.run(3);
        CHECK.due("behind PLP at once", plp.step(), 7);
        GameConsole behindNmi = Rig.with(Rig.MMC3, 0x58, 0xEA);
        behindNmi.step();
        behindNmi.write(0x2000, 0x80);
        behindNmi.pass(29829);
        behindNmi.write(Rig.NMI_AT, 0x40);
        behindNmi.step();
        CHECK.due("the NMI made I 1: RTI", behindNmi.step(), 6);
        CHECK.due("then the IRQ", behindNmi.step(), 7);
        CHECK.due("PC", behindNmi.core(5), Rig.IRQ_AT);
    }

    private static void irqOfEitherLine() {
        CHECK.sentence("an IRQ LINE is 1 (the frame's or the cartridge's)");
        GameConsole both = Rig.with(Rig.MMC3, 0x58, 0xEA, 0xEA, 0xEA);
        both.step();
        both.pass(29830);
        both.write(0x2001, 8);
        both.write(0xE001, 0);
        both.pass(114);
        CHECK.due("both lines", both.core(8), 3);
        CHECK.due("IRQ by both", both.step(), 7);
        both.write(Rig.IRQ_AT, 0x40);
        both.step();
        both.read(0x4015);
        CHECK.due("IRQ by the cartridge's", both.step(), 7);
        both.step();
        both.write(0xE000, 0);
        CHECK.due("no line: the instruction", both.step(), 2);
    }

    private static void elseTheInstruction() {
        CHECK.sentence("else the instruction at PC is done.");
        GameConsole console = Rig.with(Rig.MMC3, 0xE8);
        CHECK.due("cycles", console.step(), 2);
        CHECK.due("X", console.core(1), 1);
        CHECK.due("PC", console.core(5), Rig.START + 1);
    }

    private static void whatIsPushed() {
        CHECK.sentence("Taking one: PC (high, then low) and P are pushed, I is 1");
        GameConsole nmi = bothWait(0xEA);
        nmi.step();
        CHECK.due("NMI, PC's high byte", nmi.read(0x01FD), 0x02);
        CHECK.due("NMI, PC's low byte", nmi.read(0x01FC), 0x00);
        CHECK.due("NMI, P without bit 16", nmi.read(0x01FB), 0x24);
        CHECK.due("NMI, S", nmi.core(3), 0xFA);
        CHECK.due("NMI, P", nmi.core(4), 0x24);
        GameConsole irq = lineIsOne(0xA9, 0xCB, 0x48, 0x28, 0xEA);
        irq.run(3);
        irq.step();
        CHECK.due("IRQ, PC's high byte", irq.read(0x01FD), 0x02);
        CHECK.due("IRQ, PC's low byte", irq.read(0x01FC), 0x04);
        CHECK.due("IRQ, P without bit 16 and I", irq.read(0x01FB), 0xEB);
        CHECK.due("IRQ, S", irq.core(3), 0xFA);
        CHECK.due("IRQ, P with I, D stays", irq.core(4), 0xEF);
    }

    private static void pushingWraps() {
        CHECK.sentence("PC (high, then low) and P are pushed (S is a byte)");
        for (int s = 0; s < 3; s++) {
            GameConsole console = Rig.with(Rig.MMC3, 0xA2, s, 0x9A, 0xEA);
            console.run(2);
            console.write(0x2000, 0x80);
            console.pass(29829);
            console.step();
            CHECK.due("high, from " + s, console.read(0x0100 | s), 0x02);
            CHECK.due("low, from " + s, console.read(0x0100 | s - 1 & 0xFF), 0x03);
            CHECK.due("P, from " + s, console.read(0x0100 | s - 2 & 0xFF), s == 0 ? 0x26 : 0x24);
            CHECK.due("S, from " + s, console.core(3), s - 3 & 0xFF);
        }
    }

    private static void vectors() {
        CHECK.sentence("PC is the word at 0xFFFA (NMI) or 0xFFFE (IRQ)");
        int[] words = {0x0000, 0x00FF, 0xFF00, 0xFFFF};
        for (int word : words) {
            GameConsole nmi = bothWait(0xEA);
            Rig.vectors(nmi, word, 0x1234, 0x5678);
            nmi.step();
            CHECK.due("NMI to " + word, nmi.core(5), word);
            GameConsole irq = lineIsOne(0x58, 0xEA);
            Rig.vectors(irq, 0x1234, 0x5678, word);
            irq.run(2);
            CHECK.due("IRQ to " + word, irq.core(5), word);
        }
        GameConsole bank = new GameConsole(Rig.MMC1);
        bank.rom(3 * 64 + 58, 0x33);
        bank.rom(7 * 64 + 58, 0x77);
        Rig.shift(bank, 0x8000, 0);
        bank.write(0x2000, 0x80);
        bank.pass(27394);
        bank.step();
        CHECK.due("the word of the bank that is there", bank.core(5), 0x0033);
    }

    private static void interruptCycles() {
        CHECK.sentence("Taking one: 7 cycles");
        GameConsole nmi = bothWait(0xEA);
        int before = nmi.core(6);
        CHECK.due("NMI", nmi.step(), 7);
        CHECK.due("all cycles behind NMI", nmi.core(6), before + 7);
        GameConsole irq = lineIsOne(0x58, 0xEA);
        irq.step();
        before = irq.core(6);
        CHECK.due("IRQ", irq.step(), 7);
        CHECK.due("all cycles behind IRQ", irq.core(6), before + 7);
    }

    private static void allAtOnceThenTime() {
        CHECK.sentence("All that a step does happens at once, then TIME goes on by its cycles.");
        GameConsole status = Rig.with(Rig.MMC3, 0xAD, 0x02, 0x20, 0xAD, 0x02, 0x20);
        status.pass(27393);
        status.step();
        CHECK.due("VBLANK comes behind the reading", status.core(0), 0);
        CHECK.due("VBLANK", status.picture(6), 1);
        status.step();
        CHECK.due("then it is read", status.core(0), 0x80);
        CHECK.due("VBLANK is 0 then", status.picture(6), 0);
        GameConsole sound = Rig.with(Rig.MMC3, 0xAD, 0x15, 0x40);
        sound.pass(29828);
        sound.step();
        CHECK.due("the frame's line comes behind the reading", sound.core(0), 0);
        CHECK.due("the frame's line", sound.core(8), 1);
        GameConsole mask = Rig.with(Rig.MMC3, 0xA9, 0x08, 0x8D, 0x01, 0x20);
        mask.write(0xC000, 5);
        mask.pass(83);
        mask.step();
        CHECK.due("at dot 255", mask.picture(9), 255);
        mask.step();
        CHECK.due("MASK is there before its own step's dots", mask.cartridge(13), 5);
        GameConsole control = Rig.with(Rig.MMC3, 0xA9, 0x80, 0x8D, 0x00, 0x20);
        control.pass(27389);
        control.run(2);
        CHECK.due("CTRL is there before its own step's dots", control.core(7), 1);
        GameConsole dma = Rig.with(Rig.MMC3, 0xA9, 0x40, 0x8D, 0x14, 0x40);
        dma.pass(29400);
        dma.run(2);
        CHECK.due("DMA read 0x4015 before its time went by", dma.oam(0x15), 0);
        CHECK.due("the frame's line came in its time", dma.core(8), 1);
    }

    private static void nmiOfTheStepsOwnTime() {
        CHECK.sentence("then TIME goes on by its cycles (an NMI that it brings is the next step's)");
        GameConsole console = Rig.with(Rig.MMC3, 0xE8, 0xE8);
        console.write(0x2000, 0x80);
        console.pass(27393);
        CHECK.due("the step in whose time it comes", console.step(), 2);
        CHECK.due("X behind it", console.core(1), 1);
        CHECK.due("pending", console.core(7), 1);
        CHECK.due("the next step", console.step(), 7);
        CHECK.due("X behind it", console.core(1), 1);
        GameConsole run = Rig.with(Rig.MMC3, 0xE8, 0xE8);
        run.write(0x2000, 0x80);
        run.pass(27393);
        CHECK.due("two steps by run", run.run(2), 9);
    }

    private static void eachByteOnce() {
        CHECK.sentence("Each byte of an instruction is read once over the bus");
        int[] opcodes = {0xE8, 0xA9, 0xAD};
        for (int i = 0; i < opcodes.length; i++) {
            GameConsole console = new GameConsole(Rig.MMC3);
            Rig.vectors(console, 0, 0x2007, 0);
            Rig.pictureAddress(console, 0x2000);
            console.write(0x2007, opcodes[i]);
            Rig.pictureAddress(console, 0x2000);
            console.read(0x2007);
            console.reset();
            console.step();
            CHECK.due("V behind opcode " + opcodes[i] + " out of register 7", console.picture(0), 0x2002);
            CHECK.due("PC", console.core(5), 0x2007 + i + 1);
        }
        GameConsole operand = new GameConsole(Rig.MMC3);
        Rig.vectors(operand, 0, 0x4015, 0);
        operand.reset();
        operand.write(0x4015, 9);
        operand.write(0x4003, 8);
        operand.write(0x400F, 8);
        operand.pad(0, 0b101);
        operand.write(0x4016, 1);
        operand.write(0x4016, 0);
        CHECK.due("lengths 0 and 3 make 0x4015 an ORA", operand.step(), 2);
        CHECK.due("its operand is the pad's first bit", operand.core(0), 1);
        CHECK.due("the pad's second bit is still there", operand.read(0x4016), 0);
        CHECK.due("PC", operand.core(5), 0x4017);
    }

    private static void inItsOrder() {
        CHECK.sentence("then what it needs, in its order");
        GameConsole pad = Rig.with(Rig.MMC3, 0x6C, 0x16, 0x40);
        pad.pad(0, 0);
        pad.pad(1, 0xFF);
        pad.write(0x4016, 1);
        pad.write(0x4016, 0);
        pad.step();
        CHECK.due("JMP ( ) reads the low byte, then the high one", pad.core(5), 0x0100);
        GameConsole change = Rig.with(Rig.MMC3, 0xEE, 0x07, 0x20);
        Rig.pictureAddress(change, 0x2000);
        change.write(0x2007, 0x10);
        change.write(0x2007, 0x20);
        Rig.pictureAddress(change, 0x2000);
        change.read(0x2007);
        Rig.pictureAddress(change, 0x2001);
        change.step();
        CHECK.due("INC reads the buffer, then writes behind", change.memory(0x2002), 0x11);
        CHECK.due("V", change.picture(0), 0x2003);
        CHECK.due("the byte that was read stays", change.memory(0x2001), 0x20);
        GameConsole pulled = Rig.at(Rig.MMC3, 0x01FB, 0x20, 0x34, 0x12);
        pulled.step();
        CHECK.due("JSR reads its operand before it pushes there", pulled.core(5), 0x1234);
    }

    private static void nothingElseIsRead() {
        CHECK.sentence("and nothing else.");
        int[] noReads = {0x8D, 0x8E, 0x8C};
        for (int opcode : noReads) {
            GameConsole console = Rig.with(Rig.MMC3, opcode, 0x02, 0x20);
            console.pass(27394);
            console.step();
            CHECK.due("a store reads nothing: " + opcode, console.picture(6), 1);
        }
        int[] oneByte = {0x08, 0x0A, 0x48, 0x4A};
        for (int opcode : oneByte) {
            GameConsole console = new GameConsole(Rig.MMC3);
            Rig.vectors(console, 0, 0x4015, 0);
            console.reset();
            console.pass(opcode > 0x0F ? 29829 : 0);
            console.write(0x4015, 0x0F & opcode);
            for (int channel = 0; channel < 4; channel++) {
                console.write(0x4003 + 4 * channel, 8);
            }
            console.pad(0, 0b10);
            console.write(0x4016, 1);
            console.write(0x4016, 0);
            console.step();
            CHECK.due("one byte out of 0x4015: " + opcode, console.core(5), 0x4016);
            CHECK.due("the pad behind it was not read", console.read(0x4016), 0);
        }
        GameConsole crossing = Rig.with(Rig.MMC3, 0xA2, 0x05, 0xBD, 0xFD, 0x20);
        crossing.pass(27394);
        crossing.run(2);
        CHECK.due("0x20FD by 5 reads 0x2102, not 0x2002", crossing.picture(6), 0);
        GameConsole wrong = Rig.with(Rig.MMC3, 0xA2, 0x10, 0xBD, 0xF7, 0x20, 0xBD, 0xF2, 0x20);
        wrong.run(3);
        CHECK.due("0x20F7 by 16 reads register 7 once, 0x20F2 by 16 not", wrong.picture(0), 1);
        GameConsole taken = new GameConsole(Rig.MMC3);
        taken.write(0x1FFE, 0xD0);
        taken.write(0x1FFF, 0x10);
        Rig.vectors(taken, 0, 0x1FFE, 0);
        taken.pass(27394);
        taken.reset();
        taken.step();
        CHECK.due("a branch reads nothing behind itself", taken.picture(6), 1);
    }

    private static void cyclesModulo() {
        CHECK.sentence("all cycles that have gone by, modulo 65536 (6)");
        GameConsole console = Rig.with(Rig.MMC1, 0xEA, 0xEA, 0x8D, 0x14, 0x40);
        console.pass(30000);
        console.pass(30000);
        console.pass(5533);
        CHECK.due("before", console.core(6), 65533);
        console.step();
        CHECK.due("the last", console.core(6), 65535);
        console.step();
        CHECK.due("over the end", console.core(6), 1);
        CHECK.due("65537 is odd", console.step(), 4 + 514);
        CHECK.due("behind DMA", console.core(6), 519);
    }
}
