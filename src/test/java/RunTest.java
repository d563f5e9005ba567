/** Promise 6: run. */
public final class RunTest {
    public static void main(String[] args) {
        Check check = new Check();
        GameConsole console = Rig.with(Rig.MMC3, 0xE8, 0xEE, 0, 3, 0x4C, 0x00, 0x02);
        check.due("no steps", console.run(0), 0);
        check.due("PC", console.core(5), Rig.START);
        check.due("one step", console.run(1), 2);
        check.due("two steps", console.run(2), 9);
        check.due("X", console.core(1), 1);
        check.due("200 steps", console.run(200), 66 * 11 + 2 + 6);
        check.due("X behind them", console.core(1), 1 + 67);
        check.due("the cell behind them", console.read(0x0300), 1 + 67);
        check.due("cycles", console.core(6), 2 + 9 + 66 * 11 + 8);
        int[] wrong = {-1, 201, 1000, Integer.MIN_VALUE, Integer.MAX_VALUE};
        for (int steps : wrong) {
            int pc = console.core(5);
            check.due("run " + steps, console.run(steps), -1);
            check.due("no step was done", console.core(5), pc);
        }
        check.due("cycles stay", console.core(6), 2 + 9 + 66 * 11 + 8);
        withInterruptsAndDma(check);
        check.finish();
    }

    private static void withInterruptsAndDma(Check check) {
        GameConsole console = Rig.with(Rig.MMC3, 0x8D, 0x14, 0x40, 0xEA, 0x8D, 0x14, 0x40);
        check.due("two DMAs and a NOP", console.run(3), 4 + 513 + 2 + 4 + 514);
        GameConsole other = Rig.with(Rig.MMC3, 0xEA);
        other.write(0x2000, 0x80);
        Rig.passTo(other, 241, 1);
        Rig.put(other, Rig.NMI_AT, 0x40);
        check.due("an NMI, RTI and NOP", other.run(3), 7 + 6 + 2);
        check.due("PC", other.core(5), Rig.START + 1);
    }
}
