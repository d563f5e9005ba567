/** Promise 12: picture. */
public final class PictureTest {
    public static void main(String[] args) {
        Check check = new Check();
        GameConsole console = new GameConsole(Rig.MMC1);
        Rig.pictureAddress(console, 0x2111);
        console.write(0x2007, 0x5B);
        Rig.pictureAddress(console, 0x2111);
        console.read(0x2007);
        console.write(0x2000, 0x02);
        console.write(0x2001, 0x1E);
        console.write(0x2003, 0x99);
        console.write(0x2005, 0x7D);
        Rig.passTo(console, 241, 1);
        console.pass(40);
        int[] due = {0x2112, 0x290F, 5, 1, 0x02, 0x1E, 1, 0x99, 241, 121, 0x5B};
        for (int round = 0; round < 2; round++) {
            for (int what = 0; what < due.length; what++) {
                check.due("picture " + what, console.picture(what), due[what]);
            }
        }
        int[] wrong = {-1, 11, 12, 100, Integer.MIN_VALUE, Integer.MAX_VALUE};
        for (int what : wrong) {
            check.dueThrow("picture " + what, IndexOutOfBoundsException.class, () -> console.picture(what));
        }
        check.finish();
    }
}
