/** Promises 14 to 20: the limit, runs, wear, mending and scans. */
public final class RunsTest {
    private static final Check CHECK = new Check("runs");

    public static void main(String[] args) {
        setLimit();
        setLimitWhileLent();
        run();
        runThrows();
        wear();
        mend();
        mendThrows();
        scan();
        scanOfOneFrame();
        scanHalfOfLimit();
        scanAtGreatestSize();
        scanThrows();
        missedAfterMend();
        CHECK.end();
    }

    /** A film with one reel of shots of these lengths. */
    private static Spliceroom reelOf(int... lengths) {
        Spliceroom x = new Spliceroom();
        x.addFilm();
        x.addReel(0);
        for (int i = 0; i < lengths.length; i++) {
            x.addShot(0, lengths[i], 0);
            x.put(0, i);
        }
        return x;
    }

    private static Spliceroom worn(int times, int... lengths) {
        Spliceroom x = reelOf(lengths);
        for (int i = 0; i < times; i++) {
            x.run(0);
        }
        return x;
    }

    private static void setLimit() {
        Spliceroom x = worn(5, 2, 2);
        CHECK.due(x, 10, "setLimit", 50);
        CHECK.due(x, 50, "setLimit", 5);
        CHECK.due(x, 5, "setLimit", 5);
        CHECK.refused(x, "unsupported", "setLimit", 4);
        CHECK.refused(x, "unsupported", "setLimit", 2);
        for (int wrong : new int[] {1, 0, -1, 51, Integer.MAX_VALUE, Integer.MIN_VALUE}) {
            CHECK.refused(x, "argument", "setLimit", wrong);
        }
        x.mend(0, 0);
        CHECK.due(x, 5, "setLimit", 2);
        CHECK.refused(x, "argument", "setLimit", 1);
    }

    private static void setLimitWhileLent() {
        Spliceroom x = reelOf(2, 2);
        x.addFilm();
        x.addVersion(1, 0);
        x.lend(0, 1, 0, 1);
        CHECK.refused(x, "unsupported", "setLimit", 9);
        CHECK.refused(x, "argument", "setLimit", 1);
        CHECK.due(x, 10, "setLimit", 10);
        CHECK.due(x, 10, "setLimit", 12);
        CHECK.refused(x, "unsupported", "setLimit", 11);
        x.giveBack(0);
        CHECK.due(x, 12, "setLimit", 2);
    }

    private static void run() {
        Spliceroom x = reelOf(2, 3, 4);
        CHECK.due(x, 1, "run", 0);
        CHECK.due(x, 2, "run", 0);
        CHECK.due(x, 18, "shown");
        x.mend(0, 0);
        CHECK.due(x, 3, "run", 0);
        CHECK.due(x, 1, "wear", 0, 0);
        CHECK.due(x, 3, "wear", 0, 1);
        CHECK.due(x, 26, "shown");
        x.found(0, 3, 9, 0);
        CHECK.due(x, 0, "run", 1);
        CHECK.due(x, 35, "shown");
        x.addReel(0);
        CHECK.due(x, 0, "run", 2);
        CHECK.due(x, 35, "shown");
    }

    private static void runThrows() {
        Spliceroom x = reelOf(2, 3, 4);
        CHECK.refused(x, "index", "run", 1);
        CHECK.refused(x, "index", "run", -1);
        for (int i = 1; i <= 9; i++) {
            CHECK.due(x, i, "run", 0);
        }
        x.mend(0, 1);
        CHECK.due(x, 10, "run", 0);
        CHECK.refused(x, "unsupported", "run", 0);
        x.setLimit(11);
        CHECK.due(x, 11, "run", 0);
        CHECK.refused(x, "unsupported", "run", 0);
        x.mend(0, 0);
        x.addVersion(0, 0);
        x.lend(0, 1, 0, 1);
        CHECK.refused(x, "unsupported", "run", 0);
        x.giveBack(0);
        CHECK.due(x, 3, "run", 0);
    }

    private static void wear() {
        Spliceroom x = worn(1, 2, 3, 4);
        CHECK.due(x, 1, "wear", 0, 0);
        CHECK.due(x, 1, "wear", 0, 1);
        CHECK.refused(x, "index", "wear", 0, 2);
        CHECK.refused(x, "index", "wear", 0, -1);
        CHECK.refused(x, "index", "wear", 1, 0);
        CHECK.refused(x, "index", "wear", -1, 0);
        x.found(0, 3, 9, 0);
        CHECK.refused(x, "index", "wear", 1, 0);
        x.addReel(0);
        CHECK.refused(x, "index", "wear", 2, 0);
        CHECK.refused(x, "index", "wear", 2, -1);
    }

    private static void mend() {
        Spliceroom x = worn(3, 2, 3, 4);
        CHECK.due(x, 3, "mend", 0, 1);
        CHECK.due(x, 0, "wear", 0, 1);
        CHECK.due(x, 3, "wear", 0, 0);
        CHECK.due(x, 2, "lengthOf", 0);
        CHECK.due(x, 2, "lengthOf", 1);
        CHECK.due(x, 4, "lengthOf", 2);
        CHECK.due(x, 0, "mend", 0, 1);
        CHECK.due(x, 1, "lengthOf", 1);
        CHECK.refused(x, "unsupported", "mend", 0, 1);
        CHECK.due(x, 3, "frameOf", 2);
    }

    private static void mendThrows() {
        Spliceroom x = worn(3, 2, 1, 4);
        CHECK.refused(x, "index", "mend", 1, 0);
        CHECK.refused(x, "index", "mend", -1, 0);
        CHECK.refused(x, "index", "mend", 0, 2);
        CHECK.refused(x, "index", "mend", 0, -1);
        CHECK.refused(x, "unsupported", "mend", 0, 1);
        x.addVersion(0, 0);
        x.lend(0, 1, 0, 1);
        CHECK.refused(x, "unsupported", "mend", 0, 0);
        CHECK.refused(x, "index", "mend", 0, 2);
        x.giveBack(0);
        CHECK.due(x, 3, "mend", 0, 0);
    }

    private static void scan() {
        Spliceroom x = worn(5, 2, 3, 4);
        CHECK.due(x, 4, "scan", 0, 1);
        CHECK.due(x, 1, "missed", 0);
        CHECK.due(x, 2, "missed", 1);
        CHECK.due(x, 1, "missed", 2);
        for (int shot = 0; shot < 3; shot++) {
            CHECK.due(x, 1, "scanned", shot);
        }
        Spliceroom y = worn(4, 2, 3, 4);
        CHECK.due(y, 0, "scan", 0, 4);
        CHECK.due(y, 4, "scanned", 1);
        CHECK.due(y, 0, "missed", 1);
        Spliceroom z = reelOf(5);
        z.addShot(0, 5, 0);
        CHECK.due(z, 0, "scan", 0, 2);
        CHECK.due(z, 2, "scanned", 0);
        CHECK.due(z, 0, "scanned", 1);
        CHECK.due(z, 0, "missed", 1);
    }

    private static void scanOfOneFrame() {
        Spliceroom x = worn(5, 1, 1, 2, 1);
        CHECK.due(x, 5, "scan", 0, 1);
        CHECK.due(x, 1, "missed", 0);
        CHECK.due(x, 1, "missed", 1);
        CHECK.due(x, 2, "missed", 2);
        CHECK.due(x, 1, "missed", 3);
    }

    private static void scanHalfOfLimit() {
        Spliceroom x = worn(5, 9, 9);
        x.setLimit(11);
        CHECK.due(x, 0, "scan", 0, 1);
        x.run(0);
        CHECK.due(x, 2, "scan", 0, 1);
        x.setLimit(12);
        CHECK.due(x, 2, "scan", 0, 1);
        x.setLimit(13);
        CHECK.due(x, 0, "scan", 0, 1);
        Spliceroom y = reelOf(9, 9);
        y.setLimit(2);
        CHECK.due(y, 0, "scan", 0, 1);
        y.run(0);
        CHECK.due(y, 2, "scan", 0, 1);
    }

    private static void scanAtGreatestSize() {
        Spliceroom x = worn(5, 9, 9, 9);
        CHECK.due(x, 4, "scan", 0, 3);
        x.mend(0, 0);
        CHECK.due(x, 2, "scan", 0, 2);
        CHECK.due(x, 3, "scanned", 0);
        CHECK.due(x, 1, "missed", 0);
        CHECK.due(x, 2, "missed", 1);
        CHECK.due(x, 2, "scan", 0, 3);
        CHECK.due(x, 3, "scanned", 0);
        CHECK.due(x, 0, "missed", 0);
        CHECK.due(x, 1, "missed", 1);
        CHECK.due(x, 1, "missed", 2);
        x.mend(0, 1);
        CHECK.due(x, 0, "scan", 0, 4);
        CHECK.due(x, 4, "scanned", 2);
        CHECK.due(x, 0, "missed", 2);
    }

    private static void scanThrows() {
        Spliceroom x = worn(5, 9, 9);
        x.addReel(0);
        for (int wrong : new int[] {0, -1, 5, Integer.MAX_VALUE, Integer.MIN_VALUE}) {
            CHECK.refused(x, "argument", "scan", 0, wrong);
            CHECK.refused(x, "argument", "scan", 1, wrong);
            CHECK.refused(x, "index", "scan", 2, wrong);
        }
        CHECK.refused(x, "index", "scan", -1, 1);
        CHECK.refused(x, "unsupported", "scan", 1, 1);
        x.addVersion(0, 0);
        x.lend(0, 1, 0, 1);
        CHECK.refused(x, "unsupported", "scan", 0, 1);
        CHECK.refused(x, "argument", "scan", 0, 5);
        x.giveBack(0);
        CHECK.due(x, 2, "scan", 0, 1);
    }

    private static void missedAfterMend() {
        Spliceroom x = worn(5, 9, 3, 9);
        x.scan(0, 1);
        CHECK.due(x, 2, "missed", 1);
        x.mend(0, 1);
        CHECK.due(x, 2, "missed", 1);
        x.mend(0, 1);
        CHECK.due(x, 1, "lengthOf", 1);
        CHECK.due(x, 1, "missed", 1);
        CHECK.due(x, 1, "scanned", 1);
        CHECK.due(x, 1, "missed", 0);
    }
}
