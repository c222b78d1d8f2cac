/** Promises 32 to 35: the figures, and that soundness is looked at. */
public final class FiguresTest {
    private static final Check CHECK = new Check("figures");

    public static void main(String[] args) throws ReflectiveOperationException {
        shown();
        keptShare();
        meanWear();
        sound();
        unsoundWear();
        unsoundGrades();
        unsoundVersions();
        CHECK.end();
    }

    /** Film 0: a reel of shots 0 to 2 of 900 frames, shot 3 missing; film 1: shot 4. */
    private static Spliceroom fiveShots() {
        Spliceroom x = new Spliceroom();
        x.addFilm();
        x.addFilm();
        x.addReel(0);
        for (int i = 0; i < 4; i++) {
            x.addShot(0, 900, i == 2 ? 1 : 0);
        }
        x.addShot(1, 900, 0);
        for (int i = 0; i < 3; i++) {
            x.put(0, i);
        }
        return x;
    }

    private static void shown() {
        Spliceroom x = fiveShots();
        CHECK.due(x, 0, "shown");
        x.run(0);
        CHECK.due(x, 2700, "shown");
        x.mend(0, 0);
        CHECK.due(x, 2700, "shown");
        x.addVersion(0, 0);
        x.leaveOut(0, 0, 2000, true);
        x.lend(0, 2, 0, 1);
        x.show(0);
        x.show(0);
        CHECK.due(x, 2700 + 2 * 2699, "shown");
        CHECK.refused(x, "unsupported", "show", 0);
        x.giveBack(0);
        CHECK.due(x, 0, "scan", 0, 1);
        CHECK.due(x, 2700 + 2 * 2699, "shown");
    }

    private static void keptShare() {
        Spliceroom x = new Spliceroom();
        CHECK.refused(x, "arithmetic", "keptShare");
        x.addFilm();
        CHECK.refused(x, "arithmetic", "keptShare");
        x.addShot(0, 5, 5);
        CHECK.due(x, 0.0f, "keptShare");
        x.found(0, 0, 5, 5);
        x.found(0, 0, 5, 5);
        CHECK.due(x, 2.0f / 3.0f, "keptShare");
        CHECK.due(fiveShots(), 3.0f / 5.0f, "keptShare");
    }

    private static void meanWear() {
        Spliceroom x = new Spliceroom();
        CHECK.refused(x, "arithmetic", "meanWear");
        x.addFilm();
        x.found(0, 0, 5, 5);
        CHECK.refused(x, "arithmetic", "meanWear");
        Spliceroom y = fiveShots();
        CHECK.due(y, 0.0, "meanWear");
        y.run(0);
        y.mend(0, 0);
        CHECK.due(y, 0.5, "meanWear");
        y.found(1, 1, 5, 5);
        y.found(1, 2, 5, 5);
        y.join(1, 2);
        CHECK.due(y, 1.0 / 3.0, "meanWear");
    }

    private static Spliceroom busy() {
        Spliceroom x = fiveShots();
        x.addVersion(0, 0);
        x.addVersion(1, 0);
        x.leaveOut(0, 10, 1000, true);
        x.grade(0, 7);
        x.passOn(0);
        x.grade(4, 7);
        x.grade(2, 7);
        for (int i = 0; i < 5; i++) {
            x.run(0);
        }
        return x;
    }

    private static void sound() {
        Spliceroom x = busy();
        CHECK.due(x, true, "isSound");
        x.mend(0, 0);
        x.found(0, 0, 5, 5);
        x.setLimit(5);
        CHECK.due(x, true, "isSound");
    }

    private static void unsoundWear() throws ReflectiveOperationException {
        Spliceroom x = busy();
        Inside.set(Inside.get(x, "allShots", 1), "wearBehind", 11);
        CHECK.due(x, false, "isSound");
        Inside.set(Inside.get(x, "allShots", 1), "wearBehind", 10);
        CHECK.due(x, true, "isSound");
        Inside.set(x, "limit", 9);
        CHECK.due(x, false, "isSound");
    }

    private static void unsoundGrades() throws ReflectiveOperationException {
        Spliceroom x = busy();
        Object passed = Inside.get(x, "allShots", 1);
        for (int other : new int[] {2, 3, 4}) {
            Inside.set(passed, "gradeSource", Inside.get(x, "allShots", other));
            CHECK.due(x, false, "isSound");
        }
        Inside.set(passed, "gradeSource", Inside.get(x, "allShots", 0));
        CHECK.due(x, true, "isSound");
        Inside.set(passed, "ownGrade", 8);
        CHECK.due(x, false, "isSound");
        Spliceroom y = busy();
        Inside.set(Inside.get(y, "allShots", 0), "gradeSource", Inside.get(y, "allShots", 2));
        Inside.set(Inside.get(y, "allShots", 0), "ownGrade", -1);
        Inside.set(Inside.get(y, "allShots", 1), "gradeSource", null);
        CHECK.due(y, false, "isSound");
    }

    private static void unsoundVersions() throws ReflectiveOperationException {
        Spliceroom x = busy();
        // A mark behind the last frame counts shot by shot alone.
        long[] out = (long[]) Inside.get(Inside.get(x, "versions", 0), "out");
        out[15] ^= 1L << 63;
        CHECK.due(x, false, "isSound");
        out[15] ^= 1L << 63;
        CHECK.due(x, true, "isSound");
    }
}
