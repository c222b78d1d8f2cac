/** Promises 32 to 35: the figures, and that soundness is looked at. */
public final class FiguresTest {
    private static final Check CHECK = new Check("figures");

    /** Film 0: a reel of shots 0 to 2 of 900 frames, shot 3 missing; film 1: shot 4, missing. Shot 2 is of scene 1. */
    private static final String FIVE_SHOTS = "addFilm; addFilm; addReel 0; addShot 0 900 0; addShot 0 900 0; addShot 0 900 1;"
            + "addShot 0 900 0; addShot 1 900 0; put 0 0; put 0 1; put 0 2";

    public static void main(String[] args) throws ReflectiveOperationException {
        shown();
        keptShare();
        meanWear();
        isSound();
        unsoundWear();
        unsoundGrades();
        unsoundVersions();
        CHECK.coversPromises(32, 35);
        CHECK.end();
    }

    /** Film 0 has one reel of 60 shots of 999 frames. */
    private static Run greatest() {
        Run x = CHECK.run("addFilm; addReel 0").go(60, "addShot 0 999 0");
        for (int shot = 0; shot < 60; shot++) {
            x.go("put 0 " + shot);
        }
        return x;
    }

    private static void shown() {
        CHECK.promise(32);
        CHECK.sentence("Returns how many frames were shown and run in all, of all shots on the reels, left out ones too.");
        CHECK.run(FIVE_SHOTS).go("addReel 0; found 0 4 7 0; addVersion 0 0; leaveOut 0 0 2000 true; run 0")
                .due("shown", 2700)
                .go("lend 0 2 3 1; show 0; show 0").due("shown", 2700 + 2 * 2707).refused("show 0", Check.UNSUPPORTED)
                .go("giveBack 0; run 2").due("shown", 2707 + 2 * 2707).go("run 1").due("shown", 2707 + 2 * 2707);
        // Frames that were taken away count for the runs ahead of it, not for those behind it.
        CHECK.run(FIVE_SHOTS).go("run 0; mend 0 0").due("shown", 2700).go("run 0").due("shown", 5399).go("scan 0 1")
                .due("shown", 5399);
        CHECK.sentence("Returns the sum.");
        CHECK.run().due("shown", 0);
        CHECK.run("addFilm; addReel 0; addVersion 0 0; lend 0 1 0 1; show 0; giveBack 0; run 0").due("shown", 0);
        CHECK.run("addFilm; found 0 0 1 5; run 0").due("shown", 1);
        greatest().go("setLimit 50").go(50, "run 0").due("shown", 50L * 60 * 999).refused("run 0", Check.UNSUPPORTED);
        CHECK.run("addFilm; found 0 0 999 5").go(509, "run 0").due("shown", 509L * 999);
    }

    private static void keptShare() {
        CHECK.promise(33);
        CHECK.sentence("Returns the share of the shots that are on reels.");
        CHECK.run(FIVE_SHOTS).due("keptShare", 3.0f / 5.0f).go("found 1 0 1 1").due("keptShare", 4.0f / 6.0f)
                .go("addShot 1 1 1; addShot 1 1 1")
                .due("keptShare", 4.0f / 8.0f).go("found 0 3 1 1; join 0 2").due("keptShare", 5.0f / 9.0f);
        CHECK.sentence("Returns their number divided by that of all shots, both converted to float.");
        CHECK.run("addFilm; addShot 0 5 5").due("keptShare", 0.0f).go("addReel 0; put 0 0").due("keptShare", 1.0f)
                .go("addShot 0 5 5; addShot 0 5 5").due("keptShare", 1.0f / 3.0f).go("put 0 2")
                .due("keptShare", 2.0f / 3.0f);
        Run x = CHECK.run("addFilm; addReel 0").go(60, "addShot 0 5 5").due("keptShare", 0.0f);
        for (int shot = 0; shot < 60; shot++) {
            x.go("put 0 " + shot).due("keptShare", (shot + 1.0f) / 60.0f);
        }
        CHECK.sentence("Throws `ArithmeticException` if there are none");
        CHECK.run().refused("keptShare", Check.ARITHMETIC);
        CHECK.run("addFilm; addReel 0; addVersion 0 0").refused("keptShare", Check.ARITHMETIC).go("addShot 0 5 5")
                .due("keptShare", 0.0f);
    }

    private static void meanWear() {
        CHECK.promise(34);
        CHECK.sentence("Returns the mean wear of all splices.");
        CHECK.run(FIVE_SHOTS).due("meanWear", 0.0).go("run 0; run 0").due("meanWear", 2.0).go("mend 0 0")
                .due("meanWear", 1.0)
                .go("found 1 1 5 5; found 1 2 5 5; join 1 2").due("meanWear", 2.0 / 3.0).go("run 1")
                .due("meanWear", 1.0)
                .go("addVersion 1 0; lend 0 1 3 1; show 0").due("meanWear", 7.0 / 3.0);
        CHECK.sentence("Returns the sum divided by their number, both converted to double.");
        CHECK.run(FIVE_SHOTS).go("run 0; mend 0 0").due("meanWear", 0.5).go("put 0 3").due("meanWear", 1.0 / 3.0);
        greatest().due("meanWear", 0.0).go("setLimit 50").go(50, "run 0").due("meanWear", 50.0).go("mend 0 30")
                .due("meanWear", 2900.0 / 59.0);
        CHECK.sentence("Throws `ArithmeticException` if there are none");
        CHECK.run().refused("meanWear", Check.ARITHMETIC);
        CHECK.run("addFilm; addReel 0; addShot 0 5 5").refused("meanWear", Check.ARITHMETIC)
                .go("put 0 0; found 0 1 5 5")
                .refused("meanWear", Check.ARITHMETIC).go("join 0 1").due("meanWear", 0.0);
    }

    private static Run busy() {
        return CHECK.run(FIVE_SHOTS)
                .go("addVersion 0 0; addVersion 1 0; leaveOut 0 10 1000 true; grade 0 7; passOn 0; grade 4 7; grade 2 7")
                .go(5, "run 0");
    }

    private static void isSound() {
        CHECK.promise(35);
        CHECK.sentence("Checks the archive: no splice has more wear than the limit; each grade that was passed on is that of its shot,"
                + " of the same film and scene; and the length of each version, added up shot by shot, is that which is found frame by"
                + " frame.");
        CHECK.run().due("isSound", true).go("addFilm").due("isSound", true).go("addReel 0; addVersion 0 0")
                .due("isSound", true)
                .go("addShot 0 5 5; lend 0 1 0 1").due("isSound", true);
        busy().due("isSound", true).go("mend 0 0; found 0 0 5 5; setLimit 5").due("isSound", true).go("grade 0 8")
                .due("isSound", true)
                .go("grade 1 9").due("isSound", true).go("grade 0 -1").due("isSound", true);
        // A wear that is as much as the limit is sound.
        CHECK.run(FIVE_SHOTS).go(10, "run 0").due("isSound", true);
        greatest().go("addVersion 0 0; leaveOut 0 1 59939 true; setLimit 50").go(50, "run 0").due("isSound", true)
                .due("frames 0", 2);
    }

    private static void unsoundWear() throws ReflectiveOperationException {
        CHECK.sentence("Returns whether all of this is true.");
        Run x = busy();
        Inside.set(Inside.get(x.room(), "allShots", 1), "wearBehind", 11);
        x.due("isSound", false);
        Inside.set(Inside.get(x.room(), "allShots", 1), "wearBehind", 10);
        x.due("isSound", true);
        Inside.set(x.room(), "limit", 9);
        x.due("isSound", false);
    }

    private static void unsoundGrades() throws ReflectiveOperationException {
        Run x = busy();
        Object passed = Inside.get(x.room(), "allShots", 1);
        for (int other : new int[] {2, 3, 4}) {
            Inside.set(passed, "gradeSource", Inside.get(x.room(), "allShots", other));
            x.due("isSound", false);
        }
        Inside.set(passed, "gradeSource", Inside.get(x.room(), "allShots", 0));
        x.due("isSound", true);
        Inside.set(passed, "ownGrade", 8);
        x.due("isSound", false);
        Run y = busy();
        Inside.set(Inside.get(y.room(), "allShots", 0), "gradeSource", Inside.get(y.room(), "allShots", 2));
        Inside.set(Inside.get(y.room(), "allShots", 0), "ownGrade", -1);
        Inside.set(Inside.get(y.room(), "allShots", 1), "gradeSource", null);
        Inside.set(Inside.get(y.room(), "allShots", 3), "gradeSource", null);
        y.due("isSound", false);
        Inside.set(Inside.get(y.room(), "allShots", 0), "gradeSource", null);
        y.due("isSound", true);
    }

    private static void unsoundVersions() throws ReflectiveOperationException {
        Run x = busy();
        // A mark behind the last frame counts shot by shot alone.
        long[] out = (long[]) Inside.get(Inside.get(x.room(), "versions", 0), "out");
        out[15] ^= 1L << 63;
        x.due("isSound", false);
        out[15] ^= 1L << 63;
        x.due("isSound", true);
    }
}
