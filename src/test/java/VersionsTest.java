/** Promises 25 to 27: versions and the frames left out of them. */
public final class VersionsTest {
    private static final Check CHECK = new Check("versions");

    public static void main(String[] args) {
        addVersion();
        addVersionThrows();
        leaveOut();
        leaveOutThrows();
        longShots();
        othersComeAhead();
        frameTakenAway();
        versionsApart();
        CHECK.end();
    }

    /** Film 0: shots 0, 1 and 2 of 4, 5 and 6 frames, of which shot 1 is missing; 10 frames. */
    private static Spliceroom tenFrames() {
        Spliceroom x = new Spliceroom();
        x.addFilm();
        x.addReel(0);
        for (int i = 0; i < 3; i++) {
            x.addShot(0, 4 + i, 0);
        }
        x.put(0, 0);
        x.put(0, 2);
        x.addVersion(0, 0);
        return x;
    }

    private static void addVersion() {
        Spliceroom x = tenFrames();
        CHECK.due(x, 10, "frames", 0);
        x.addFilm();
        CHECK.due(x, 1, "addVersion", 1, 0);
        CHECK.due(x, 0, "frames", 1);
        CHECK.due(x, 2, "addVersion", 0, 7);
        x.leaveOut(0, 0, 10, true);
        CHECK.due(x, 3, "addVersion", 0, 1);
        CHECK.due(x, 10, "frames", 3);
        CHECK.due(x, 0, "frames", 0);
        x.lend(0, 1, 0, 1);
        CHECK.due(x, 4, "addVersion", 0, 2);
    }

    private static void addVersionThrows() {
        Spliceroom x = tenFrames();
        CHECK.refused(x, "index", "addVersion", 1, 0);
        CHECK.refused(x, "index", "addVersion", -1, 8);
        for (int wrong : new int[] {-1, 8, Integer.MAX_VALUE, Integer.MIN_VALUE}) {
            CHECK.refused(x, "argument", "addVersion", 0, wrong);
        }
        CHECK.refused(x, "unsupported", "addVersion", 0, 0);
        x.addFilm();
        x.addVersion(1, 0);
        for (int country = 1; country < 8; country++) {
            CHECK.due(x, country + 1, "addVersion", 1, country);
        }
        CHECK.due(x, 9, "addVersion", 0, 1);
        CHECK.refused(x, "state", "addVersion", 0, 2);
        CHECK.refused(x, "unsupported", "addVersion", 0, 1);
        CHECK.refused(x, "argument", "addVersion", 0, 8);
        CHECK.refused(x, "index", "addVersion", 2, 2);
        CHECK.refused(x, "index", "frames", 10);
        CHECK.refused(x, "index", "frames", -1);
    }

    private static void leaveOut() {
        Spliceroom x = tenFrames();
        CHECK.due(x, 4, "leaveOut", 0, 2, 6, true);
        CHECK.due(x, 6, "frames", 0);
        CHECK.due(x, 0, "leaveOut", 0, 2, 6, true);
        CHECK.due(x, 1, "leaveOut", 0, 5, 7, true);
        CHECK.due(x, 5, "frames", 0);
        CHECK.due(x, 0, "leaveOut", 0, 0, 2, false);
        CHECK.due(x, 2, "leaveOut", 0, 0, 4, false);
        CHECK.due(x, 7, "frames", 0);
        CHECK.due(x, 7, "leaveOut", 0, 0, 10, true);
        CHECK.due(x, 0, "frames", 0);
        CHECK.due(x, 10, "leaveOut", 0, 0, 10, false);
        CHECK.due(x, 10, "frames", 0);
        CHECK.due(x, 1, "leaveOut", 0, 9, 10, true);
        x.lend(0, 1, 0, 1);
        CHECK.due(x, 1, "leaveOut", 0, 0, 1, true);
        CHECK.due(x, 8, "frames", 0);
    }

    private static void leaveOutThrows() {
        Spliceroom x = tenFrames();
        int[][] wrong = {{0, 11}, {-1, 5}, {5, 5}, {5, 4}, {10, 10}, {10, 11}, {0, 0},
            {0, Integer.MAX_VALUE}, {Integer.MIN_VALUE, 5}, {Integer.MAX_VALUE, Integer.MIN_VALUE}};
        for (int[] pair : wrong) {
            CHECK.refused(x, "argument", "leaveOut", 0, pair[0], pair[1], true);
            CHECK.refused(x, "argument", "leaveOut", 0, pair[0], pair[1], false);
            CHECK.refused(x, "index", "leaveOut", 1, pair[0], pair[1], true);
            CHECK.refused(x, "index", "leaveOut", -1, pair[0], pair[1], true);
        }
        x.addFilm();
        x.addVersion(1, 0);
        CHECK.refused(x, "argument", "leaveOut", 1, 0, 1, true);
    }

    private static void longShots() {
        Spliceroom x = new Spliceroom();
        x.addFilm();
        for (int i = 0; i < 3; i++) {
            x.found(0, i, 999, 0);
        }
        x.addVersion(0, 0);
        CHECK.due(x, 2997, "frames", 0);
        CHECK.due(x, 2995, "leaveOut", 0, 1, 2996, true);
        CHECK.due(x, 2, "frames", 0);
        CHECK.due(x, 64, "leaveOut", 0, 1063, 1127, false);
        CHECK.due(x, 64, "leaveOut", 0, 1062, 1128, true);
        CHECK.due(x, 1, "leaveOut", 0, 1063, 1064, false);
        CHECK.due(x, 129, "leaveOut", 0, 1936, 2065, false);
        CHECK.due(x, 132, "frames", 0);
        CHECK.due(x, true, "isSound");
        x.join(0, 1);
        x.mend(0, 0);
        x.mend(0, 0);
        CHECK.due(x, 132, "frames", 0);
        CHECK.due(x, true, "isSound");
    }

    private static void othersComeAhead() {
        Spliceroom x = tenFrames();
        x.leaveOut(0, 3, 6, true);
        x.put(x.addReel(0), 1);
        CHECK.due(x, 12, "frames", 0);
        // Left out now are frame 3 of shot 0, and frames 0 and 1 of shot 2, which come to be 9 and 10.
        CHECK.due(x, 0, "leaveOut", 0, 3, 4, true);
        CHECK.due(x, 5, "leaveOut", 0, 4, 11, true);
        x.found(0, 0, 7, 0);
        CHECK.due(x, 14, "frames", 0);
        CHECK.due(x, 0, "leaveOut", 0, 0, 10, false);
        CHECK.due(x, 8, "leaveOut", 0, 10, 22, false);
        CHECK.due(x, 22, "frames", 0);
        CHECK.due(x, true, "isSound");
    }

    private static void frameTakenAway() {
        Spliceroom x = tenFrames();
        x.addVersion(0, 1);
        x.leaveOut(0, 3, 4, true);
        x.leaveOut(1, 2, 3, true);
        x.mend(0, 0);
        CHECK.due(x, 9, "frames", 0);
        CHECK.due(x, 8, "frames", 1);
        CHECK.due(x, 9, "leaveOut", 0, 0, 9, true);
        CHECK.due(x, 8, "leaveOut", 1, 0, 9, true);
        x.mend(0, 0);
        CHECK.due(x, 0, "frames", 0);
        CHECK.due(x, 0, "frames", 1);
        CHECK.due(x, 8, "leaveOut", 1, 0, 8, false);
        CHECK.due(x, true, "isSound");
    }

    private static void versionsApart() {
        Spliceroom x = tenFrames();
        x.addFilm();
        x.found(1, 0, 8, 0);
        x.addVersion(1, 0);
        x.addVersion(0, 3);
        x.leaveOut(0, 0, 5, true);
        CHECK.due(x, 5, "frames", 0);
        CHECK.due(x, 8, "frames", 1);
        CHECK.due(x, 10, "frames", 2);
        CHECK.due(x, 8, "leaveOut", 1, 0, 8, true);
        CHECK.due(x, 5, "frames", 0);
        CHECK.due(x, 0, "frames", 1);
        CHECK.due(x, 10, "frames", 2);
    }
}
