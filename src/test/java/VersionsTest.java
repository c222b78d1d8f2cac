/** Promises 25 to 27: versions and the frames left out of them. */
public final class VersionsTest {
    private static final Check CHECK = new Check("versions");

    /** Film 0: shots 0, 1 and 2 of 4, 5 and 6 frames, of which shot 1 is missing: 10 frames; version 0 of it. */
    private static final String TEN_FRAMES = "addFilm; addReel 0; addShot 0 4 0; addShot 0 5 0; addShot 0 6 0; put 0 0; put 0 2;"
            + "addVersion 0 0";

    public static void main(String[] args) {
        addVersion();
        addVersionThrows();
        addVersionWithoutRoom();
        leaveOut();
        leaveOutReturns();
        leaveOutOfLongShots();
        leaveOutThrows();
        frames();
        CHECK.coversPromises(25, 27);
        CHECK.end();
    }

    private static Run tenVersions() {
        Run x = CHECK.run("addFilm; addFilm");
        for (int country = 0; country < 8; country++) {
            x.go("addVersion 1 " + country);
        }
        return x.go("addVersion 0 0; addVersion 0 7");
    }

    private static void addVersion() {
        CHECK.promise(25);
        CHECK.sentence("Adds a version with all frames.");
        CHECK.run("addFilm; addVersion 0 0").due("frames 0", 0);
        CHECK.run(TEN_FRAMES).due("frames 0", 10).go("leaveOut 0 0 10 true; addVersion 0 1").due("frames 0", 0)
                .due("frames 1", 10)
                .go("addReel 0; put 1 1").due("frames 0", 5).due("frames 1", 15);
        // It is free while the film is lent.
        CHECK.run(TEN_FRAMES).go("lend 0 1 0 1").due("addVersion 0 1", 1).due("frames 1", 10);
        CHECK.sentence("`film`: the number of the film");
        CHECK.run("addFilm; addFilm").limits("addVersion # 0", 0, 1, Check.INDEX);
        CHECK.run().go(6, "addFilm").limits("addVersion # 0", 0, 5, Check.INDEX).go("addVersion 5 0; found 5 0 3 3")
                .due("frames 0", 3);
        CHECK.sentence("`country`: the country, 0 to 7");
        CHECK.run("addFilm").limits("addVersion 0 #", 0, 7, Check.ARGUMENT);
        CHECK.sentence("Returns the number of the version.");
        Run x = CHECK.run("addFilm; addFilm");
        for (int version = 0; version < 10; version++) {
            x.refused("frames " + version, Check.INDEX).due("addVersion " + version % 2 + " " + version / 2, version)
                    .due("frames " + version, 0);
        }
    }

    private static void addVersionThrows() {
        CHECK.sentence("Throws `IndexOutOfBoundsException` if there is no such film");
        CHECK.run().none("addVersion # 0", Check.INDEX).none("addVersion # 8", Check.INDEX);
        tenVersions().refusedFor("addVersion # 0", Check.INDEX, "2", "-1", "MIN", "MAX")
                .refusedFor("addVersion # 8", Check.INDEX, "2", "-1");
        CHECK.run("addFilm").refusedFor("addVersion # -1", Check.INDEX, "1", "-1");
        CHECK.sentence("Throws `IllegalArgumentException` if there is no such country");
        CHECK.run("addFilm").refusedFor("addVersion 0 #", Check.ARGUMENT, "-1", "8", "MIN", "MAX")
                .due("addVersion 0 0", 0);
        tenVersions().refusedFor("addVersion 0 #", Check.ARGUMENT, "-1", "8")
                .refusedFor("addVersion 1 #", Check.ARGUMENT, "-1", "8");
        CHECK.sentence("Throws `UnsupportedOperationException` if the film has a version for it");
        CHECK.run("addFilm; addFilm; addVersion 0 0").refused("addVersion 0 0", Check.UNSUPPORTED)
                .due("addVersion 1 0", 1)
                .due("addVersion 0 7", 2).refused("addVersion 0 7", Check.UNSUPPORTED)
                .refused("addVersion 1 0", Check.UNSUPPORTED)
                .due("addVersion 1 7", 3);
        tenVersions().refused("addVersion 0 0", Check.UNSUPPORTED).refused("addVersion 0 7", Check.UNSUPPORTED)
                .refusedFor("addVersion 1 #", Check.UNSUPPORTED, "0", "3", "7");
    }

    private static void addVersionWithoutRoom() {
        CHECK.sentence("Throws `IllegalStateException` if there are 10 versions");
        tenVersions().refusedFor("addVersion 0 #", Check.STATE, "1", "6").due("frames 9", 0)
                .refused("frames 10", Check.INDEX);
        Run x = CHECK.run("addFilm; addFilm; addFilm");
        for (int version = 0; version < 9; version++) {
            x.go("addVersion " + version % 2 + " " + version / 2);
        }
        x.due("addVersion 2 0", 9).refused("addVersion 2 1", Check.STATE).refused("addVersion 0 7", Check.STATE);
    }

    private static void leaveOut() {
        CHECK.promise(26);
        CHECK.sentence("Leaves frames out of a version, or puts them back.");
        CHECK.run(TEN_FRAMES).go("addVersion 0 3; addFilm; found 1 0 8 0; addVersion 1 0; leaveOut 0 2 6 true")
                .dues("frames #", 6, 10, 8)
                .go("leaveOut 0 5 7 true").dues("frames #", 5, 10, 8).go("leaveOut 2 0 8 true; leaveOut 0 0 4 false")
                .dues("frames #", 7, 10, 0).go("leaveOut 0 0 10 false").dues("frames #", 10, 10, 0)
                .due("isSound", true);
        // They are left out by their numbers then, and stay left out when others come ahead of them.
        CHECK.run(TEN_FRAMES).go("leaveOut 0 3 6 true; addReel 0; put 1 1").due("frames 0", 12)
                .due("leaveOut 0 3 4 true", 0)
                .due("leaveOut 0 4 9 false", 0).due("leaveOut 0 9 11 true", 0).due("leaveOut 0 11 15 false", 0)
                .go("found 0 0 7 0").due("frames 0", 19).due("leaveOut 0 0 10 false", 0)
                .due("leaveOut 0 10 11 false", 1)
                .due("leaveOut 0 11 16 false", 0).due("leaveOut 0 16 18 false", 2).due("frames 0", 22)
                .due("isSound", true);
        // It is free while the film is lent, and given back.
        CHECK.run(TEN_FRAMES).go("lend 0 1 0 1").due("leaveOut 0 0 1 true", 1).due("frames 0", 9)
                .go("show 0; giveBack 0")
                .due("shown", 10).due("leaveOut 0 0 1 false", 1);
        CHECK.sentence("`version`: the number of the version");
        CHECK.run("addFilm; found 0 0 5 5; addVersion 0 0; addVersion 0 1")
                .limits("leaveOut # 0 1 true", 0, 1, Check.INDEX)
                .limits("leaveOut # 0 1 false", 0, 1, Check.INDEX);
        tenVersions().go("found 0 0 5 5; found 1 0 5 5").limits("leaveOut # 0 1 true", 0, 9, Check.INDEX)
                .go("leaveOut 9 0 2 true")
                .dues("frames #", 5, 5, 5, 5, 5, 5, 5, 5, 5, 3);
        CHECK.sentence("`from`: the number of the first frame");
        CHECK.run(TEN_FRAMES).takenFor("leaveOut 0 # 10 true", "0", "9")
                .refusedFor("leaveOut 0 # 10 true", Check.ARGUMENT, "-1", "10", "11", "MIN", "MAX")
                .due("leaveOut 0 9 10 true", 1).due("leaveOut 0 0 10 true", 9);
        CHECK.run("addFilm; found 0 0 1 5; addVersion 0 0").limits("leaveOut 0 # 1 true", 0, 0, Check.ARGUMENT);
        CHECK.sentence("`to`: the number of the frame behind the last one");
        CHECK.run(TEN_FRAMES).limits("leaveOut 0 0 # true", 1, 10, Check.ARGUMENT)
                .limits("leaveOut 0 0 # false", 1, 10, Check.ARGUMENT)
                .limits("leaveOut 0 9 # true", 10, 10, Check.ARGUMENT)
                .limits("leaveOut 0 5 # true", 6, 10, Check.ARGUMENT)
                .due("leaveOut 0 0 1 true", 1).due("leaveOut 0 0 10 true", 9);
        CHECK.run("addFilm; found 0 0 1 5; addVersion 0 0").limits("leaveOut 0 0 # true", 1, 1, Check.ARGUMENT)
                .due("leaveOut 0 0 1 true", 1);
    }

    private static void leaveOutReturns() {
        CHECK.sentence("`isOut`: whether they are left out from now on");
        CHECK.run(TEN_FRAMES).due("leaveOut 0 3 5 true", 2).due("frames 0", 8).due("leaveOut 0 3 5 false", 2)
                .due("frames 0", 10);
        CHECK.sentence("Returns for how many frames this is other than before.");
        CHECK.run(TEN_FRAMES).due("leaveOut 0 0 10 false", 0).due("leaveOut 0 2 6 true", 4)
                .due("leaveOut 0 2 6 true", 0)
                .due("leaveOut 0 5 7 true", 1).due("leaveOut 0 0 2 false", 0).due("leaveOut 0 0 4 false", 2)
                .due("leaveOut 0 0 10 true", 7)
                .due("frames 0", 0).due("leaveOut 0 0 10 true", 0).due("leaveOut 0 0 10 false", 10).due("frames 0", 10);
        // A frame that is taken away is left out nowhere any more, nor is the one that comes to its place.
        CHECK.run(TEN_FRAMES).go("addVersion 0 1; leaveOut 0 3 4 true; leaveOut 1 2 3 true; mend 0 0")
                .dues("frames #", 9, 8)
                .due("leaveOut 0 0 9 true", 9).due("leaveOut 1 0 9 true", 8).go("mend 0 0").dues("frames #", 0, 0)
                .due("leaveOut 1 0 8 false", 8).due("isSound", true);
    }

    private static void leaveOutOfLongShots() {
        Run x = CHECK.run("addFilm; found 0 0 999 0; found 0 1 999 0; found 0 2 999 0; addVersion 0 0")
                .due("frames 0", 2997)
                .limits("leaveOut 0 0 # true", 1, 2997, Check.ARGUMENT).due("leaveOut 0 1 2996 true", 2995)
                .due("frames 0", 2);
        x.due("leaveOut 0 1063 1127 false", 64).due("leaveOut 0 1062 1128 true", 64)
                .due("leaveOut 0 1063 1064 false", 1)
                .due("leaveOut 0 1936 2065 false", 129).due("frames 0", 132).go("join 0 1; mend 0 0; mend 0 0")
                .due("frames 0", 132)
                .due("isSound", true);
        // Each frame of a shot is one of its own.
        Run y = CHECK.run("addFilm; found 0 0 140 0; addVersion 0 0");
        for (int frame = 0; frame < 140; frame++) {
            y.due("leaveOut 0 " + frame + " " + (frame + 1) + " true", 1).due("frames 0", 139 - frame);
        }
        Run z = CHECK.run("addFilm; addReel 0").go(60, "addShot 0 999 0");
        for (int shot = 0; shot < 60; shot++) {
            z.go("put 0 " + shot);
        }
        z.go("addVersion 0 0").due("frames 0", 59940).limits("leaveOut 0 0 # true", 1, 59940, Check.ARGUMENT)
                .due("leaveOut 0 0 59940 true", 59940).due("frames 0", 0).due("leaveOut 0 59939 59940 false", 1)
                .due("frames 0", 1)
                .due("isSound", true);
    }

    private static void leaveOutThrows() {
        CHECK.sentence("Throws `IndexOutOfBoundsException` if there is no such version");
        CHECK.run("addFilm; found 0 0 5 5").none("leaveOut # 0 1 true", Check.INDEX)
                .none("leaveOut # 1 0 true", Check.INDEX);
        CHECK.run(TEN_FRAMES).refusedFor("leaveOut # 0 1 true", Check.INDEX, "1", "10", "-1")
                .refusedFor("leaveOut # 5 5 true", Check.INDEX, "1", "-1")
                .refusedFor("leaveOut # -1 11 false", Check.INDEX, "1", "-1");
        CHECK.sentence("Throws `IllegalArgumentException` if there are no such frames, or to is not greater than from");
        String[] wrong = {"0 11", "-1 5", "5 5", "5 4", "10 10", "10 11", "0 0", "-1 0", "-1 -1", "11 12", "0 MAX",
                "MIN 5", "MAX MIN",
            "MIN MAX", "MIN MIN", "MAX MAX", "9 MIN", "-5 -1"};
        for (String span : wrong) {
            CHECK.run(TEN_FRAMES).refused("leaveOut 0 " + span + " true", Check.ARGUMENT)
                    .refused("leaveOut 0 " + span + " false", Check.ARGUMENT);
        }
        CHECK.run("addFilm; addShot 0 5 5; addVersion 0 0").refused("leaveOut 0 0 1 true", Check.ARGUMENT)
                .refused("leaveOut 0 0 0 true", Check.ARGUMENT).refused("leaveOut 0 1 0 false", Check.ARGUMENT);
        // The frames of a missing shot are none, and one that is taken away is no more.
        CHECK.run(TEN_FRAMES).go("mend 0 0").refused("leaveOut 0 9 10 true", Check.ARGUMENT)
                .due("leaveOut 0 8 9 true", 1)
                .go("addReel 0; put 1 1").limits("leaveOut 0 0 # true", 1, 14, Check.ARGUMENT);
    }

    private static void frames() {
        CHECK.promise(27);
        CHECK.sentence("Returns the length of a version.");
        CHECK.run(TEN_FRAMES).due("frames 0", 10).go("leaveOut 0 0 4 true").due("frames 0", 6).go("addReel 0; put 1 1")
                .due("frames 0", 11)
                .go("mend 0 0").due("frames 0", 11).go("leaveOut 0 0 3 false").due("frames 0", 14).go("mend 0 0")
                .due("frames 0", 13);
        CHECK.sentence("`version`: the number of the version");
        CHECK.run(TEN_FRAMES).limits("frames #", 0, 0, Check.INDEX);
        tenVersions().limits("frames #", 0, 9, Check.INDEX);
        CHECK.sentence("Returns the number of frames that are not left out.");
        CHECK.run("addFilm; addVersion 0 0").due("frames 0", 0).go("addShot 0 5 5").due("frames 0", 0)
                .go("found 0 0 1 5").due("frames 0", 1)
                .go("leaveOut 0 0 1 true").due("frames 0", 0).go("leaveOut 0 0 1 false").due("frames 0", 1);
        CHECK.sentence("Throws `IndexOutOfBoundsException` if there is no such version");
        CHECK.run("addFilm; found 0 0 5 5").none("frames #", Check.INDEX);
        CHECK.run(TEN_FRAMES).refusedFor("frames #", Check.INDEX, "1", "10", "-1", "MIN", "MAX");
    }
}
