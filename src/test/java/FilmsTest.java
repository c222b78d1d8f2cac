/** Promises 1 to 13: films, shots, reels, and where frames stand. */
public final class FilmsTest {
    private static final Check CHECK = new Check("films");

    /** Film 0: missing shots 0 to 3, of 5 frames; film 1: shot 4; reels 0 and 1 of film 0, 2 of film 1. */
    private static final String FOUR_SHOTS = "addFilm; addFilm; addShot 0 5 0; addShot 0 5 1; addShot 0 5 2; addShot 0 5 3;"
            + "addShot 1 7 0; addReel 0; addReel 0; addReel 1";
    private static final String LENT = "addVersion 0 0; lend 0 1 0 1";

    public static void main(String[] args) {
        newObject();
        addFilm();
        addShot();
        addShotThrows();
        addReel();
        put();
        putThrows();
        found();
        foundThrows();
        foundWithoutRoom();
        join();
        joinThrows();
        shots();
        shotOf();
        lengthOf();
        frameOf();
        shotAt();
        reelOf();
        CHECK.coversPromises(1, 13);
        CHECK.end();
    }

    /** All shots, and all reels: film 0 has 60 shots, of which the first 24 have reels of their own. */
    private static Run full() {
        return CHECK.run("addFilm; addFilm").go(24, "found 0 0 5 5").go(36, "addShot 0 5 5");
    }

    private static void newObject() {
        CHECK.promise(1);
        CHECK.sentence("Creates an archive without films, on the day 0.");
        String[] ofNothing = {"addShot # 5 5", "addReel #", "found # 0 5 5", "shots #", "shotOf # 0", "shotAt # 0",
            "addVersion # 0", "lengthOf #", "frameOf #", "reelOf #", "scanned #", "missed #", "grade # 5", "passOn #",
            "gradeOf #", "gradeFrom #", "put # 0", "put 0 #", "join # 0", "join 0 #", "run #", "wear # 0", "wear 0 #",
            "mend # 0", "mend 0 #", "scan # 1", "leaveOut # 0 1 true", "frames #", "lend # 1 0 1", "show #",
                    "giveBack #"};
        for (String call : ofNothing) {
            CHECK.run().none(call, Check.INDEX);
        }
        CHECK.run().refused("keptShare", Check.ARITHMETIC).refused("meanWear", Check.ARITHMETIC);
        CHECK.run().due("shown", 0).due("isSound", true).due("setLimit 10", 10).due("advance 1", 0).due("addFilm", 0);
        // A loan that is due on the day 1 is late on the day 2, not before.
        CHECK.run("addFilm; addVersion 0 0; lend 0 1 0 1").due("advance 1", 0).due("advance 1", 1).due("giveBack 0", 1);
    }

    private static void addFilm() {
        CHECK.promise(2);
        CHECK.sentence("Adds a film without shots.");
        CHECK.run("addFilm; addVersion 0 0; addReel 0").due("shots 0", 0).refused("shotOf 0 0", Check.INDEX)
                .refused("shotAt 0 0", Check.ELEMENT).due("frames 0", 0).due("run 0", 0)
                .refused("keptShare", Check.ARITHMETIC).refused("meanWear", Check.ARITHMETIC).due("isSound", true);
        CHECK.run(FOUR_SHOTS).due("addFilm", 2).due("shots 2", 0).due("shots 0", 4).due("shots 1", 1);
        CHECK.sentence("Returns the number of the film.");
        Run x = CHECK.run();
        for (int film = 0; film < 6; film++) {
            x.refused("shots " + film, Check.INDEX).due("addFilm", film).due("shots " + film, 0);
        }
        CHECK.sentence("Throws `IllegalStateException` if there are 6");
        CHECK.run().go(5, "addFilm").due("addFilm", 5).refused("addFilm", Check.STATE).refused("addFilm", Check.STATE)
                .due("shots 5", 0).refused("shots 6", Check.INDEX);
    }

    private static void addShot() {
        CHECK.promise(3);
        CHECK.sentence("Adds a shot that is missing, at the end of the row.");
        Run x = CHECK.run("addFilm; addFilm; addVersion 0 0").due("addShot 0 5 3", 0).due("shots 0", 1)
                .due("shots 1", 0)
                .due("shotOf 0 0", 0).due("reelOf 0", -1).refused("frameOf 0", Check.ELEMENT)
                .refused("shotAt 0 0", Check.ELEMENT).due("frames 0", 0).due("keptShare", 0.0f)
                .due("scanned 0", 0).due("missed 0", 0).due("gradeOf 0", -1).due("gradeFrom 0", -1);
        x.go("found 0 1 4 3; found 0 0 4 3; lend 0 1 0 1").due("addShot 0 5 3", 3).dues("shotOf 0 #", 2, 0, 1, 3)
                .due("frames 0", 8).due("frameOf 1", 4);
        CHECK.sentence("`film`: the number of the film");
        CHECK.run("addFilm; addFilm").limits("addShot # 5 5", 0, 1, Check.INDEX);
        CHECK.run().go(6, "addFilm").limits("addShot # 5 5", 0, 5, Check.INDEX).go("addShot 5 5 5")
                .dues("shots #", 0, 0, 0, 0, 0, 1);
        CHECK.sentence("`length`: the length, 1 to 999");
        CHECK.run("addFilm").limits("addShot 0 # 5", 1, 999, Check.ARGUMENT)
                .go("addShot 0 1 5; addShot 0 999 5; addShot 0 500 5").dues("lengthOf #", 1, 999, 500);
        CHECK.sentence("`scene`: the scene, 0 to 9");
        CHECK.run("addFilm").limits("addShot 0 5 #", 0, 9, Check.ARGUMENT)
                .go("addShot 0 5 0; addShot 0 5 9; addShot 0 5 0; addShot 0 5 9; grade 0 1; grade 1 2; passOn 0; passOn 1")
                .dues("gradeOf #", 1, 2, 1, 2);
        CHECK.sentence("Returns the number of the shot.");
        Run y = CHECK.run("addFilm; addFilm");
        for (int shot = 0; shot < 60; shot++) {
            y.due("addShot " + shot % 2 + " 5 5", shot).due("shotOf " + shot % 2 + " " + shot / 2, shot);
        }
    }

    private static void addShotThrows() {
        CHECK.sentence("Throws `IndexOutOfBoundsException` if there is no such film");
        CHECK.run().refused("addShot 0 5 5", Check.INDEX).refused("addShot 0 0 10", Check.INDEX);
        CHECK.run("addFilm").refusedFor("addShot # 0 5", Check.INDEX, "1", "-1")
                .refusedFor("addShot # 5 10", Check.INDEX, "1", "-1");
        full().refused("addShot 2 5 5", Check.INDEX).refused("addShot -1 0 5", Check.INDEX)
                .refused("addShot 2 5 -1", Check.INDEX);
        CHECK.sentence("Throws `IllegalArgumentException` if a number is out of range");
        CHECK.run("addFilm").refused("addShot 0 0 -1", Check.ARGUMENT).refused("addShot 0 1000 10", Check.ARGUMENT)
                .refused("addShot 0 MIN MAX", Check.ARGUMENT).due("addShot 0 1 0", 0);
        full().refusedFor("addShot 0 # 5", Check.ARGUMENT, "0", "1000")
                .refusedFor("addShot 0 5 #", Check.ARGUMENT, "-1", "10");
        CHECK.sentence("Throws `IllegalStateException` if there are 60 shots");
        full().refused("addShot 0 5 5", Check.STATE).refused("addShot 1 1 0", Check.STATE);
        CHECK.run("addFilm; addFilm").go(30, "addShot 0 5 5").go(29, "addShot 1 5 5").due("addShot 0 5 5", 59)
                .refused("addShot 1 5 5", Check.STATE).due("shots 0", 31).due("shots 1", 29);
        CHECK.run("addFilm").go(59, "addShot 0 5 5").due("found 0 0 5 5", 0).refused("addShot 0 5 5", Check.STATE);
        CHECK.run("addFilm").go(60, "addShot 0 5 5").go(LENT).refused("addShot 0 5 5", Check.STATE);
    }

    private static void addReel() {
        CHECK.promise(4);
        CHECK.sentence("Adds an empty reel.");
        CHECK.run("addFilm; addShot 0 5 5").due("addReel 0", 0).refused("wear 0 0", Check.INDEX)
                .refused("mend 0 0", Check.INDEX).refused("scan 0 1", Check.UNSUPPORTED).due("run 0", 0).due("shown", 0)
                .refused("meanWear", Check.ARITHMETIC).due("reelOf 0", -1).due("put 0 0", 1);
        CHECK.run(FOUR_SHOTS).go(LENT).due("addReel 0", 3).refused("put 3 0", Check.UNSUPPORTED);
        CHECK.sentence("`film`: the number of the film");
        CHECK.run("addFilm; addFilm").limits("addReel #", 0, 1, Check.INDEX);
        CHECK.run().go(6, "addFilm").limits("addReel #", 0, 5, Check.INDEX)
                .go("addShot 5 5 5; addShot 4 5 5; addReel 5")
                .refused("put 0 1", Check.ARGUMENT).due("put 0 0", 1);
        CHECK.sentence("Returns the number of the reel.");
        Run x = CHECK.run("addFilm; addFilm");
        for (int reel = 0; reel < 24; reel += 2) {
            x.refused("run " + reel, Check.INDEX).due("addReel " + reel % 4 / 2, reel).due("run " + reel, 0);
            x.due("found 0 0 5 5", reel + 1);
        }
        CHECK.sentence("Throws `IndexOutOfBoundsException` if there is no such film");
        CHECK.run().refused("addReel 0", Check.INDEX).refused("addReel -1", Check.INDEX);
        CHECK.run("addFilm").go(24, "addReel 0").refusedFor("addReel #", Check.INDEX, "1", "-1", "MIN", "MAX");
        CHECK.sentence("Throws `IllegalStateException` if there are 24");
        CHECK.run("addFilm").go(23, "addReel 0").due("addReel 0", 23).refused("addReel 0", Check.STATE).due("run 23", 0)
                .refused("run 24", Check.INDEX);
        CHECK.run("addFilm; addFilm").go(12, "found 0 0 5 5").go(12, "addReel 1")
                .refusedFor("addReel #", Check.STATE, "0", "1");
        // A reel that was emptied by a join is still a reel.
        CHECK.run("addFilm").go(24, "found 0 0 5 5").go("join 1 0").refused("addReel 0", Check.STATE);
    }

    private static void put() {
        CHECK.promise(5);
        CHECK.sentence("Puts a shot at the end of a reel.");
        CHECK.run(FOUR_SHOTS).go("put 0 1; put 0 3; put 1 0; put 1 2; put 2 4").dues("reelOf #", 1, 0, 1, 0, 2)
                .due("wear 0 0", 0).due("wear 1 0", 0).refused("wear 0 1", Check.INDEX)
                .refused("wear 2 0", Check.INDEX);
        // A shot that goes behind a worn splice gets a new one.
        CHECK.run(FOUR_SHOTS).go("put 0 0; put 0 1; run 0; put 0 2").due("wear 0 0", 1).due("wear 0 1", 0);
        CHECK.run(FOUR_SHOTS).go("addVersion 0 0; put 0 3").due("frames 0", 5).due("frameOf 3", 0).due("put 1 0", 1)
                .due("frames 0", 10).due("frameOf 3", 5);
        CHECK.sentence("`reel`: the number of the reel");
        CHECK.run(FOUR_SHOTS).takenFor("put # 0", "0", "1").refusedFor("put # 0", Check.INDEX, "3", "-1", "MIN", "MAX");
        CHECK.run("addFilm; addShot 0 5 5").go(24, "addReel 0").limits("put # 0", 0, 23, Check.INDEX)
                .go("put 23 0").due("reelOf 0", 23);
        CHECK.sentence("`shot`: the number of the shot");
        CHECK.run(FOUR_SHOTS).takenFor("put 0 #", "0", "3").refusedFor("put 0 #", Check.INDEX, "5", "-1", "MIN", "MAX");
        CHECK.run("addFilm; addReel 0").go(60, "addShot 0 5 5").limits("put 0 #", 0, 59, Check.INDEX)
                .go("put 0 59").due("reelOf 59", 0);
        CHECK.sentence("Returns how many shots the reel has.");
        CHECK.run(FOUR_SHOTS).due("put 0 0", 1).due("put 0 1", 2).due("put 1 2", 1).due("put 0 3", 3).due("put 2 4", 1);
        Run x = CHECK.run("addFilm; addReel 0").go(60, "addShot 0 5 5");
        for (int shot = 0; shot < 60; shot++) {
            x.due("put 0 " + shot, shot + 1);
        }
        x.due("wear 0 58", 0).refused("wear 0 59", Check.INDEX);
    }

    private static void putThrows() {
        CHECK.sentence("Throws `IndexOutOfBoundsException` if there is no such reel, or shot");
        CHECK.run("addFilm; addShot 0 5 5").refused("put 0 0", Check.INDEX);
        CHECK.run("addFilm; addReel 0").refused("put 0 0", Check.INDEX).refused("put 1 1", Check.INDEX);
        CHECK.run(FOUR_SHOTS).go("put 0 1").go(LENT).refusedFor("put # 1", Check.INDEX, "3", "-1")
                .refusedFor("put 0 #", Check.INDEX, "5", "-1").refusedFor("put 2 #", Check.INDEX, "5", "-1");
        CHECK.sentence("Throws `IllegalArgumentException` if they are of two films");
        CHECK.run(FOUR_SHOTS).refused("put 0 4", Check.ARGUMENT).refused("put 2 0", Check.ARGUMENT)
                .go("put 0 1; put 2 4")
                .refused("put 2 0", Check.ARGUMENT).refused("put 2 1", Check.ARGUMENT)
                .refused("put 1 4", Check.ARGUMENT)
                .go(LENT).refused("put 0 4", Check.ARGUMENT).refused("put 2 1", Check.ARGUMENT)
                .refused("put 2 0", Check.ARGUMENT);
        CHECK.sentence("Throws `UnsupportedOperationException` if the shot is not missing, stands ahead of the last one of the"
                + " reel, or the film is lent");
        Run x = CHECK.run(FOUR_SHOTS).go("put 0 1").refused("put 0 1", Check.UNSUPPORTED)
                .refused("put 1 1", Check.UNSUPPORTED)
                .refused("put 0 0", Check.UNSUPPORTED).takenFor("put 0 #", "2", "3");
        x.go("put 0 3").refused("put 0 2", Check.UNSUPPORTED).refused("put 0 0", Check.UNSUPPORTED)
                .refused("put 0 1", Check.UNSUPPORTED).takenFor("put 1 #", "0", "2");
        // A found shot is not missing, and its place tells the order, not its number.
        CHECK.run(FOUR_SHOTS).go("found 0 2 5 5").refused("put 0 5", Check.UNSUPPORTED)
                .refused("put 3 5", Check.UNSUPPORTED)
                .refusedFor("put 3 #", Check.UNSUPPORTED, "0", "1").takenFor("put 3 #", "2", "3");
        CHECK.run(FOUR_SHOTS).go("found 0 0 5 5; put 3 0").dues("reelOf #", 3, -1, -1, -1, -1, 3);
        CHECK.run(FOUR_SHOTS).go(LENT).refused("put 0 0", Check.UNSUPPORTED).refused("put 1 3", Check.UNSUPPORTED)
                .due("put 2 4", 1).due("show 0", 0).refused("put 0 0", Check.UNSUPPORTED).go("giveBack 0")
                .due("put 0 0", 1);
    }

    private static void found() {
        CHECK.promise(6);
        CHECK.sentence("Tells of a found shot.");
        CHECK.run(FOUR_SHOTS).go("addVersion 0 0; put 0 1; found 0 0 3 9").due("lengthOf 5", 3).due("reelOf 5", 3)
                .due("frameOf 5", 0).due("frameOf 1", 3).due("frames 0", 8).due("scanned 5", 0).due("missed 5", 0)
                .due("gradeOf 5", -1).due("gradeFrom 5", -1).due("shots 0", 5).due("shots 1", 1).due("run 3", 0)
                .due("shown", 3);
        CHECK.sentence("`film`: the number of the film");
        CHECK.run("addFilm; addFilm").limits("found # 0 5 5", 0, 1, Check.INDEX);
        CHECK.run().go(6, "addFilm").limits("found # 0 5 5", 0, 5, Check.INDEX).go("found 5 0 5 5")
                .dues("shots #", 0, 0, 0, 0, 0, 1);
        CHECK.sentence("`place`: the place in the row that it gets, from 0 to as many shots as there are");
        CHECK.run("addFilm").limits("found 0 # 5 5", 0, 0, Check.INDEX).go("found 0 0 5 5").due("shotOf 0 0", 0);
        Run x = CHECK.run(FOUR_SHOTS).limits("found 0 # 5 5", 0, 4, Check.INDEX)
                .limits("found 1 # 5 5", 0, 1, Check.INDEX);
        x.copy().go("found 0 0 5 5").dues("shotOf 0 #", 5, 0, 1, 2, 3).limits("found 0 # 5 5", 0, 5, Check.INDEX);
        x.copy().go("found 0 2 5 5").dues("shotOf 0 #", 0, 1, 5, 2, 3);
        x.copy().go("found 0 4 5 5").dues("shotOf 0 #", 0, 1, 2, 3, 5);
        CHECK.run("addFilm").go(59, "addShot 0 5 5").limits("found 0 # 5 5", 0, 59, Check.INDEX);
        CHECK.sentence("`length`: the length, 1 to 999");
        CHECK.run("addFilm").limits("found 0 0 # 5", 1, 999, Check.ARGUMENT).go("found 0 0 1 5; found 0 1 999 5")
                .dues("lengthOf #", 1, 999).dues("frameOf #", 0, 1);
        CHECK.sentence("`scene`: the scene, 0 to 9");
        CHECK.run("addFilm").limits("found 0 0 5 #", 0, 9, Check.ARGUMENT)
                .go("found 0 0 5 0; found 0 0 5 9; found 0 0 5 0; found 0 0 5 9; grade 0 1; grade 1 2; passOn 0; passOn 1")
                .dues("gradeOf #", 1, 2, 1, 2);
        CHECK.sentence("Returns the number of its reel.");
        Run y = CHECK.run("addFilm; addFilm; addShot 1 5 5; addReel 0");
        for (int reel = 1; reel < 24; reel++) {
            y.due("found " + reel % 2 + " 0 5 5", reel).due("reelOf " + reel, reel)
                    .due("shotOf " + reel % 2 + " 0", reel);
        }
    }

    private static void foundThrows() {
        CHECK.sentence("Throws `IndexOutOfBoundsException` if there is no such film, or place");
        CHECK.run().refused("found 0 0 5 5", Check.INDEX).refused("found 0 1 0 10", Check.INDEX);
        CHECK.run("addFilm").refused("found 0 1 5 5", Check.INDEX).refused("found 0 -1 0 5", Check.INDEX)
                .refused("found 1 0 5 10", Check.INDEX);
        full().go(LENT).refused("found 2 0 5 5", Check.INDEX).refused("found 0 61 5 5", Check.INDEX)
                .refused("found 0 -1 0 5", Check.INDEX).refused("found 1 1 5 5", Check.INDEX)
                .refused("found -1 0 5 -1", Check.INDEX);
        CHECK.run("addFilm").go(LENT).refused("found 0 1 5 5", Check.INDEX).refused("found 1 0 0 5", Check.INDEX);
        CHECK.sentence("Throws `IllegalArgumentException` if a number is out of range");
        CHECK.run("addFilm").refused("found 0 0 0 -1", Check.ARGUMENT).refused("found 0 0 1000 10", Check.ARGUMENT)
                .refused("found 0 0 MAX MIN", Check.ARGUMENT).due("found 0 0 1 0", 0);
        full().refusedFor("found 0 0 # 5", Check.ARGUMENT, "0", "1000")
                .refusedFor("found 0 60 5 #", Check.ARGUMENT, "-1", "10")
                .go(LENT).refused("found 0 0 0 5", Check.ARGUMENT).refused("found 0 60 5 10", Check.ARGUMENT);
        CHECK.run("addFilm").go(LENT).refusedFor("found 0 0 # 5", Check.ARGUMENT, "0", "1000")
                .refusedFor("found 0 0 5 #", Check.ARGUMENT, "-1", "10");
        CHECK.sentence("Throws `UnsupportedOperationException` if the film is lent");
        CHECK.run(FOUR_SHOTS).go(LENT).refusedFor("found 0 # 5 5", Check.UNSUPPORTED, "0", "4").due("found 1 1 5 5", 3)
                .due("show 0", 0).refused("found 0 0 5 5", Check.UNSUPPORTED).go("giveBack 0").due("found 0 0 5 5", 4);
        full().go(LENT).refused("found 0 0 5 5", Check.UNSUPPORTED).refused("found 0 60 5 5", Check.UNSUPPORTED)
                .refused("found 1 0 5 5", Check.STATE);
        CHECK.run("addFilm").go(24, "addReel 0").go(LENT).refused("found 0 0 5 5", Check.UNSUPPORTED);
        CHECK.run("addFilm").go(60, "addShot 0 5 5").go(LENT).refused("found 0 0 5 5", Check.UNSUPPORTED);
    }

    private static void foundWithoutRoom() {
        CHECK.sentence("Throws `IllegalStateException` if there are 60 shots, or 24 reels");
        full().refused("found 0 0 5 5", Check.STATE).refused("found 1 0 5 5", Check.STATE)
                .refused("found 0 60 5 5", Check.STATE);
        CHECK.run("addFilm; addFilm").go(59, "addShot 0 5 5").due("found 0 59 5 5", 0)
                .refused("found 0 0 5 5", Check.STATE)
                .refused("found 1 0 5 5", Check.STATE).due("addReel 0", 1);
        CHECK.run("addFilm; addFilm").go(23, "addReel 0").due("found 0 0 5 5", 23).refused("found 0 0 5 5", Check.STATE)
                .refused("found 1 0 5 5", Check.STATE).due("addShot 0 5 5", 1);
        CHECK.run("addFilm").go(24, "found 0 0 5 5").go("join 1 0").refused("found 0 0 5 5", Check.STATE);
        // With room for both by one, both are taken.
        CHECK.run("addFilm").go(59, "addShot 0 5 5").go(23, "addReel 0").due("found 0 0 5 5", 23)
                .refused("found 0 0 5 5", Check.STATE);
    }

    private static void join() {
        CHECK.promise(7);
        CHECK.sentence("Joins two reels.");
        CHECK.run(FOUR_SHOTS).go("put 0 0; put 0 1; put 1 2; put 1 3; run 0; run 1; run 1; join 0 1")
                .dues("wear 0 #", 1, 0, 2)
                .refused("wear 0 3", Check.INDEX).refused("wear 1 0", Check.INDEX).dues("reelOf #", 0, 0, 0, 0)
                .refused("scan 1 1", Check.UNSUPPORTED).due("run 1", 0).due("run 0", 3).dues("frameOf #", 0, 5, 10, 15);
        // The emptied reel takes shots again, also such as stand ahead of those that it had.
        CHECK.run(FOUR_SHOTS).go("put 0 1; put 1 3; join 0 1; put 1 0").due("put 1 2", 2).dues("reelOf #", 1, 0, 1, 0)
                .due("wear 1 0", 0);
        CHECK.sentence("`reel`: the number of the reel that gets the shots");
        // The reel that is found last stands first.
        CHECK.run("addFilm").go(24, "found 0 0 5 5").takenFor("join # 0", "1", "23")
                .refusedFor("join # 0", Check.INDEX, "24", "-1", "MIN", "MAX").go("join 23 0").due("reelOf 0", 23);
        CHECK.run("addFilm; found 0 0 5 5; found 0 1 5 5").due("join 0 1", 2).dues("reelOf #", 0, 0);
        CHECK.sentence("`other`: the number of the other one");
        CHECK.run("addFilm").go(24, "found 0 0 5 5").takenFor("join 23 #", "0", "22")
                .refusedFor("join 23 #", Check.INDEX, "24", "-1", "MIN", "MAX").go("join 1 0").due("reelOf 0", 1);
        CHECK.run("addFilm; found 0 0 5 5").go(23, "found 0 1 5 5").due("join 0 23", 2).dues("reelOf #", 0, 1)
                .due("reelOf 23", 0);
        CHECK.sentence("Returns how many shots the reel has.");
        CHECK.run(FOUR_SHOTS).go("put 0 0; put 1 1").due("join 0 1", 2).go("put 1 2; put 1 3").due("join 0 1", 4);
        Run x = CHECK.run("addFilm; addReel 0; addReel 0").go(60, "addShot 0 5 5");
        for (int shot = 0; shot < 60; shot++) {
            x.go("put " + shot / 59 + " " + shot);
        }
        x.due("join 0 1", 60);
        Run y = CHECK.run("addFilm; found 0 0 5 5");
        for (int shot = 1; shot < 24; shot++) {
            y.go("found 0 " + shot + " 5 5").due("join 0 " + shot, shot + 1);
        }
    }

    private static void joinThrows() {
        CHECK.sentence("Throws `IndexOutOfBoundsException` if there is no such reel, for either");
        CHECK.run("addFilm").refused("join 0 0", Check.INDEX).refused("join 0 1", Check.INDEX);
        CHECK.run("addFilm; addReel 0").refused("join 0 1", Check.INDEX).refused("join 1 0", Check.INDEX)
                .refused("join 1 1", Check.INDEX).refused("join -1 -1", Check.INDEX).refused("join -1 0", Check.INDEX)
                .go(LENT).refused("join 0 1", Check.INDEX).refused("join 1 0", Check.INDEX);
        CHECK.sentence("Throws `IllegalArgumentException` if both are the same, or of two films");
        Run x = CHECK.run(FOUR_SHOTS).refused("join 0 0", Check.ARGUMENT).refused("join 0 2", Check.ARGUMENT)
                .refused("join 2 1", Check.ARGUMENT).go("put 0 0; put 2 4").refused("join 0 0", Check.ARGUMENT)
                .refused("join 0 2", Check.ARGUMENT).refused("join 2 0", Check.ARGUMENT)
                .refused("join 1 2", Check.ARGUMENT);
        x.go(LENT).refused("join 0 0", Check.ARGUMENT).refused("join 1 1", Check.ARGUMENT)
                .refused("join 0 2", Check.ARGUMENT)
                .refused("join 2 1", Check.ARGUMENT);
        CHECK.sentence("Throws `UnsupportedOperationException` if one is empty, the order is not as told, or the film is lent");
        CHECK.run(FOUR_SHOTS).refused("join 0 1", Check.UNSUPPORTED).go("put 0 1")
                .refused("join 0 1", Check.UNSUPPORTED)
                .refused("join 1 0", Check.UNSUPPORTED).go("put 1 2").due("join 0 1", 2)
                .refused("join 0 1", Check.UNSUPPORTED)
                .refused("join 1 0", Check.UNSUPPORTED);
        CHECK.run(FOUR_SHOTS).go("put 0 1; put 1 0").refused("join 0 1", Check.UNSUPPORTED).due("join 1 0", 2);
        // Reels whose shots stand between one another's can be joined neither way.
        CHECK.run(FOUR_SHOTS).go("put 0 0; put 0 2; put 1 1; put 1 3").refused("join 0 1", Check.UNSUPPORTED)
                .refused("join 1 0", Check.UNSUPPORTED);
        CHECK.run(FOUR_SHOTS).go("put 0 0; put 0 3; put 1 1; put 1 2").refused("join 0 1", Check.UNSUPPORTED)
                .refused("join 1 0", Check.UNSUPPORTED);
        // The place tells the order, not the number.
        CHECK.run(FOUR_SHOTS).go("put 0 0; put 0 1; found 0 1 5 5").refused("join 0 3", Check.UNSUPPORTED)
                .refused("join 3 0", Check.UNSUPPORTED).go("found 0 0 5 5").refused("join 0 4", Check.UNSUPPORTED)
                .due("join 4 0", 3);
        CHECK.run(FOUR_SHOTS).go("put 0 0; put 1 1").go(LENT).refused("join 0 1", Check.UNSUPPORTED)
                .refused("join 1 0", Check.UNSUPPORTED).due("show 0", 0).refused("join 0 1", Check.UNSUPPORTED)
                .go("giveBack 0").due("join 0 1", 2);
        CHECK.run(FOUR_SHOTS).go("put 0 0; put 1 1; addVersion 1 0; lend 0 1 0 1").due("join 0 1", 2);
    }

    private static void shots() {
        CHECK.promise(8);
        CHECK.sentence("Returns how many shots a film has.");
        CHECK.run(FOUR_SHOTS).due("shots 0", 4).due("shots 1", 1).go("found 0 0 5 5; addShot 1 5 5")
                .dues("shots #", 5, 2);
        CHECK.sentence("`film`: the number of the film");
        CHECK.run().none("shots #", Check.INDEX).go(6, "addFilm").limits("shots #", 0, 5, Check.INDEX);
        CHECK.sentence("Returns the number of shots, missing ones too.");
        CHECK.run("addFilm").due("shots 0", 0).go("addShot 0 5 5").due("shots 0", 1).go("found 0 1 5 5")
                .due("shots 0", 2)
                .go("addReel 0; put 1 0; join 1 0").due("shots 0", 2);
        CHECK.run("addFilm").go(60, "addShot 0 5 5").due("shots 0", 60);
        CHECK.run("addFilm").go(24, "found 0 0 5 5").due("shots 0", 24);
        CHECK.sentence("Throws `IndexOutOfBoundsException` if there is no such film");
        CHECK.run().none("shots #", Check.INDEX);
        CHECK.run(FOUR_SHOTS).refusedFor("shots #", Check.INDEX, "2", "-1", "MIN", "MAX");
    }

    private static void shotOf() {
        CHECK.promise(9);
        CHECK.sentence("Returns a shot of a film.");
        CHECK.run(FOUR_SHOTS).dues("shotOf 0 #", 0, 1, 2, 3).due("shotOf 1 0", 4).go("found 0 1 5 5")
                .dues("shotOf 0 #", 0, 5, 1, 2, 3);
        CHECK.sentence("`film`: the number of the film");
        CHECK.run(FOUR_SHOTS).limits("shotOf # 0", 0, 1, Check.INDEX);
        CHECK.sentence("`place`: the place in the row, from 0");
        CHECK.run(FOUR_SHOTS).limits("shotOf 0 #", 0, 3, Check.INDEX).limits("shotOf 1 #", 0, 0, Check.INDEX);
        CHECK.run("addFilm").none("shotOf 0 #", Check.INDEX).go(60, "addShot 0 5 5")
                .limits("shotOf 0 #", 0, 59, Check.INDEX);
        CHECK.sentence("Returns the number of the shot.");
        CHECK.run("addFilm; addFilm; addShot 1 5 5; addShot 0 5 5; found 0 0 5 5; found 1 1 5 5")
                .dues("shotOf 0 #", 2, 1)
                .dues("shotOf 1 #", 0, 3);
        CHECK.sentence("Throws `IndexOutOfBoundsException` if there is no such film, or place");
        CHECK.run().none("shotOf # 0", Check.INDEX);
        CHECK.run(FOUR_SHOTS).refusedFor("shotOf # 0", Check.INDEX, "2", "-1")
                .refusedFor("shotOf 1 #", Check.INDEX, "1", "-1")
                .refused("shotOf 2 5", Check.INDEX);
    }

    private static void lengthOf() {
        CHECK.promise(10);
        CHECK.sentence("Returns the length of a shot.");
        CHECK.run("addFilm; addShot 0 1 5; found 0 1 2 5; found 0 2 999 5; join 0 1").dues("lengthOf #", 1, 2, 999)
                .go("mend 0 0").dues("lengthOf #", 1, 1, 999);
        CHECK.sentence("`shot`: the number of the shot");
        CHECK.run(FOUR_SHOTS).limits("lengthOf #", 0, 4, Check.INDEX);
        CHECK.run("addFilm").go(60, "addShot 0 5 5").limits("lengthOf #", 0, 59, Check.INDEX);
        CHECK.sentence("Returns the number of frames.");
        CHECK.run(FOUR_SHOTS).dues("lengthOf #", 5, 5, 5, 5, 7).go("put 0 0; put 0 1; mend 0 0")
                .dues("lengthOf #", 4, 5, 5, 5, 7)
                .go(3, "mend 0 0").due("lengthOf 0", 1).refused("mend 0 0", Check.UNSUPPORTED);
        CHECK.sentence("Throws `IndexOutOfBoundsException` if there is no such shot");
        CHECK.run("addFilm; addReel 0").none("lengthOf #", Check.INDEX);
        CHECK.run(FOUR_SHOTS).refusedFor("lengthOf #", Check.INDEX, "5", "60", "-1");
    }

    private static void frameOf() {
        CHECK.promise(11);
        CHECK.sentence("Returns the number of the first frame of a shot.");
        CHECK.run(FOUR_SHOTS).go("put 0 1; put 1 0; put 1 3; put 2 4").due("frameOf 0", 0).due("frameOf 1", 5)
                .due("frameOf 3", 10).due("frameOf 4", 0).go("put 0 2").due("frameOf 2", 10).due("frameOf 3", 15)
                .go("mend 0 0").dues("frameOf #", 0, 5, 9, 14, 0).go("found 0 1 3 0")
                .dues("frameOf #", 0, 8, 12, 17, 0, 5);
        CHECK.sentence("`shot`: the number of the shot");
        CHECK.run("addFilm").go(24, "found 0 0 5 5").limits("frameOf #", 0, 23, Check.INDEX);
        CHECK.sentence("Returns the number of the frame.");
        Run x = CHECK.run("addFilm; addReel 0").go(60, "addShot 0 999 5");
        for (int shot = 0; shot < 60; shot++) {
            x.go("put 0 " + shot).due("frameOf " + shot, 999 * shot);
        }
        x.due("frameOf 59", 58941);
        CHECK.sentence("Throws `IndexOutOfBoundsException` if there is no such shot");
        CHECK.run("addFilm; addReel 0").none("frameOf #", Check.INDEX);
        CHECK.run(FOUR_SHOTS).refusedFor("frameOf #", Check.INDEX, "5", "-1", "MIN", "MAX");
        CHECK.sentence("Throws `NoSuchElementException` if it is missing");
        CHECK.run(FOUR_SHOTS).refusedFor("frameOf #", Check.ELEMENT, "0", "4").go("put 0 0").due("frameOf 0", 0)
                .refused("frameOf 1", Check.ELEMENT);
    }

    private static void shotAt() {
        CHECK.promise(12);
        CHECK.sentence("Returns the shot that has a frame.");
        Run x = CHECK.run(FOUR_SHOTS).go("put 0 1; put 1 0; put 1 3; put 2 4")
                .dues("shotAt 0 #", 0, 0, 0, 0, 0, 1, 1, 1, 1, 1, 3, 3, 3, 3, 3)
                .dues("shotAt 1 #", 4, 4, 4, 4, 4, 4, 4);
        x.go("put 0 2; mend 0 0").due("shotAt 0 8", 1).due("shotAt 0 9", 2).due("shotAt 0 13", 2).due("shotAt 0 14", 3);
        CHECK.sentence("`film`: the number of the film");
        CHECK.run("addFilm; addFilm; found 0 0 1 1; found 1 0 1 1").limits("shotAt # 0", 0, 1, Check.INDEX);
        CHECK.sentence("`frame`: the number of the frame");
        CHECK.run("addFilm; found 0 0 1 1").limits("shotAt 0 #", 0, 0, Check.ELEMENT);
        CHECK.run("addFilm; found 0 0 999 1; addShot 0 5 5; found 0 2 1 1").limits("shotAt 0 #", 0, 999, Check.ELEMENT)
                .due("shotAt 0 998", 0).due("shotAt 0 999", 2);
        Run y = CHECK.run("addFilm; addReel 0").go(60, "addShot 0 999 5");
        for (int shot = 0; shot < 60; shot++) {
            y.go("put 0 " + shot);
        }
        y.limits("shotAt 0 #", 0, 59939, Check.ELEMENT).due("shotAt 0 58940", 58).due("shotAt 0 58941", 59)
                .due("shotAt 0 59939", 59);
        CHECK.sentence("Returns the number of the shot.");
        CHECK.run("addFilm; addFilm; found 1 0 2 2; found 0 0 1 1; found 0 0 1 1").dues("shotAt 0 #", 2, 1)
                .dues("shotAt 1 #", 0, 0);
        CHECK.sentence("Throws `IndexOutOfBoundsException` if there is no such film");
        CHECK.run().none("shotAt # 0", Check.INDEX).none("shotAt # -1", Check.INDEX);
        CHECK.run(FOUR_SHOTS).refusedFor("shotAt # 0", Check.INDEX, "2", "-1").refused("shotAt 2 -1", Check.INDEX)
                .refused("shotAt -1 MAX", Check.INDEX);
        CHECK.sentence("Throws `NoSuchElementException` if there is no such frame");
        CHECK.run("addFilm").none("shotAt 0 #", Check.ELEMENT).go("addShot 0 5 5").none("shotAt 0 #", Check.ELEMENT);
        CHECK.run("addFilm; found 0 0 5 5").refusedFor("shotAt 0 #", Check.ELEMENT, "5", "-1", "MIN", "MAX")
                .go("found 0 1 1 1; join 0 1; mend 0 0").due("shotAt 0 4", 1).refused("shotAt 0 5", Check.ELEMENT);
    }

    private static void reelOf() {
        CHECK.promise(13);
        CHECK.sentence("Returns the reel of a shot.");
        CHECK.run(FOUR_SHOTS).go("put 1 0; put 0 1; found 1 0 5 5").dues("reelOf #", 1, 0, -1, -1, -1, 3)
                .go("join 1 0").dues("reelOf #", 1, 1, -1, -1, -1, 3);
        CHECK.sentence("`shot`: the number of the shot");
        CHECK.run(FOUR_SHOTS).limits("reelOf #", 0, 4, Check.INDEX);
        CHECK.sentence("Returns the number of the reel, -1 if it is missing.");
        CHECK.run("addFilm; addShot 0 5 5").go(24, "addReel 0").due("reelOf 0", -1).refused("put 24 0", Check.INDEX)
                .due("reelOf 0", -1).go("put 23 0").due("reelOf 0", 23);
        CHECK.run("addFilm; found 0 0 5 5").due("reelOf 0", 0);
        CHECK.sentence("Throws `IndexOutOfBoundsException` if there is no such shot");
        CHECK.run("addFilm; addReel 0").none("reelOf #", Check.INDEX);
        CHECK.run(FOUR_SHOTS).refusedFor("reelOf #", Check.INDEX, "5", "60", "-1", "MIN", "MAX");
    }
}
