/** The terms, which hold for several promises at once: each sentence once more, with the calls that it is about. */
public final class TermsTest {
    private static final Check CHECK = new Check("terms");
    private static final String TERMS = "terms";

    public static void main(String[] args) {
        CHECK.part(TERMS);
        films();
        reels();
        joinAndMend();
        scans();
        grades();
        versions();
        loans();
        whileLent();
        changesNothing();
        listedFirst();
        CHECK.coversTerms(TERMS);
        CHECK.part("the public face");
        manyCalls();
        CHECK.end();
    }

    private static void films() {
        CHECK.sentence("At most 6 films are numbered from 0, each a row of shots.");
        Run x = CHECK.run();
        for (int film = 0; film < 6; film++) {
            x.due("addFilm", film).due("addShot " + film + " 5 5", 2 * film)
                    .due("addShot " + film + " 5 5", 2 * film + 1)
                    .due("shots " + film, 2).due("shotOf " + film + " 1", 2 * film + 1);
        }
        x.refused("addFilm", Check.STATE);
        CHECK.sentence("At most 60 shots are numbered from 0, over all films; a shot has a length in frames, 1 to 999, and a scene, 0 to"
                + " 9, and is missing, or on a reel.");
        Run y = CHECK.run().go(6, "addFilm");
        for (int shot = 0; shot < 60; shot++) {
            y.due((shot < 40 ? "addShot " : "found ") + shot % 6 + (shot < 40 ? "" : " 0") + " 5 5",
                    shot < 40 ? shot : shot - 40)
                    .due("lengthOf " + shot, 5);
        }
        y.refused("addShot 0 5 5", Check.STATE).refused("found 5 0 5 5", Check.STATE).due("reelOf 39", -1)
                .due("reelOf 40", 0);
        CHECK.run("addFilm").limits("addShot 0 # 0", 1, 999, Check.ARGUMENT)
                .limits("found 0 0 # 0", 1, 999, Check.ARGUMENT)
                .limits("addShot 0 1 #", 0, 9, Check.ARGUMENT).limits("found 0 0 1 #", 0, 9, Check.ARGUMENT);
        CHECK.sentence("Frames of a film are those of its shots that are on reels, in the order of the row, numbered from 0.");
        CHECK.run("addFilm; addShot 0 1 0; addShot 0 2 0; addShot 0 3 0; addReel 0; addReel 0; put 0 2; put 1 0; addVersion 0 0")
                .dues("shotAt 0 #", 0, 2, 2, 2).refused("shotAt 0 4", Check.ELEMENT).due("frameOf 0", 0)
                .due("frameOf 2", 1)
                .refused("frameOf 1", Check.ELEMENT).due("frames 0", 4)
                .limits("leaveOut 0 0 # true", 1, 4, Check.ARGUMENT)
                .go("put 1 1").dues("shotAt 0 #", 0, 1, 1, 2, 2, 2).refused("shotAt 0 6", Check.ELEMENT);
    }

    private static void reels() {
        CHECK.sentence("At most 24 reels are numbered from 0, each of a film, with shots in the order of the film's row.");
        Run x = CHECK.run("addFilm; addFilm; addShot 0 5 5; addShot 0 5 5");
        for (int reel = 0; reel < 24; reel++) {
            x.due(reel % 3 == 0 ? "addReel 0" : "found 1 0 5 5", reel);
        }
        x.refused("addReel 0", Check.STATE).refused("found 1 0 5 5", Check.STATE).go("put 0 1")
                .refused("put 0 0", Check.UNSUPPORTED)
                .refused("put 1 0", Check.ARGUMENT).due("put 3 0", 1);
        CHECK.sentence("Between two shots that follow each other on a reel there is a splice, with a wear, 0 at first.");
        CHECK.run("addFilm; addShot 0 5 5; addShot 0 5 5; addShot 0 5 5; addReel 0").none("wear 0 #", Check.INDEX)
                .go("put 0 0")
                .none("wear 0 #", Check.INDEX).go("put 0 2").limits("wear 0 #", 0, 0, Check.INDEX).due("wear 0 0", 0)
                .go("found 0 3 5 5; run 0; join 0 1").dues("wear 0 #", 1, 0).limits("wear 0 #", 0, 1, Check.INDEX);
        CHECK.sentence("The limit of wear is 10 at first.");
        CHECK.run().due("setLimit 10", 10);
        CHECK.run("addFilm; found 0 0 5 5; found 0 1 5 5; join 0 1").go(9, "run 0").due("run 0", 10)
                .refused("run 0", Check.UNSUPPORTED);
        CHECK.sentence("A run of a reel adds 1 to the wear of each of its splices; none may come to be more than the limit.");
        CHECK.run("addFilm; found 0 0 5 5; found 0 1 5 5; found 0 2 5 5; join 0 1; run 0; join 0 2; run 0")
                .dues("wear 0 #", 2, 1)
                .go("setLimit 3; run 0").dues("wear 0 #", 3, 2).refused("run 0", Check.UNSUPPORTED)
                .refused("setLimit 2", Check.UNSUPPORTED)
                .go("addVersion 0 0").refused("lend 0 1 0 1", Check.UNSUPPORTED);
        CHECK.sentence("A shot that is found comes into the row at a place, on a reel of its own.");
        CHECK.run("addFilm; found 0 0 5 5; found 0 1 5 5; found 0 1 5 5").dues("shotOf 0 #", 0, 2, 1)
                .dues("reelOf #", 0, 1, 2)
                .none("wear 2 #", Check.INDEX);
    }

    private static void joinAndMend() {
        CHECK.sentence("Two reels of a film can be joined, if the last shot of the one stands ahead of the first shot of the other one: all"
                + " shots of the latter come behind those of the former, with their splices, and a new splice between; the latter is"
                + " empty then.");
        CHECK.run("addFilm; found 0 0 5 5; found 0 1 5 5; found 0 2 5 5; found 0 3 5 5; join 0 1; join 2 3; run 2; run 2; run 0")
                .refused("join 2 0", Check.UNSUPPORTED).due("join 0 2", 4).dues("wear 0 #", 1, 0, 2)
                .dues("reelOf #", 0, 0, 0, 0)
                .none("wear 2 #", Check.INDEX).refused("scan 2 1", Check.UNSUPPORTED)
                .refused("join 0 2", Check.UNSUPPORTED);
        CHECK.sentence("To mend a splice makes its wear 0, and takes the last frame from the shot ahead of it, which must have 2 or more.");
        CHECK.run("addFilm; found 0 0 2 5; found 0 1 1 5; join 0 1; run 0; mend 0 0").due("wear 0 0", 0)
                .dues("lengthOf #", 1, 1)
                .go("run 0").refused("mend 0 0", Check.UNSUPPORTED).due("wear 0 0", 1);
    }

    private static void scans() {
        CHECK.sentence("A scan of a reel at a size, 1 to 4, takes its shots; at each splice whose wear is at least half of the limit,"
                + " without rounding, the last frame of the shot ahead and the first one of the shot behind are missed, of a shot of one"
                + " frame this one once.");
        CHECK.run("addFilm; found 0 0 5 5; found 0 1 1 5; found 0 2 2 5; found 0 3 5 5; join 2 3; join 1 2; join 0 1; setLimit 5; run 0; run 0")
                .due("scan 0 1", 0).go("run 0").due("scan 0 1", 5).dues("missed #", 1, 1, 2, 1)
                .limits("scan 0 #", 1, 4, Check.ARGUMENT)
                .go("setLimit 6").due("scan 0 1", 5).go("setLimit 7").due("scan 0 1", 0);
        CHECK.sentence("A shot has the size and what was missed of its last scan at the greatest size; 0 and nothing without one.");
        CHECK.run("addFilm; found 0 0 5 5; found 0 1 5 5; join 0 1; setLimit 2").dues("scanned #", 0, 0)
                .dues("missed #", 0, 0)
                .go("scan 0 2; run 0; scan 0 1").dues("scanned #", 2, 2).dues("missed #", 0, 0).go("scan 0 2")
                .dues("missed #", 1, 1)
                .go("scan 0 3; mend 0 0; scan 0 2").dues("scanned #", 3, 3).dues("missed #", 1, 1).go("scan 0 3")
                .dues("missed #", 0, 0);
        CHECK.sentence("What is missed stays as it was when a frame is taken from it, but is never more than its length.");
        CHECK.run("addFilm; found 0 0 9 5; found 0 1 3 5; found 0 2 9 5; join 0 1; join 0 2; setLimit 2; run 0; scan 0 1; mend 0 1")
                .dues("missed #", 1, 2, 1).dues("lengthOf #", 9, 2, 9).go("mend 0 1").dues("missed #", 1, 1, 1)
                .dues("lengthOf #", 9, 1, 9);
    }

    private static void grades() {
        CHECK.sentence("A shot has a grade of its own, 0 to 99, one that was passed on to it, or none.");
        Run x = CHECK.run("addFilm; addShot 0 5 5; addShot 0 5 5; addShot 0 5 6; grade 0 5")
                .limits("grade 0 #", -1, 99, Check.ARGUMENT)
                .go("passOn 0").dues("gradeOf #", 5, 5, -1).dues("gradeFrom #", 0, 0, -1);
        CHECK.sentence("To pass a grade on, of a shot that has its own, gives it to all other shots of the same film and scene that have none"
                + " of their own, in place of what was passed on to them.");
        x.refused("passOn 1", Check.UNSUPPORTED).refused("passOn 2", Check.UNSUPPORTED);
        CHECK.run("addFilm; addFilm; addShot 0 5 5; addShot 0 5 5; addShot 0 5 5; addShot 0 5 5; addShot 1 5 5; addShot 0 5 4; grade 0 1; grade 1 2")
                .due("passOn 0", 2).dues("gradeOf #", 1, 2, 1, 1, -1, -1).due("passOn 1", 2)
                .dues("gradeOf #", 1, 2, 2, 2, -1, -1);
        CHECK.sentence("What was passed on follows the grade that it comes from; if that is taken away, it is, too.");
        CHECK.run("addFilm; addShot 0 5 5; addShot 0 5 5; grade 0 1; passOn 0; grade 0 0").dues("gradeOf #", 0, 0)
                .go("grade 0 -1")
                .dues("gradeOf #", -1, -1).dues("gradeFrom #", -1, -1).go("grade 0 3").dues("gradeOf #", 3, -1);
        CHECK.sentence("A shot that gets its own is no longer followed by what others passed on.");
        CHECK.run("addFilm; addShot 0 5 5; addShot 0 5 5; grade 0 1; passOn 0; grade 1 2; grade 0 3")
                .dues("gradeOf #", 3, 2)
                .go("grade 1 -1").dues("gradeOf #", 3, -1).go("grade 0 4").dues("gradeOf #", 4, -1);
        CHECK.sentence("Shots that come later are not touched.");
        CHECK.run("addFilm; addShot 0 5 5; grade 0 1; passOn 0; addShot 0 5 5; found 0 0 5 5")
                .dues("gradeOf #", 1, -1, -1).go("grade 0 2")
                .dues("gradeOf #", 2, -1, -1).due("passOn 0", 2).dues("gradeOf #", 2, 2, 2);
    }

    private static void versions() {
        CHECK.sentence("At most 10 versions are numbered from 0, each of a film, for a country, 0 to 7, which no other one of this film has.");
        Run x = CHECK.run("addFilm; addFilm").limits("addVersion 0 #", 0, 7, Check.ARGUMENT);
        for (int version = 0; version < 10; version++) {
            x.due("addVersion " + version / 8 + " " + version % 8, version)
                    .refused("addVersion " + version / 8 + " " + version % 8,
                    Check.UNSUPPORTED);
        }
        x.refused("addVersion 1 2", Check.STATE);
        CHECK.sentence("Frames are left out of a version by their numbers then, and stay left out when others come ahead of them; a frame"
                + " that is taken away is left out nowhere any more.");
        Run y = CHECK.run("addFilm; found 0 0 3 5; found 0 1 3 5; join 0 1; addVersion 0 0; addVersion 0 1; leaveOut 0 2 4 true");
        y.go("found 0 0 2 5").due("frames 0", 6).due("leaveOut 0 4 6 true", 0).go("mend 0 0").due("frames 0", 6)
                .due("frames 1", 7)
                .due("leaveOut 0 4 5 true", 0).due("leaveOut 0 0 4 false", 0).due("leaveOut 0 5 7 false", 0)
                .due("leaveOut 0 4 5 false", 1);
    }

    private static void loans() {
        CHECK.sentence("At most 20 loans are numbered from 0, each of a version, for some runs, with a heat, 0 to 3, and a day on which it is"
                + " due.");
        Run x = CHECK.run("addFilm; addVersion 0 0").limits("lend 0 1 # 1", 0, 3, Check.ARGUMENT);
        for (int loan = 0; loan < 20; loan++) {
            x.due("lend 0 1 0 1", loan).due("giveBack " + loan, 0);
        }
        x.refused("lend 0 1 0 1", Check.STATE);
        CHECK.sentence("A film is lent once at a time; it can be lent if no splice on its reels would come to be more than the limit by all"
                + " runs.");
        CHECK.run("addFilm; found 0 0 5 5; found 0 1 5 5; join 0 1; addVersion 0 0; addVersion 0 1; run 0")
                .refused("lend 0 5 1 1", Check.UNSUPPORTED)
                .refused("lend 0 4 3 1", Check.UNSUPPORTED).takenFor("lend 0 # 1 1", "4").due("lend 1 9 0 1", 0)
                .refused("lend 0 1 0 1", Check.UNSUPPORTED).refused("lend 1 1 0 1", Check.UNSUPPORTED);
        CHECK.sentence("A showing is a run of all of its reels, by which each splice gets 1 more than the heat.");
        CHECK.run("addFilm; addFilm; found 0 0 5 5; found 0 1 5 5; found 0 2 5 5; found 0 3 5 5; found 1 0 5 5; found 1 1 5 5; join 0 1;"
                + "join 2 3; join 4 5; addVersion 0 0; lend 0 2 3 1; show 0").due("wear 0 0", 4).due("wear 2 0", 4)
                        .due("wear 4 0", 0)
                .due("shown", 20).go("show 0").due("wear 0 0", 8).due("wear 2 0", 8).due("wear 4 0", 0)
                .due("shown", 40);
    }

    private static void whileLent() {
        CHECK.sentence("While a film is lent, no shot is put on a reel, found or mended, no reel of it joined, run or scanned, and the limit"
                + " is not less than before.");
        String[] refused = {"put 0 2", "found 0 0 5 5", "mend 0 0", "join 0 1", "run 0", "scan 0 1", "setLimit 9"};
        String[] free = {"addFilm", "addShot 0 5 5", "addReel 0", "setLimit 10", "setLimit 11", "grade 0 5",
                "addVersion 0 1",
            "leaveOut 0 0 1 true", "advance 1", "lend 1 1 0 1"};
        Run x = CHECK.run("addFilm; addFilm; addShot 0 5 5; addShot 0 5 5; addShot 0 5 5; addReel 0; put 0 0; put 0 1; found 0 3 5 5;"
                + "addVersion 0 0; addVersion 1 0");
        for (String call : refused) {
            x.taken(call);
        }
        x.go("lend 0 1 0 1");
        for (String call : refused) {
            x.refused(call, Check.UNSUPPORTED);
        }
        for (String call : free) {
            x.taken(call);
        }
        // It is lent until it is given back, also late or without a run left.
        x.go("show 0; advance 99");
        for (String call : refused) {
            x.refused(call, Check.UNSUPPORTED);
        }
        x.go("giveBack 0");
        for (String call : refused) {
            x.taken(call);
        }
    }

    private static void changesNothing() {
        CHECK.sentence("A method that throws an exception changes nothing.");
        Run x = CHECK.run("addFilm; addFilm; addShot 0 5 5; addShot 0 1 5; addShot 0 5 5; addReel 0; put 0 0; put 0 1; put 0 2; found 1 0 5 5;"
                + "setLimit 3; run 0; run 0; scan 0 2; grade 0 5; passOn 0; addVersion 0 0; leaveOut 0 2 4 true; lend 0 1 0 4; show 0;"
                + "advance 2");
        String[] wrong = {"put 0 0", "put 1 0", "found 0 0 5 5", "found 0 0 1000 5", "join 0 1", "join 1 1",
                "setLimit 2", "setLimit 1", "run 0",
            "mend 0 0", "mend 0 1", "scan 0 4", "scan 0 5", "grade 1 -1", "grade 1 100", "passOn 1", "addVersion 0 0",
                    "addVersion 0 8",
            "leaveOut 0 2 12 false", "leaveOut 0 4 2 false", "lend 0 1 0 1", "lend 0 0 0 1", "show 0", "show 1",
                    "giveBack 1", "advance 0"};
        for (String call : wrong) {
            x.refused(call);
        }
        x.due("advance 2", 0).due("advance 1", 1).due("giveBack 0", 1).due("wear 0 0", 3).due("shown", 33);
    }

    private static void listedFirst() {
        CHECK.sentence("If several exceptions of a method apply, the one that is listed first is thrown.");
        Run full = CHECK.run("addFilm; addFilm").go(24, "found 0 0 5 5").go(36, "addShot 0 5 5").go("addVersion 0 0");
        full.refused("addShot 2 0 5", Check.INDEX).refused("addShot 2 5 5", Check.INDEX)
                .refused("addShot 0 0 5", Check.ARGUMENT);
        full.refused("addReel 2", Check.INDEX).refused("put 24 0", Check.INDEX).refused("put 0 60", Check.INDEX);
        full.refused("found 2 0 0 5", Check.INDEX).refused("found 0 61 0 5", Check.INDEX)
                .refused("found 0 0 0 5", Check.ARGUMENT);
        full.refused("join 24 24", Check.INDEX).refused("join 0 0", Check.ARGUMENT).refused("shotAt 2 -1", Check.INDEX);
        full.go("lend 0 1 0 1").refused("found 0 61 0 5", Check.INDEX).refused("found 0 0 0 5", Check.ARGUMENT)
                .refused("found 0 0 5 5", Check.UNSUPPORTED).refused("setLimit 1", Check.ARGUMENT)
                .refused("scan 24 5", Check.INDEX)
                .refused("scan 0 5", Check.ARGUMENT).refused("join 0 0", Check.ARGUMENT)
                .refused("mend 0 0", Check.INDEX)
                .refused("run 24", Check.INDEX).refused("lend 1 0 0 1", Check.INDEX)
                .refused("lend 0 0 0 1", Check.ARGUMENT)
                .refused("grade 60 100", Check.INDEX).refused("grade 60 -1", Check.INDEX)
                .refused("grade 0 -2", Check.ARGUMENT)
                .refused("leaveOut 1 1 0 true", Check.INDEX).refused("addVersion 2 8", Check.INDEX)
                .refused("addVersion 0 8", Check.ARGUMENT);
    }

    private static void manyCalls() {
        CHECK.sentence("An object is used for at most 512 calls after it has been made; what later calls answer is free.");
        CHECK.run("addFilm; addVersion 0 0; lend 0 1 0 1").go(508, "advance 99").due("giveBack 0", 508 * 99 - 1);
        CHECK.run("addFilm; found 0 0 999 0").go(509, "run 0").due("shown", 509L * 999);
        CHECK.run("addFilm").go(510, "isSound").due("addFilm", 1);
    }
}
