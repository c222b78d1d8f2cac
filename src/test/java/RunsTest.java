/** Promises 14 to 20: the limit, runs, wear, mending and scans. */
public final class RunsTest {
    private static final Check CHECK = new Check("runs");
    private static final String LENT = "addVersion 0 0; lend 0 1 0 1";

    public static void main(String[] args) {
        setLimit();
        setLimitThrows();
        run();
        runThrows();
        wear();
        mend();
        mendThrows();
        scan();
        scanReturns();
        scanThrows();
        scanned();
        missed();
        CHECK.coversPromises(14, 20);
        CHECK.end();
    }

    /** A film with one reel of shots of these lengths. */
    private static Run reelOf(int... lengths) {
        Run x = CHECK.run("addFilm; addReel 0");
        for (int i = 0; i < lengths.length; i++) {
            x.go("addShot 0 " + lengths[i] + " 0; put 0 " + i);
        }
        return x;
    }

    private static Run worn(int times, int... lengths) {
        return reelOf(lengths).go(times, "run 0");
    }

    private static void setLimit() {
        CHECK.promise(14);
        CHECK.sentence("Sets the limit of wear.");
        reelOf(5, 5).go("setLimit 3").go(3, "run 0").refused("run 0", Check.UNSUPPORTED).go("setLimit 4")
                .due("run 0", 4)
                .refused("run 0", Check.UNSUPPORTED);
        // It holds for all films, and for what is lent.
        reelOf(5, 5).go("addFilm; found 1 0 5 5; found 1 1 5 5; join 1 2; setLimit 2; run 1; run 1")
                .refused("run 1", Check.UNSUPPORTED).go("addVersion 0 0").refused("lend 0 3 0 1", Check.UNSUPPORTED)
                .due("lend 0 2 0 1", 0);
        CHECK.sentence("`limit`: the limit, 2 to 50");
        CHECK.run().limits("setLimit #", 2, 50, Check.ARGUMENT)
                .refusedFor("setLimit #", Check.ARGUMENT, "0", "-1", "-2");
        reelOf(5, 5).go("setLimit 2; run 0").due("run 0", 2).refused("run 0", Check.UNSUPPORTED).go("setLimit 50")
                .go(47, "run 0").due("run 0", 50).refused("run 0", Check.UNSUPPORTED).due("wear 0 0", 50);
        CHECK.sentence("Returns the one before.");
        CHECK.run().due("setLimit 2", 10).due("setLimit 50", 2).due("setLimit 50", 50)
                .refused("setLimit 51", Check.ARGUMENT)
                .refused("setLimit 1", Check.ARGUMENT).due("setLimit 7", 50).due("setLimit 10", 7);
    }

    private static void setLimitThrows() {
        CHECK.sentence("Throws `IllegalArgumentException` if it is out of range");
        CHECK.run().refusedFor("setLimit #", Check.ARGUMENT, "1", "51", "MIN", "MAX");
        worn(3, 5, 5).go(LENT).refusedFor("setLimit #", Check.ARGUMENT, "1", "0", "-1", "51", "MIN", "MAX");
        CHECK.sentence("Throws `UnsupportedOperationException` if a splice has more, or it would be less and a film is lent");
        worn(3, 5, 5).refused("setLimit 2", Check.UNSUPPORTED).due("setLimit 3", 10)
                .refused("setLimit 2", Check.UNSUPPORTED)
                .go("mend 0 0").due("setLimit 2", 3);
        // The worn splice is any one: of another film, or the last one of a reel.
        worn(4, 5, 5).go("addFilm; addReel 0; found 1 0 5 5").refused("setLimit 3", Check.UNSUPPORTED)
                .due("setLimit 4", 10);
        worn(4, 5, 5, 5).go("mend 0 0").refused("setLimit 3", Check.UNSUPPORTED).go("mend 0 1").due("setLimit 3", 10);
        // Lent is another film, without a splice.
        Run x = reelOf(5, 5).go("addFilm; addVersion 1 0; lend 0 1 0 1").refused("setLimit 9", Check.UNSUPPORTED)
                .refused("setLimit 2", Check.UNSUPPORTED).due("setLimit 10", 10).due("setLimit 12", 10)
                .due("setLimit 12", 12)
                .refused("setLimit 11", Check.UNSUPPORTED).due("setLimit 50", 12)
                .refused("setLimit 49", Check.UNSUPPORTED);
        x.due("show 0", 0).refused("setLimit 49", Check.UNSUPPORTED).go("giveBack 0").due("setLimit 2", 50);
        worn(10, 5, 5).go("addFilm; addVersion 1 0; lend 0 1 0 1").refused("setLimit 9", Check.UNSUPPORTED)
                .due("setLimit 10", 10);
        // One loan of two is given back.
        CHECK.run("addFilm; addFilm; addVersion 0 0; addVersion 1 0; lend 0 1 0 1; lend 1 1 0 1; giveBack 0")
                .refused("setLimit 9", Check.UNSUPPORTED).go("giveBack 1").due("setLimit 9", 10);
    }

    private static void run() {
        CHECK.promise(15);
        CHECK.sentence("Runs a reel.");
        reelOf(2, 3, 4).go("found 0 3 5 5; found 0 4 5 5; join 1 2; run 0").dues("wear 0 #", 1, 1).due("wear 1 0", 0)
                .due("shown", 9).go("run 0; run 1").dues("wear 0 #", 2, 2).due("wear 1 0", 1).due("shown", 28);
        CHECK.sentence("`reel`: the number of the reel");
        CHECK.run("addFilm; addReel 0").limits("run #", 0, 0, Check.INDEX).go(23, "addReel 0")
                .limits("run #", 0, 23, Check.INDEX);
        CHECK.sentence("Returns the greatest wear of its splices then, 0 without one.");
        reelOf().due("run 0", 0).due("run 0", 0).due("shown", 0);
        reelOf(7).due("run 0", 0).due("run 0", 0).due("shown", 14);
        reelOf(1, 1).due("run 0", 1).due("run 0", 2);
        reelOf(5, 5, 5).go("run 0; run 0; mend 0 0").due("run 0", 3).go("mend 0 1").due("run 0", 2)
                .go("mend 0 0; mend 0 1").due("run 0", 1);
        // The greatest one of this reel, not of all.
        reelOf(5, 5).go("found 0 2 5 5; found 0 3 5 5; join 1 2; run 0; run 0").due("run 1", 1);
    }

    private static void runThrows() {
        CHECK.sentence("Throws `IndexOutOfBoundsException` if there is no such reel");
        CHECK.run("addFilm; addShot 0 5 5").none("run #", Check.INDEX);
        worn(10, 5, 5).go("addVersion 0 0; setLimit 11; lend 0 1 0 1")
                .refusedFor("run #", Check.INDEX, "1", "24", "-1", "MIN", "MAX");
        CHECK.sentence("Throws `UnsupportedOperationException` if a splice would come to be more than the limit, or the film is"
                + " lent");
        worn(9, 5, 5).due("run 0", 10).refused("run 0", Check.UNSUPPORTED).go("mend 0 0").due("run 0", 1);
        // One splice of several is enough, the first as the last.
        worn(10, 5, 5, 5).refused("run 0", Check.UNSUPPORTED).go("mend 0 0").refused("run 0", Check.UNSUPPORTED)
                .go("mend 0 1").due("run 0", 1);
        worn(10, 5, 5, 5).go("mend 0 1").refused("run 0", Check.UNSUPPORTED);
        worn(10, 5, 5).go("setLimit 11").due("run 0", 11).refused("run 0", Check.UNSUPPORTED);
        worn(1, 5, 5).go("setLimit 2").due("run 0", 2).refused("run 0", Check.UNSUPPORTED);
        worn(3, 5, 5).go("setLimit 3").refused("run 0", Check.UNSUPPORTED);
        // Another reel of the film can still be run.
        worn(10, 5, 5).go("found 0 2 5 5; addReel 0").refused("run 0", Check.UNSUPPORTED).due("run 1", 0)
                .due("run 2", 0);
        reelOf(5, 5).go("addReel 0; addFilm; addReel 1").go(LENT).refused("run 0", Check.UNSUPPORTED)
                .refused("run 1", Check.UNSUPPORTED).due("run 2", 0).due("show 0", 0)
                .refused("run 0", Check.UNSUPPORTED)
                .go("giveBack 0").due("run 0", 2).due("run 1", 0);
    }

    private static void wear() {
        CHECK.promise(16);
        CHECK.sentence("Returns the wear of a splice.");
        worn(2, 5, 5, 5).dues("wear 0 #", 2, 2).go("mend 0 0; run 0").dues("wear 0 #", 1, 3);
        CHECK.sentence("`reel`: the number of the reel");
        Run x = CHECK.run("addFilm").go(24, "found 0 0 5 5").go(23, "addShot 0 5 5");
        for (int reel = 1; reel < 24; reel++) {
            x.go("put " + reel + " " + (23 + reel));
        }
        x.takenFor("wear # 0", "1", "23").refusedFor("wear # 0", Check.INDEX, "0", "24", "-1", "MIN", "MAX");
        reelOf(5, 5).limits("wear # 0", 0, 0, Check.INDEX);
        CHECK.sentence("`index`: the index of the splice, from 0");
        reelOf(5, 5).limits("wear 0 #", 0, 0, Check.INDEX);
        reelOf(5, 5, 5, 5).limits("wear 0 #", 0, 2, Check.INDEX);
        Run y = CHECK.run("addFilm; addReel 0").go(60, "addShot 0 5 5");
        for (int shot = 0; shot < 60; shot++) {
            y.go("put 0 " + shot);
        }
        y.limits("wear 0 #", 0, 58, Check.INDEX).go("run 0").due("wear 0 0", 1).due("wear 0 58", 1);
        CHECK.sentence("Returns the wear.");
        reelOf(5, 5).due("wear 0 0", 0).go("run 0").due("wear 0 0", 1).go(9, "run 0").due("wear 0 0", 10)
                .refused("run 0", Check.UNSUPPORTED).due("wear 0 0", 10).go("mend 0 0").due("wear 0 0", 0);
        reelOf(5, 5).go("setLimit 50").go(50, "run 0").due("wear 0 0", 50);
        CHECK.sentence("Throws `IndexOutOfBoundsException` if there is no such reel, or splice");
        CHECK.run("addFilm; addShot 0 5 5").none("wear # 0", Check.INDEX);
        reelOf().none("wear 0 #", Check.INDEX);
        reelOf(5).none("wear 0 #", Check.INDEX);
        reelOf(5, 5).refused("wear 0 1", Check.INDEX).refused("wear 0 -1", Check.INDEX).refused("wear 1 0", Check.INDEX)
                .refused("wear -1 0", Check.INDEX).go("found 0 2 5 5; join 0 1").due("wear 0 1", 0)
                .refused("wear 0 2", Check.INDEX)
                .none("wear 1 #", Check.INDEX);
    }

    private static void mend() {
        CHECK.promise(17);
        CHECK.sentence("Mends a splice.");
        worn(3, 2, 3, 4).go("mend 0 1").dues("wear 0 #", 3, 0).dues("lengthOf #", 2, 2, 4).dues("frameOf #", 0, 2, 4)
                .go("mend 0 0").dues("wear 0 #", 0, 0).dues("lengthOf #", 1, 2, 4).due("meanWear", 0.0)
                .due("shown", 27);
        // The frame that goes is the last one of the shot ahead, in each version.
        reelOf(3, 3).go("addVersion 0 0; addVersion 0 1; addVersion 0 2; leaveOut 0 2 3 true; leaveOut 1 1 2 true; leaveOut 2 3 4 true")
                .go("mend 0 0").dues("frames #", 5, 4, 4).due("leaveOut 0 0 5 false", 0).due("leaveOut 1 1 2 false", 1)
                .due("leaveOut 2 2 3 false", 1).dues("frames #", 5, 5, 5);
        CHECK.sentence("`reel`: the number of the reel");
        reelOf(5, 5).limits("mend # 0", 0, 0, Check.INDEX).go("found 0 2 5 5; found 0 3 5 5; join 1 2")
                .limits("mend # 0", 0, 1, Check.INDEX);
        Run x = CHECK.run("addFilm; addShot 0 5 5").go(23, "addReel 0").go("found 0 0 5 5; put 23 0")
                .takenFor("mend # 0", "23").refusedFor("mend # 0", Check.INDEX, "22", "24", "-1", "MIN", "MAX");
        x.go("mend 23 0").dues("lengthOf #", 5, 4);
        CHECK.sentence("`index`: the index of the splice, from 0");
        reelOf(5, 5).limits("mend 0 #", 0, 0, Check.INDEX);
        reelOf(5, 5, 5, 5).limits("mend 0 #", 0, 2, Check.INDEX).go("mend 0 2").dues("lengthOf #", 5, 5, 4, 5);
        Run y = CHECK.run("addFilm; addReel 0").go(60, "addShot 0 5 5");
        for (int shot = 0; shot < 60; shot++) {
            y.go("put 0 " + shot);
        }
        y.limits("mend 0 #", 0, 58, Check.INDEX).go("mend 0 58").due("lengthOf 58", 4).due("lengthOf 59", 5);
        CHECK.sentence("Returns the wear that it had.");
        reelOf(5, 5).due("mend 0 0", 0).go("run 0").due("mend 0 0", 1).due("mend 0 0", 0).go(10, "run 0")
                .due("mend 0 0", 10);
        reelOf(5, 5).go("setLimit 50").go(50, "run 0").due("mend 0 0", 50).due("wear 0 0", 0);
    }

    private static void mendThrows() {
        CHECK.sentence("Throws `IndexOutOfBoundsException` if there is no such reel, or splice");
        CHECK.run("addFilm; addShot 0 5 5").none("mend # 0", Check.INDEX);
        reelOf().none("mend 0 #", Check.INDEX).go(LENT).none("mend 0 #", Check.INDEX);
        reelOf(1).none("mend 0 #", Check.INDEX);
        worn(3, 1, 1).go(LENT).refusedFor("mend 0 #", Check.INDEX, "1", "-1")
                .refusedFor("mend # 0", Check.INDEX, "1", "-1");
        reelOf(5, 5).go("found 0 2 5 5; join 0 1").none("mend 1 #", Check.INDEX).refused("mend 0 2", Check.INDEX);
        CHECK.sentence("Throws `UnsupportedOperationException` if the shot ahead of it has one frame, or the film is lent");
        worn(3, 1, 5).refused("mend 0 0", Check.UNSUPPORTED);
        worn(3, 2, 1).due("mend 0 0", 3).due("lengthOf 0", 1).refused("mend 0 0", Check.UNSUPPORTED);
        worn(3, 1, 2, 1).refused("mend 0 0", Check.UNSUPPORTED).due("mend 0 1", 3).dues("lengthOf #", 1, 1, 1)
                .refused("mend 0 0", Check.UNSUPPORTED).refused("mend 0 1", Check.UNSUPPORTED);
        worn(3, 5, 5).go("addFilm; found 1 0 5 5; found 1 1 5 5; join 1 2").go(LENT)
                .refused("mend 0 0", Check.UNSUPPORTED)
                .due("mend 1 0", 0).due("show 0", 0).refused("mend 0 0", Check.UNSUPPORTED).go("giveBack 0")
                .due("mend 0 0", 4);
        worn(3, 1, 5).go(LENT).refused("mend 0 0", Check.UNSUPPORTED);
    }

    private static void scan() {
        CHECK.promise(18);
        CHECK.sentence("Scans a reel.");
        worn(5, 2, 3, 4).go("addShot 0 5 5; found 0 4 5 5; scan 0 1").dues("scanned #", 1, 1, 1, 0, 0)
                .dues("missed #", 1, 2, 1, 0, 0)
                .due("shown", 45).dues("wear 0 #", 5, 5).dues("lengthOf #", 2, 3, 4);
        CHECK.sentence("`reel`: the number of the reel");
        reelOf(5).limits("scan # 1", 0, 0, Check.INDEX);
        CHECK.run("addFilm").go(24, "found 0 0 5 5").limits("scan # 1", 0, 23, Check.INDEX).go("scan 23 2")
                .due("scanned 23", 2)
                .due("scanned 22", 0);
        CHECK.sentence("`size`: the size, 1 to 4");
        reelOf(5, 5).limits("scan 0 #", 1, 4, Check.ARGUMENT);
        for (int size = 1; size <= 4; size++) {
            reelOf(5, 5).go("scan 0 " + size).dues("scanned #", size, size);
        }
    }

    private static void scanReturns() {
        CHECK.sentence("Returns how many frames were missed in this scan.");
        reelOf(5).due("scan 0 1", 0);
        reelOf(5, 5).due("scan 0 1", 0);
        worn(4, 5, 5).due("scan 0 1", 0).go("run 0").due("scan 0 1", 2).go(5, "run 0").due("scan 0 1", 2)
                .dues("missed #", 1, 1);
        worn(5, 5, 5, 5).due("scan 0 1", 4).dues("missed #", 1, 2, 1);
        // Half of an odd limit is not rounded, neither down nor up.
        worn(5, 5, 5).go("setLimit 11").due("scan 0 1", 0).go("run 0").due("scan 0 1", 2).go("setLimit 12")
                .due("scan 0 1", 2)
                .go("setLimit 13").due("scan 0 1", 0);
        worn(1, 5, 5).go("setLimit 3").due("scan 0 1", 0).go("setLimit 2").due("scan 0 1", 2);
        worn(1, 5, 5).go("run 0; setLimit 3").due("scan 0 1", 2);
        reelOf(5, 5).go("setLimit 2").due("scan 0 1", 0);
        reelOf(5, 5).go("setLimit 50").go(24, "run 0").due("scan 0 1", 0).go("run 0").due("scan 0 1", 2)
                .go("setLimit 49").due("scan 0 1", 2).go("setLimit 50; mend 0 0").due("scan 0 1", 0);
        // A shot of one frame between two worn splices is missed once, one of two frames twice.
        worn(5, 1, 1).due("scan 0 1", 2).dues("missed #", 1, 1);
        worn(5, 3, 1, 3).due("scan 0 1", 3).dues("missed #", 1, 1, 1);
        worn(5, 3, 2, 3).due("scan 0 1", 4).dues("missed #", 1, 2, 1);
        worn(5, 1, 1, 2, 1).due("scan 0 1", 5).dues("missed #", 1, 1, 2, 1);
        worn(5, 3, 2, 3).go("mend 0 1; run 0").due("scan 0 1", 2).dues("missed #", 1, 1, 0);
        worn(5, 3, 2, 3).go("mend 0 0; run 0").due("scan 0 1", 2).dues("missed #", 0, 1, 1);
        // What this scan missed is told also if the shots keep that of a greater size.
        worn(5, 5, 5, 5).go("scan 0 3; mend 0 0").due("scan 0 2", 2).due("scan 0 3", 2).due("scan 0 4", 2);
    }

    private static void scanThrows() {
        CHECK.sentence("Throws `IndexOutOfBoundsException` if there is no such reel");
        CHECK.run("addFilm; addShot 0 5 5").none("scan # 1", Check.INDEX).none("scan # 0", Check.INDEX);
        reelOf(5).refusedFor("scan # 5", Check.INDEX, "1", "-1").go(LENT)
                .refusedFor("scan # 1", Check.INDEX, "1", "-1");
        CHECK.sentence("Throws `IllegalArgumentException` if there is no such size");
        worn(5, 5, 5).refusedFor("scan 0 #", Check.ARGUMENT, "0", "5", "-1", "MIN", "MAX");
        reelOf().refusedFor("scan 0 #", Check.ARGUMENT, "0", "5").go(LENT)
                .refusedFor("scan 0 #", Check.ARGUMENT, "0", "5");
        reelOf(5).go(LENT).refusedFor("scan 0 #", Check.ARGUMENT, "0", "5");
        CHECK.sentence("Throws `UnsupportedOperationException` if it is empty, or the film is lent");
        reelOf().refusedFor("scan 0 #", Check.UNSUPPORTED, "1", "4").go("addShot 0 5 5; put 0 0").due("scan 0 1", 0);
        reelOf(5).go("found 0 0 5 5; join 1 0").refused("scan 0 1", Check.UNSUPPORTED).due("scan 1 1", 0);
        worn(5, 5, 5).go("addFilm; found 1 0 5 5").go(LENT).refusedFor("scan 0 #", Check.UNSUPPORTED, "1", "4")
                .due("scan 1 1", 0)
                .due("show 0", 0).refused("scan 0 1", Check.UNSUPPORTED).go("giveBack 0").due("scan 0 1", 2);
        reelOf().go(LENT).refused("scan 0 1", Check.UNSUPPORTED);
    }

    private static void scanned() {
        CHECK.promise(19);
        CHECK.sentence("Returns the size at which a shot was scanned.");
        reelOf(5, 5).go("scan 0 2").dues("scanned #", 2, 2).go("scan 0 1").dues("scanned #", 2, 2).go("scan 0 4")
                .dues("scanned #", 4, 4)
                .go("scan 0 3").dues("scanned #", 4, 4).go("scan 0 4; mend 0 0; run 0").dues("scanned #", 4, 4);
        // Each shot has its own, also when reels are joined.
        reelOf(5).go("found 0 1 5 5; scan 0 3; scan 1 1; join 0 1").dues("scanned #", 3, 1).go("scan 0 2")
                .dues("scanned #", 3, 2);
        CHECK.sentence("`shot`: the number of the shot");
        reelOf(5, 5, 5).limits("scanned #", 0, 2, Check.INDEX);
        CHECK.run("addFilm").go(60, "addShot 0 5 5").limits("scanned #", 0, 59, Check.INDEX);
        CHECK.sentence("Returns the size, 0 if it was not.");
        reelOf(5).go("addShot 0 5 5").dues("scanned #", 0, 0).go("scan 0 1").dues("scanned #", 1, 0).go("put 0 1")
                .dues("scanned #", 1, 0)
                .refused("scan 0 5", Check.ARGUMENT).dues("scanned #", 1, 0);
        CHECK.sentence("Throws `IndexOutOfBoundsException` if there is no such shot");
        CHECK.run("addFilm; addReel 0").none("scanned #", Check.INDEX);
        reelOf(5, 5).refusedFor("scanned #", Check.INDEX, "2", "60", "-1", "MIN", "MAX");
    }

    private static void missed() {
        CHECK.promise(20);
        CHECK.sentence("Returns how many frames of a shot were missed.");
        Run x = worn(5, 9, 9, 9).go("scan 0 3; mend 0 0; scan 0 2").dues("missed #", 1, 2, 1).go("scan 0 3")
                .dues("missed #", 0, 1, 1)
                .go("mend 0 1; scan 0 4").dues("missed #", 0, 0, 0);
        // At a lesser size nothing is missed anew, at the same one it is.
        x.go(5, "run 0").go("scan 0 3").dues("missed #", 0, 0, 0).go("scan 0 4").dues("missed #", 1, 2, 1);
        CHECK.sentence("`shot`: the number of the shot");
        reelOf(5, 5, 5).limits("missed #", 0, 2, Check.INDEX);
        CHECK.run("addFilm").go(60, "addShot 0 5 5").limits("missed #", 0, 59, Check.INDEX);
        CHECK.sentence("Returns the number of frames.");
        reelOf(5).go("addShot 0 5 5").dues("missed #", 0, 0).go("scan 0 1").dues("missed #", 0, 0);
        worn(5, 9, 3, 9).dues("missed #", 0, 0, 0).go("scan 0 1").dues("missed #", 1, 2, 1).go("mend 0 1")
                .dues("missed #", 1, 2, 1)
                .due("lengthOf 1", 2).go("mend 0 1").dues("missed #", 1, 1, 1).due("lengthOf 1", 1).due("scanned 1", 1);
        worn(5, 2, 1).go("scan 0 1; mend 0 0").dues("missed #", 1, 1).dues("lengthOf #", 1, 1);
        CHECK.sentence("Throws `IndexOutOfBoundsException` if there is no such shot");
        CHECK.run("addFilm; addReel 0").none("missed #", Check.INDEX);
        reelOf(5, 5).refusedFor("missed #", Check.INDEX, "2", "60", "-1", "MIN", "MAX");
    }
}
