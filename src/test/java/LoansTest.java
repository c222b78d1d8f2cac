/** Promises 28 to 31: loans, showings, and the days. */
public final class LoansTest {
    private static final Check CHECK = new Check("loans");

    /** Film 0: reels 0 and 1 of two shots each, of 2, 3, 4 and 5 frames; versions 0 and 1; film 1 is empty,
            with version 2. */
    private static final String TWO_REELS = "addFilm; addFilm; addShot 0 2 0; addShot 0 3 0; addShot 0 4 0; addShot 0 5 0;"
            + "addReel 0; put 0 0; put 0 1; addReel 0; put 1 2; put 1 3; addVersion 0 0; addVersion 0 1; addVersion 1 0";

    public static void main(String[] args) {
        lend();
        lendNumbers();
        lendThrows();
        lendUnsupported();
        lendWithoutRoom();
        show();
        showThrows();
        giveBack();
        giveBackThrows();
        advance();
        CHECK.coversPromises(28, 31);
        CHECK.end();
    }

    /** Twenty loans of film 0, all given back. */
    private static Run twentyLoans() {
        Run x = CHECK.run(TWO_REELS);
        for (int loan = 0; loan < 20; loan++) {
            x.go("lend 0 1 0 1; giveBack " + loan);
        }
        return x;
    }

    private static void lend() {
        CHECK.promise(28);
        CHECK.sentence("Lends a version.");
        CHECK.run(TWO_REELS).go("lend 0 2 1 5").refused("run 0", Check.UNSUPPORTED).due("shown", 0).due("wear 0 0", 0)
                .due("show 0", 1)
                .due("show 0", 0).due("wear 0 0", 4).go("advance 7").due("giveBack 0", 2).due("run 0", 5);
        // Another film can be lent at the same time, and another version of this one behind it.
        CHECK.run(TWO_REELS).due("lend 0 5 1 99", 0).due("lend 2 9 3 1", 1).go("giveBack 0").due("lend 1 1 0 1", 2)
                .due("show 2", 0).due("show 1", 8).refused("show 0", Check.UNSUPPORTED);
        CHECK.sentence("`version`: the number of the version");
        CHECK.run(TWO_REELS).limits("lend # 1 0 1", 0, 2, Check.INDEX);
        Run x = CHECK.run("addFilm; addFilm; addVersion 1 0; addVersion 1 1");
        for (int country = 0; country < 8; country++) {
            x.go("addVersion 0 " + country);
        }
        x.limits("lend # 1 0 1", 0, 9, Check.INDEX).go("lend 9 1 0 1").refused("lend 2 1 0 1", Check.UNSUPPORTED)
                .due("lend 0 1 0 1", 1);
    }

    private static void lendNumbers() {
        CHECK.sentence("`runs`: the number of runs, 1 to 9");
        CHECK.run(TWO_REELS).limits("lend 0 # 0 1", 1, 9, Check.ARGUMENT).limits("lend 2 # 3 1", 1, 9, Check.ARGUMENT);
        CHECK.run(TWO_REELS).go("lend 0 1 0 1").due("show 0", 0).refused("show 0", Check.UNSUPPORTED);
        Run x = CHECK.run(TWO_REELS).go("lend 0 9 0 1");
        for (int left = 8; left >= 0; left--) {
            x.due("show 0", left);
        }
        x.refused("show 0", Check.UNSUPPORTED).due("wear 0 0", 9);
        CHECK.sentence("`heat`: the heat, 0 to 3");
        CHECK.run(TWO_REELS).limits("lend 0 1 # 1", 0, 3, Check.ARGUMENT);
        for (int heat = 0; heat <= 3; heat++) {
            CHECK.run(TWO_REELS).go("lend 0 1 " + heat + " 1; show 0").due("wear 0 0", 1 + heat)
                    .due("wear 1 0", 1 + heat);
        }
        CHECK.sentence("`days`: in how many days it is due, 1 to 99");
        CHECK.run(TWO_REELS).limits("lend 0 1 0 #", 1, 99, Check.ARGUMENT);
        CHECK.run(TWO_REELS).go("lend 0 1 0 1").due("advance 1", 0).due("advance 1", 1).due("giveBack 0", 1);
        CHECK.run(TWO_REELS).go("lend 0 1 0 99").due("advance 99", 0).due("advance 1", 1).due("giveBack 0", 1);
        CHECK.sentence("Returns the number of the loan.");
        Run y = CHECK.run(TWO_REELS);
        for (int loan = 0; loan < 20; loan++) {
            y.due("lend " + loan % 3 + " 1 0 1", loan).due("giveBack " + loan, 0);
        }
    }

    private static void lendThrows() {
        CHECK.sentence("Throws `IndexOutOfBoundsException` if there is no such version");
        CHECK.run("addFilm").none("lend # 1 0 1", Check.INDEX).none("lend # 0 4 100", Check.INDEX);
        CHECK.run(TWO_REELS).go("lend 0 1 0 1").refusedFor("lend # 1 0 1", Check.INDEX, "3", "-1", "MIN", "MAX")
                .refusedFor("lend # 0 0 1", Check.INDEX, "3", "-1").refusedFor("lend # 1 4 1", Check.INDEX, "3", "-1")
                .refusedFor("lend # 1 0 0", Check.INDEX, "3", "-1").refusedFor("lend # 9 3 1", Check.INDEX, "3", "-1");
        twentyLoans().refusedFor("lend # 1 0 1", Check.INDEX, "3", "-1").refused("lend 3 10 0 1", Check.INDEX);
        CHECK.sentence("Throws `IllegalArgumentException` if a number is out of range");
        String[] wrong = {"0 0 1", "10 0 1", "-1 0 1", "1 -1 1", "1 4 1", "1 0 0", "1 0 100", "1 0 -1", "MAX MAX 1",
                "MIN 0 1", "1 0 MAX",
            "1 MIN 1", "1 MAX 1", "1 0 MIN", "0 4 100", "MIN MIN MIN", "MAX MAX MAX", "9 -10 1", "65536 65535 1"};
        for (String numbers : wrong) {
            CHECK.run(TWO_REELS).refused("lend 0 " + numbers, Check.ARGUMENT)
                    .refused("lend 2 " + numbers, Check.ARGUMENT);
        }
        // It is thrown ahead of all that is listed behind it: the film is lent, cannot be lent so, or there were 20
        // loans.
        CHECK.run(TWO_REELS).go("lend 0 1 0 1").refused("lend 0 0 0 1", Check.ARGUMENT)
                .refused("lend 1 1 4 1", Check.ARGUMENT)
                .refused("lend 1 1 0 100", Check.ARGUMENT);
        CHECK.run(TWO_REELS).go(10, "run 0").refused("lend 0 10 0 1", Check.ARGUMENT)
                .refused("lend 0 9 4 1", Check.ARGUMENT)
                .refused("lend 0 1 0 0", Check.ARGUMENT);
        twentyLoans().refused("lend 0 0 0 1", Check.ARGUMENT).refused("lend 0 1 -1 1", Check.ARGUMENT)
                .refused("lend 0 1 0 100", Check.ARGUMENT);
    }

    private static void lendUnsupported() {
        CHECK.sentence("Throws `UnsupportedOperationException` if the film is lent, or cannot be lent so");
        CHECK.run(TWO_REELS).go("lend 0 1 0 1").refused("lend 0 1 0 1", Check.UNSUPPORTED)
                .refused("lend 1 1 0 1", Check.UNSUPPORTED)
                .due("show 0", 0).refused("lend 0 1 0 1", Check.UNSUPPORTED).due("advance 99", 1)
                .refused("lend 1 1 0 1", Check.UNSUPPORTED)
                .go("giveBack 0").due("lend 1 1 0 1", 1).refused("lend 0 1 0 1", Check.UNSUPPORTED);
        // All runs together may bring a splice to the limit, not beyond it.
        CHECK.run(TWO_REELS).takenFor("lend 0 # 1 1", "1", "5").refusedFor("lend 0 # 1 1", Check.UNSUPPORTED, "6", "9")
                .takenFor("lend 0 # 2 1", "3").refusedFor("lend 0 # 2 1", Check.UNSUPPORTED, "4")
                .takenFor("lend 0 # 3 1", "2").refusedFor("lend 0 # 3 1", Check.UNSUPPORTED, "3", "9")
                .takenFor("lend 0 # 0 1", "9");
        CHECK.run(TWO_REELS).go("run 1").refused("lend 0 5 1 1", Check.UNSUPPORTED).takenFor("lend 0 # 0 1", "9")
                .go("run 1")
                .takenFor("lend 0 # 0 1", "8").refused("lend 0 9 0 1", Check.UNSUPPORTED).takenFor("lend 0 # 1 1", "4");
        // One splice of any of its reels is enough: the first reel or the last, the first splice or the last.
        CHECK.run(TWO_REELS).go(10, "run 0").refused("lend 0 1 0 1", Check.UNSUPPORTED).due("lend 2 9 3 1", 0);
        CHECK.run(TWO_REELS).go(10, "run 1").refused("lend 0 1 0 1", Check.UNSUPPORTED).go("mend 1 0")
                .due("lend 0 1 0 1", 0);
        CHECK.run(TWO_REELS).go("join 0 1").go(10, "run 0").go("mend 0 0; mend 0 1")
                .refused("lend 0 1 0 1", Check.UNSUPPORTED);
        CHECK.run(TWO_REELS).go("join 0 1").go(10, "run 0").go("mend 0 2; mend 0 1")
                .refused("lend 0 1 0 1", Check.UNSUPPORTED);
        CHECK.run(TWO_REELS).go("setLimit 2").takenFor("lend 0 # 0 1", "1", "2")
                .refused("lend 0 3 0 1", Check.UNSUPPORTED)
                .takenFor("lend 0 # 1 1", "1").refused("lend 0 1 2 1", Check.UNSUPPORTED)
                .refused("lend 0 1 3 1", Check.UNSUPPORTED);
        CHECK.run(TWO_REELS).go("setLimit 35").refused("lend 0 9 3 1", Check.UNSUPPORTED).go("setLimit 36")
                .due("lend 0 9 3 1", 0);
        // A film without a splice can always be lent.
        CHECK.run("addFilm; addVersion 0 0; found 0 0 1 1; found 0 1 1 1; addReel 0; addShot 0 1 1; setLimit 2")
                .due("lend 0 9 3 99", 0);
        // The wear of the film that is lent is asked ahead of the number of loans.
        twentyLoans().refused("lend 0 9 3 1", Check.UNSUPPORTED).go(10, "run 1")
                .refused("lend 1 1 0 1", Check.UNSUPPORTED);
        Run x = CHECK.run(TWO_REELS);
        for (int loan = 0; loan < 19; loan++) {
            x.go("lend 2 1 0 1; giveBack " + loan);
        }
        x.go("lend 0 1 0 1").refused("lend 0 1 0 1", Check.UNSUPPORTED).refused("lend 2 1 0 1", Check.STATE);
    }

    private static void lendWithoutRoom() {
        CHECK.sentence("Throws `IllegalStateException` if there were 20 loans");
        twentyLoans().refused("lend 0 1 0 1", Check.STATE).refused("lend 1 9 0 99", Check.STATE)
                .refused("lend 2 9 3 1", Check.STATE)
                .refused("show 20", Check.INDEX).due("run 0", 1);
        Run x = CHECK.run(TWO_REELS);
        for (int loan = 0; loan < 19; loan++) {
            x.go("lend 0 1 0 1; giveBack " + loan);
        }
        x.due("lend 0 1 0 1", 19).refused("lend 2 1 0 1", Check.STATE).due("show 19", 0).due("giveBack 19", 0)
                .refused("lend 2 1 0 1", Check.STATE);
    }

    private static void show() {
        CHECK.promise(29);
        CHECK.sentence("Shows a version that is lent.");
        Run x = CHECK.run(TWO_REELS)
                .go("mend 0 0; found 1 0 9 0; found 0 0 8 0; addReel 0; leaveOut 0 0 5 true; run 1; lend 0 3 2 1")
                .due("shown", 9).due("show 0", 2).due("shown", 30).due("wear 0 0", 3).due("wear 1 0", 4)
                .go("show 0; show 0");
        x.due("shown", 72).due("wear 0 0", 9).due("wear 1 0", 10).due("lend 2 1 3 1", 1).due("show 1", 0)
                .due("shown", 81).due("wear 0 0", 9)
                .due("isSound", true);
        // A film without frames, or without a reel, can be shown.
        CHECK.run(TWO_REELS).go("lend 2 1 3 1").due("show 0", 0).due("shown", 0).due("wear 0 0", 0);
        CHECK.run("addFilm; addReel 0; addShot 0 5 5; addVersion 0 0; lend 0 1 3 1").due("show 0", 0).due("shown", 0);
        // It is shown as well when it is late.
        CHECK.run(TWO_REELS).go("lend 0 1 0 1; advance 99").due("show 0", 0).due("wear 0 0", 1);
        CHECK.sentence("`loan`: the number of the loan");
        CHECK.run(TWO_REELS).go("lend 0 1 0 1").limits("show #", 0, 0, Check.INDEX).go("lend 2 1 0 1")
                .limits("show #", 0, 1, Check.INDEX);
        Run y = CHECK.run(TWO_REELS).go("lend 2 1 0 1");
        for (int loan = 1; loan < 19; loan++) {
            y.go("lend 0 1 0 1; giveBack " + loan);
        }
        y.go("lend 0 1 0 1").limits("show #", 0, 19, Check.INDEX).go("show 19").due("wear 0 0", 1);
        CHECK.sentence("Returns how many runs are left.");
        CHECK.run(TWO_REELS).go("lend 0 3 0 1; lend 2 2 0 1").due("show 0", 2).due("show 1", 1).due("show 0", 1)
                .due("show 1", 0).due("show 0", 0);
        CHECK.run(TWO_REELS).go("lend 0 1 0 1").due("show 0", 0);
        // The last of all runs may bring a splice to the limit.
        CHECK.run(TWO_REELS).go("run 1; run 1; lend 0 2 3 1").due("show 0", 1).due("show 0", 0).due("wear 1 0", 10)
                .due("wear 0 0", 8)
                .due("isSound", true);
        Run z = CHECK.run(TWO_REELS).go("setLimit 37; run 1; lend 0 9 3 1");
        for (int left = 8; left >= 0; left--) {
            z.due("show 0", left);
        }
        z.due("wear 1 0", 37).due("wear 0 0", 36).due("isSound", true);
    }

    private static void showThrows() {
        CHECK.sentence("Throws `IndexOutOfBoundsException` if there is no such loan");
        CHECK.run(TWO_REELS).none("show #", Check.INDEX).go("lend 0 1 0 1")
                .refusedFor("show #", Check.INDEX, "1", "20", "-1", "MIN", "MAX")
                .go("giveBack 0").refusedFor("show #", Check.INDEX, "1", "-1");
        CHECK.sentence("Throws `UnsupportedOperationException` if it was given back, or no run is left");
        CHECK.run(TWO_REELS).go("lend 0 2 0 1; show 0; show 0").refused("show 0", Check.UNSUPPORTED).go("giveBack 0")
                .refused("show 0", Check.UNSUPPORTED).go("lend 0 2 0 1").refused("show 0", Check.UNSUPPORTED)
                .due("show 1", 1)
                .go("giveBack 1").refused("show 1", Check.UNSUPPORTED).due("wear 0 0", 3);
        CHECK.run(TWO_REELS).go("lend 0 1 0 1; giveBack 0").refused("show 0", Check.UNSUPPORTED).due("shown", 0);
    }

    private static void giveBack() {
        CHECK.promise(30);
        CHECK.sentence("Gives a loan back.");
        CHECK.run(TWO_REELS).go("lend 0 3 0 1; lend 2 1 0 1; giveBack 0").due("run 0", 1)
                .refused("show 0", Check.UNSUPPORTED)
                .due("show 1", 0).due("lend 0 1 0 1", 2).refused("run 0", Check.UNSUPPORTED);
        CHECK.run(TWO_REELS).go("lend 0 3 0 1; giveBack 0").due("found 0 0 5 5", 2).due("mend 0 0", 0)
                .due("join 2 0", 3).due("scan 2 1", 0).due("setLimit 2", 10).due("addShot 0 5 5", 5).due("put 1 5", 3);
        CHECK.sentence("`loan`: the number of the loan");
        CHECK.run(TWO_REELS).go("lend 0 1 0 1").limits("giveBack #", 0, 0, Check.INDEX).go("lend 2 1 0 1")
                .limits("giveBack #", 0, 1, Check.INDEX);
        Run x = CHECK.run(TWO_REELS).go("lend 2 1 0 1");
        for (int loan = 1; loan < 19; loan++) {
            x.go("lend 0 1 0 1; giveBack " + loan);
        }
        x.go("lend 0 1 0 1").limits("giveBack #", 0, 19, Check.INDEX).go("giveBack 19").due("run 0", 1);
        CHECK.sentence("Returns how many days it was late.");
        CHECK.run(TWO_REELS).go("lend 0 1 0 1").due("giveBack 0", 0);
        CHECK.run(TWO_REELS).go("lend 0 1 0 3; lend 2 1 0 3; advance 2").due("giveBack 0", 0).go("advance 1")
                .due("giveBack 1", 0);
        CHECK.run(TWO_REELS).go("lend 0 1 0 3; advance 4").due("giveBack 0", 1);
        CHECK.run(TWO_REELS).go("advance 99; lend 0 1 0 99; advance 99").due("giveBack 0", 0)
                .go("lend 0 1 0 1; advance 99").due("giveBack 1", 98);
        CHECK.run(TWO_REELS).go("advance 7; lend 0 1 0 1").go(10, "advance 99").due("giveBack 0", 989);
    }

    private static void giveBackThrows() {
        CHECK.sentence("Throws `IndexOutOfBoundsException` if there is no such loan");
        CHECK.run(TWO_REELS).none("giveBack #", Check.INDEX).go("lend 0 1 0 1")
                .refusedFor("giveBack #", Check.INDEX, "1", "20", "-1", "MIN", "MAX")
                .go("giveBack 0").refusedFor("giveBack #", Check.INDEX, "1", "-1");
        CHECK.sentence("Throws `UnsupportedOperationException` if it was given back");
        CHECK.run(TWO_REELS).go("lend 0 1 0 1; giveBack 0").refused("giveBack 0", Check.UNSUPPORTED).go("advance 9")
                .refused("giveBack 0", Check.UNSUPPORTED).go("lend 0 1 0 1").refused("giveBack 0", Check.UNSUPPORTED)
                .refused("run 0", Check.UNSUPPORTED).due("giveBack 1", 0);
        // Without a run left it can still be given back, once.
        CHECK.run(TWO_REELS).go("lend 0 1 0 1; show 0").due("giveBack 0", 0).refused("giveBack 0", Check.UNSUPPORTED);
    }

    private static void advance() {
        CHECK.promise(31);
        CHECK.sentence("Lets days go by.");
        CHECK.run(TWO_REELS).go("advance 5; lend 0 1 0 2; advance 3; advance 4").due("giveBack 0", 5);
        CHECK.sentence("`days`: the number of days, 1 to 99");
        CHECK.run(TWO_REELS).limits("advance #", 1, 99, Check.ARGUMENT).go("lend 0 1 0 1; lend 2 1 0 1; advance 1")
                .due("giveBack 0", 0)
                .go("advance 99").due("giveBack 1", 99);
        CHECK.sentence("Returns how many loans that were not given back are late then, the day being behind the one on which they are due.");
        CHECK.run().due("advance 99", 0).due("advance 99", 0);
        CHECK.run(TWO_REELS).go("lend 0 1 0 2; lend 2 1 0 3").due("advance 2", 0).due("advance 1", 1)
                .due("advance 1", 2).due("giveBack 0", 2)
                .due("advance 99", 1).due("giveBack 1", 100).due("advance 1", 0);
        // One that has no run left is late as well.
        CHECK.run(TWO_REELS).go("lend 0 1 0 1; show 0").due("advance 1", 0).due("advance 1", 1).due("advance 1", 1);
        Run x = CHECK.run().go(6, "addFilm");
        for (int film = 0; film < 6; film++) {
            x.go("addVersion " + film + " 0; lend " + film + " 1 0 " + (1 + film));
        }
        for (int day = 1; day < 9; day++) {
            x.due("advance 1", Math.min(day - 1, 6));
        }
        CHECK.sentence("Throws `IllegalArgumentException` if it is out of range");
        CHECK.run().refusedFor("advance #", Check.ARGUMENT, "0", "100", "-1", "MIN", "MAX");
        CHECK.run(TWO_REELS).go("lend 0 1 0 1; advance 1")
                .refusedFor("advance #", Check.ARGUMENT, "0", "100", "-1", "MIN", "MAX")
                .due("giveBack 0", 0);
    }
}
