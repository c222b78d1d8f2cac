/** Promises 28 to 31: loans, showings, and the days. */
public final class LoansTest {
    private static final Check CHECK = new Check("loans");

    public static void main(String[] args) {
        lend();
        lendThrows();
        lendByWear();
        twentyLoans();
        show();
        showThrows();
        giveBack();
        advance();
        whatIsFreeWhileLent();
        CHECK.end();
    }

    /** Film 0: reels 0 and 1 of two shots each, of 2, 3, 4 and 5 frames; versions 0 and 1; film 1 is empty, with version 2. */
    private static Spliceroom twoReels() {
        Spliceroom x = new Spliceroom();
        x.addFilm();
        x.addFilm();
        for (int i = 0; i < 4; i++) {
            x.addShot(0, 2 + i, 0);
        }
        for (int reel = 0; reel < 2; reel++) {
            x.addReel(0);
            x.put(reel, 2 * reel);
            x.put(reel, 2 * reel + 1);
        }
        x.addVersion(0, 0);
        x.addVersion(0, 1);
        x.addVersion(1, 0);
        return x;
    }

    private static void lend() {
        Spliceroom x = twoReels();
        CHECK.due(x, 0, "lend", 0, 5, 1, 99);
        // A film without a splice can always be lent.
        CHECK.due(x, 1, "lend", 2, 9, 3, 1);
        CHECK.refused(x, "unsupported", "lend", 0, 1, 0, 1);
        CHECK.refused(x, "unsupported", "lend", 1, 1, 0, 1);
        x.giveBack(0);
        CHECK.due(x, 2, "lend", 1, 1, 0, 1);
        CHECK.refused(x, "unsupported", "lend", 0, 1, 0, 1);
    }

    private static void lendThrows() {
        Spliceroom x = twoReels();
        int[][] wrong = {{0, 0, 1}, {10, 0, 1}, {-1, 0, 1}, {1, -1, 1}, {1, 4, 1}, {1, 0, 0}, {1, 0, 100},
            {Integer.MAX_VALUE, Integer.MAX_VALUE, 1}, {Integer.MIN_VALUE, 0, 1}, {1, 0, Integer.MAX_VALUE}};
        for (int[] numbers : wrong) {
            CHECK.refused(x, "argument", "lend", 0, numbers[0], numbers[1], numbers[2]);
            CHECK.refused(x, "index", "lend", 3, numbers[0], numbers[1], numbers[2]);
            CHECK.refused(x, "index", "lend", -1, numbers[0], numbers[1], numbers[2]);
        }
        CHECK.refused(x, "unsupported", "lend", 0, 9, 1, 1);
        CHECK.refused(x, "index", "show", 0);
        CHECK.due(x, 0, "lend", 0, 9, 0, 1);
        CHECK.refused(x, "argument", "lend", 0, 0, 0, 1);
        CHECK.refused(x, "argument", "lend", 1, 1, 4, 1);
    }

    private static void lendByWear() {
        Spliceroom x = twoReels();
        x.run(1);
        CHECK.refused(x, "unsupported", "lend", 0, 5, 1, 1);
        CHECK.due(x, 0, "lend", 0, 3, 2, 1);
        x.giveBack(0);
        CHECK.due(x, 1, "lend", 0, 9, 0, 1);
        x.giveBack(1);
        x.setLimit(36);
        CHECK.refused(x, "unsupported", "lend", 0, 9, 3, 1);
        x.setLimit(37);
        CHECK.due(x, 2, "lend", 0, 9, 3, 1);
        for (int left = 8; left >= 0; left--) {
            CHECK.due(x, left, "show", 2);
        }
        CHECK.due(x, 37, "wear", 1, 0);
        CHECK.due(x, 36, "wear", 0, 0);
        CHECK.due(x, true, "isSound");
    }

    private static void twentyLoans() {
        Spliceroom x = twoReels();
        for (int i = 0; i < 20; i++) {
            CHECK.due(x, i, "lend", 0, 1, 0, 1);
            CHECK.due(x, 0, "giveBack", i);
        }
        CHECK.refused(x, "state", "lend", 0, 1, 0, 1);
        CHECK.refused(x, "unsupported", "lend", 0, 9, 3, 1);
        CHECK.refused(x, "argument", "lend", 0, 0, 0, 1);
        // The refused loan did not lend the film.
        CHECK.due(x, 1, "run", 0);
        CHECK.refused(x, "index", "show", 20);
    }

    private static void show() {
        Spliceroom x = twoReels();
        x.mend(0, 0);
        x.found(1, 0, 9, 0);
        x.found(0, 0, 8, 0);
        x.leaveOut(0, 0, 5, true);
        x.run(1);
        x.lend(0, 3, 2, 1);
        CHECK.due(x, 9, "shown");
        CHECK.due(x, 2, "show", 0);
        CHECK.due(x, 30, "shown");
        CHECK.due(x, 3, "wear", 0, 0);
        CHECK.due(x, 4, "wear", 1, 0);
        CHECK.due(x, 1, "show", 0);
        CHECK.due(x, 0, "show", 0);
        CHECK.due(x, 72, "shown");
        CHECK.due(x, 9, "wear", 0, 0);
        CHECK.due(x, 10, "wear", 1, 0);
        CHECK.due(x, 1, "lend", 2, 1, 3, 1);
        CHECK.due(x, 0, "show", 1);
        CHECK.due(x, 81, "shown");
    }

    private static void showThrows() {
        Spliceroom x = twoReels();
        x.lend(0, 2, 0, 1);
        CHECK.refused(x, "index", "show", 1);
        CHECK.refused(x, "index", "show", -1);
        x.show(0);
        x.show(0);
        CHECK.refused(x, "unsupported", "show", 0);
        // Without runs left it is still lent.
        CHECK.refused(x, "unsupported", "run", 0);
        x.giveBack(0);
        x.lend(0, 2, 0, 1);
        CHECK.refused(x, "unsupported", "show", 0);
        x.giveBack(1);
        CHECK.refused(x, "unsupported", "show", 1);
    }

    private static void giveBack() {
        Spliceroom x = twoReels();
        CHECK.refused(x, "index", "giveBack", 0);
        x.lend(0, 1, 0, 3);
        x.lend(2, 1, 0, 2);
        CHECK.refused(x, "index", "giveBack", 2);
        CHECK.refused(x, "index", "giveBack", -1);
        x.advance(3);
        CHECK.due(x, 0, "giveBack", 0);
        CHECK.refused(x, "unsupported", "giveBack", 0);
        CHECK.due(x, 1, "giveBack", 1);
        x.lend(0, 1, 0, 3);
        x.lend(2, 1, 0, 3);
        x.advance(1);
        CHECK.due(x, 0, "giveBack", 2);
        x.advance(99);
        CHECK.due(x, 97, "giveBack", 3);
        CHECK.refused(x, "unsupported", "giveBack", 3);
        CHECK.due(x, 1, "run", 0);
    }

    private static void advance() {
        Spliceroom x = twoReels();
        for (int wrong : new int[] {0, -1, 100, Integer.MAX_VALUE, Integer.MIN_VALUE}) {
            CHECK.refused(x, "argument", "advance", wrong);
        }
        CHECK.due(x, 0, "advance", 5);
        x.lend(0, 1, 0, 2);
        x.lend(2, 1, 0, 3);
        CHECK.refused(x, "argument", "advance", 100);
        CHECK.due(x, 0, "advance", 2);
        CHECK.due(x, 1, "advance", 1);
        CHECK.due(x, 2, "advance", 1);
        CHECK.due(x, 2, "giveBack", 0);
        CHECK.due(x, 1, "advance", 99);
        CHECK.due(x, 100, "giveBack", 1);
        CHECK.due(x, 0, "advance", 1);
    }

    private static void whatIsFreeWhileLent() {
        Spliceroom x = twoReels();
        x.lend(0, 1, 0, 1);
        CHECK.due(x, 4, "addShot", 0, 5, 5);
        CHECK.due(x, 2, "addReel", 0);
        CHECK.due(x, 2, "addFilm");
        CHECK.due(x, 3, "addVersion", 0, 5);
        // Another film is as free as before.
        CHECK.due(x, 3, "found", 1, 0, 5, 5);
        CHECK.due(x, 4, "found", 1, 1, 5, 5);
        CHECK.due(x, 2, "join", 3, 4);
        CHECK.due(x, 1, "run", 3);
        CHECK.due(x, 0, "scan", 3, 1);
        CHECK.due(x, 1, "mend", 3, 0);
    }
}
