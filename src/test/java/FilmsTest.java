/** Promises 1 to 13: films, shots, reels, and where frames stand. */
public final class FilmsTest {
    private static final Check CHECK = new Check("films");

    public static void main(String[] args) {
        newObject();
        addFilm();
        addShot();
        addReel();
        put();
        putThrows();
        found();
        foundThrows();
        foundWithoutRoom();
        join();
        joinThrows();
        rows();
        frames();
        CHECK.end();
    }

    private static void newObject() {
        Spliceroom x = new Spliceroom();
        CHECK.refused(x, "index", "shots", 0);
        CHECK.refused(x, "index", "lengthOf", 0);
        CHECK.refused(x, "index", "wear", 0, 0);
        CHECK.refused(x, "index", "frames", 0);
        CHECK.refused(x, "index", "show", 0);
        CHECK.due(x, 0, "shown");
        CHECK.due(x, true, "isSound");
        CHECK.due(x, 10, "setLimit", 10);
        // A loan due on day 1 tells that the first day is 0.
        x.addFilm();
        x.addVersion(0, 0);
        x.lend(0, 1, 0, 1);
        CHECK.due(x, 0, "advance", 1);
        CHECK.due(x, 1, "advance", 1);
    }

    private static void addFilm() {
        Spliceroom x = new Spliceroom();
        for (int i = 0; i < 6; i++) {
            CHECK.refused(x, "index", "shots", i);
            CHECK.due(x, i, "addFilm");
            CHECK.due(x, 0, "shots", i);
        }
        CHECK.refused(x, "state", "addFilm");
    }

    private static void addShot() {
        Spliceroom x = new Spliceroom();
        CHECK.refused(x, "index", "addShot", 0, 0, -1);
        x.addFilm();
        x.addFilm();
        CHECK.due(x, 0, "addShot", 0, 1, 0);
        CHECK.due(x, 1, "addShot", 1, 999, 9);
        CHECK.due(x, 2, "addShot", 0, 5, 3);
        CHECK.due(x, 2, "shots", 0);
        CHECK.due(x, 2, "shotOf", 0, 1);
        CHECK.due(x, 1, "shotOf", 1, 0);
        CHECK.due(x, 999, "lengthOf", 1);
        CHECK.due(x, -1, "reelOf", 2);
        CHECK.due(x, -1, "gradeOf", 2);
        CHECK.due(x, 0, "scanned", 2);
        int[][] wrong = {{0, 0}, {1000, 0}, {-1, 0}, {Integer.MAX_VALUE, 0}, {5, -1}, {5, 10}, {Integer.MIN_VALUE, 99}};
        for (int[] pair : wrong) {
            CHECK.refused(x, "argument", "addShot", 0, pair[0], pair[1]);
        }
        CHECK.refused(x, "index", "addShot", 2, 5, 3);
        CHECK.refused(x, "index", "addShot", -1, 0, 10);
        for (int i = 3; i < 60; i++) {
            CHECK.due(x, i, "addShot", i % 2, 5, 5);
        }
        CHECK.refused(x, "state", "addShot", 0, 5, 5);
        CHECK.refused(x, "argument", "addShot", 0, 0, 5);
        CHECK.refused(x, "index", "addShot", 2, 0, 5);
    }

    private static void addReel() {
        Spliceroom x = new Spliceroom();
        CHECK.refused(x, "index", "addReel", 0);
        x.addFilm();
        for (int i = 0; i < 24; i++) {
            CHECK.due(x, i, "addReel", 0);
        }
        CHECK.refused(x, "state", "addReel", 0);
        CHECK.refused(x, "index", "addReel", 1);
        CHECK.refused(x, "index", "addReel", -1);
        CHECK.due(x, 0, "run", 23);
        CHECK.refused(x, "index", "run", 24);
    }

    /** Film 0: missing shots 0 to 3, of 5 frames; film 1: shot 4; reels 0 and 1 of film 0, 2 of film 1. */
    private static Spliceroom fourShots() {
        Spliceroom x = new Spliceroom();
        x.addFilm();
        x.addFilm();
        for (int i = 0; i < 4; i++) {
            x.addShot(0, 5, i);
        }
        x.addShot(1, 7, 0);
        x.addReel(0);
        x.addReel(0);
        x.addReel(1);
        return x;
    }

    private static void put() {
        Spliceroom x = fourShots();
        CHECK.due(x, 1, "put", 0, 1);
        CHECK.due(x, 2, "put", 0, 3);
        CHECK.due(x, 0, "wear", 0, 0);
        CHECK.due(x, 1, "put", 1, 0);
        CHECK.due(x, 2, "put", 1, 2);
        CHECK.due(x, 1, "put", 2, 4);
        CHECK.due(x, 0, "reelOf", 1);
        CHECK.due(x, 1, "reelOf", 2);
        CHECK.due(x, 2, "reelOf", 4);
        // A shot that goes behind a worn splice gets a new one.
        Spliceroom y = fourShots();
        y.put(0, 0);
        y.put(0, 1);
        y.run(0);
        CHECK.due(y, 3, "put", 0, 3);
        CHECK.due(y, 1, "wear", 0, 0);
        CHECK.due(y, 0, "wear", 0, 1);
    }

    private static void putThrows() {
        Spliceroom x = fourShots();
        x.put(0, 1);
        CHECK.refused(x, "index", "put", 3, 0);
        CHECK.refused(x, "index", "put", -1, 0);
        CHECK.refused(x, "index", "put", 0, 5);
        CHECK.refused(x, "index", "put", 0, -1);
        CHECK.refused(x, "argument", "put", 0, 4);
        CHECK.refused(x, "argument", "put", 2, 1);
        CHECK.refused(x, "unsupported", "put", 0, 1);
        CHECK.refused(x, "unsupported", "put", 1, 1);
        CHECK.refused(x, "unsupported", "put", 0, 0);
        x.addVersion(0, 0);
        x.lend(0, 1, 0, 1);
        CHECK.refused(x, "unsupported", "put", 0, 2);
        CHECK.refused(x, "argument", "put", 0, 4);
        CHECK.due(x, 1, "put", 2, 4);
        x.giveBack(0);
        CHECK.due(x, 2, "put", 0, 2);
        CHECK.refused(x, "unsupported", "put", 1, 2);
    }

    private static void found() {
        Spliceroom x = fourShots();
        x.put(0, 1);
        CHECK.due(x, 0, "frameOf", 1);
        CHECK.due(x, 3, "found", 0, 0, 3, 9);
        CHECK.due(x, 5, "shotOf", 0, 0);
        CHECK.due(x, 0, "shotOf", 0, 1);
        CHECK.due(x, 3, "frameOf", 1);
        CHECK.due(x, 4, "found", 0, 5, 1, 0);
        CHECK.due(x, 6, "shotOf", 0, 5);
        CHECK.due(x, 5, "found", 0, 3, 999, 0);
        CHECK.due(x, 7, "shotOf", 0, 3);
        CHECK.due(x, 5, "reelOf", 7);
        CHECK.due(x, 999, "lengthOf", 7);
        CHECK.due(x, 8, "frameOf", 7);
        CHECK.due(x, 1007, "frameOf", 6);
        CHECK.due(x, 7, "shots", 0);
        // Its place tells the order, not its number.
        CHECK.refused(x, "unsupported", "put", 4, 2);
        CHECK.due(x, 2, "put", 3, 0);
    }

    private static void foundThrows() {
        Spliceroom x = fourShots();
        CHECK.refused(x, "index", "found", 2, 0, 5, 5);
        CHECK.refused(x, "index", "found", -1, 0, 5, 5);
        CHECK.refused(x, "index", "found", 0, 5, 5, 5);
        CHECK.refused(x, "index", "found", 0, -1, 0, 5);
        CHECK.refused(x, "argument", "found", 0, 4, 0, 5);
        CHECK.refused(x, "argument", "found", 0, 4, 1000, 5);
        CHECK.refused(x, "argument", "found", 0, 4, 5, -1);
        CHECK.refused(x, "argument", "found", 0, 4, 5, 10);
        x.addVersion(0, 0);
        x.lend(0, 1, 0, 1);
        CHECK.refused(x, "unsupported", "found", 0, 4, 5, 5);
        CHECK.refused(x, "argument", "found", 0, 4, 0, 5);
        CHECK.refused(x, "index", "found", 0, 5, 0, 5);
        CHECK.due(x, 3, "found", 1, 1, 5, 5);
    }

    private static void foundWithoutRoom() {
        Spliceroom x = new Spliceroom();
        x.addFilm();
        for (int i = 0; i < 24; i++) {
            CHECK.due(x, i, "found", 0, 0, 5, 5);
        }
        CHECK.refused(x, "state", "found", 0, 0, 5, 5);
        CHECK.refused(x, "argument", "found", 0, 0, 0, 5);
        x.addVersion(0, 0);
        x.lend(0, 1, 0, 1);
        CHECK.refused(x, "unsupported", "found", 0, 0, 5, 5);
        Spliceroom y = new Spliceroom();
        y.addFilm();
        for (int i = 0; i < 59; i++) {
            y.addShot(0, 5, 5);
        }
        CHECK.due(y, 0, "found", 0, 59, 5, 5);
        CHECK.refused(y, "state", "found", 0, 0, 5, 5);
        CHECK.refused(y, "state", "addShot", 0, 5, 5);
    }

    private static void join() {
        Spliceroom x = fourShots();
        x.put(0, 0);
        x.put(0, 1);
        x.put(1, 2);
        x.put(1, 3);
        x.run(0);
        x.run(1);
        x.run(1);
        CHECK.due(x, 4, "join", 0, 1);
        CHECK.due(x, 1, "wear", 0, 0);
        CHECK.due(x, 0, "wear", 0, 1);
        CHECK.due(x, 2, "wear", 0, 2);
        CHECK.refused(x, "index", "wear", 0, 3);
        CHECK.refused(x, "index", "wear", 1, 0);
        CHECK.due(x, 0, "reelOf", 3);
        CHECK.due(x, 0, "run", 1);
        CHECK.due(x, 3, "run", 0);
        // The emptied reel takes shots again.
        x.found(0, 4, 5, 5);
        x.addShot(0, 5, 5);
        CHECK.due(x, 1, "put", 1, 6);
        CHECK.refused(x, "unsupported", "join", 1, 0);
        CHECK.due(x, 5, "join", 0, 1);
        CHECK.due(x, 0, "wear", 0, 3);
    }

    private static void joinThrows() {
        Spliceroom x = fourShots();
        x.put(0, 0);
        x.put(0, 2);
        x.put(1, 1);
        x.put(1, 3);
        x.put(2, 4);
        x.addReel(0);
        CHECK.refused(x, "index", "join", 0, 4);
        CHECK.refused(x, "index", "join", 4, 0);
        CHECK.refused(x, "index", "join", -1, 4);
        CHECK.refused(x, "argument", "join", 0, 0);
        CHECK.refused(x, "argument", "join", 3, 3);
        CHECK.refused(x, "argument", "join", 0, 2);
        CHECK.refused(x, "argument", "join", 2, 3);
        CHECK.refused(x, "unsupported", "join", 0, 3);
        CHECK.refused(x, "unsupported", "join", 3, 0);
        CHECK.refused(x, "unsupported", "join", 0, 1);
        CHECK.refused(x, "unsupported", "join", 1, 0);
        x.found(0, 4, 5, 5);
        CHECK.refused(x, "unsupported", "join", 4, 0);
        x.addVersion(0, 0);
        x.lend(0, 1, 0, 1);
        CHECK.refused(x, "unsupported", "join", 0, 4);
        CHECK.refused(x, "argument", "join", 0, 0);
        x.giveBack(0);
        CHECK.due(x, 3, "join", 0, 4);
    }

    private static void rows() {
        Spliceroom x = fourShots();
        CHECK.due(x, 4, "shots", 0);
        CHECK.due(x, 1, "shots", 1);
        CHECK.due(x, 3, "shotOf", 0, 3);
        CHECK.refused(x, "index", "shots", 2);
        CHECK.refused(x, "index", "shots", -1);
        CHECK.refused(x, "index", "shotOf", 0, 4);
        CHECK.refused(x, "index", "shotOf", 0, -1);
        CHECK.refused(x, "index", "shotOf", 2, 0);
        for (String name : new String[] {"lengthOf", "frameOf", "reelOf", "scanned", "missed", "gradeOf", "gradeFrom", "passOn"}) {
            CHECK.refused(x, "index", name, 5);
            CHECK.refused(x, "index", name, -1);
            CHECK.refused(x, "index", name, Integer.MAX_VALUE);
            CHECK.refused(x, "index", name, Integer.MIN_VALUE);
        }
    }

    private static void frames() {
        Spliceroom x = fourShots();
        CHECK.refused(x, "element", "frameOf", 0);
        CHECK.refused(x, "element", "shotAt", 0, 0);
        x.put(0, 1);
        x.put(1, 0);
        x.put(1, 3);
        x.put(2, 4);
        CHECK.due(x, 0, "frameOf", 0);
        CHECK.due(x, 5, "frameOf", 1);
        CHECK.refused(x, "element", "frameOf", 2);
        CHECK.due(x, 10, "frameOf", 3);
        CHECK.due(x, 0, "frameOf", 4);
        int[][] first = {{0, 0}, {4, 0}, {5, 1}, {9, 1}, {10, 3}, {14, 3}};
        for (int[] pair : first) {
            CHECK.due(x, pair[1], "shotAt", 0, pair[0]);
        }
        CHECK.refused(x, "element", "shotAt", 0, 15);
        CHECK.refused(x, "element", "shotAt", 0, -1);
        CHECK.refused(x, "element", "shotAt", 0, Integer.MAX_VALUE);
        CHECK.refused(x, "element", "shotAt", 0, Integer.MIN_VALUE);
        CHECK.refused(x, "index", "shotAt", 2, -1);
        CHECK.refused(x, "index", "shotAt", -1, 0);
        CHECK.due(x, 4, "shotAt", 1, 6);
        x.put(0, 2);
        CHECK.due(x, 10, "frameOf", 2);
        CHECK.due(x, 15, "frameOf", 3);
        // A frame that is taken away moves those behind it.
        x.mend(0, 0);
        CHECK.due(x, 14, "frameOf", 3);
        CHECK.due(x, 2, "shotAt", 0, 9);
        CHECK.refused(x, "element", "shotAt", 0, 19);
    }
}
