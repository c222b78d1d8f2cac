/** Promises 21 to 24: grades, a shot's own and those passed on. */
public final class GradesTest {
    private static final Check CHECK = new Check("grades");

    public static void main(String[] args) {
        own();
        throwing();
        passOn();
        passOnAgain();
        followed();
        takenAway();
        getsItsOwn();
        laterShots();
        CHECK.end();
    }

    /** Film 0: shots 0 to 3 of scene 1, shot 4 of scene 2; film 1: shot 5 of scene 1. All are missing. */
    private static Spliceroom sixShots() {
        Spliceroom x = new Spliceroom();
        x.addFilm();
        x.addFilm();
        for (int i = 0; i < 4; i++) {
            x.addShot(0, 5, 1);
        }
        x.addShot(0, 5, 2);
        x.addShot(1, 5, 1);
        return x;
    }

    private static void grades(Spliceroom x, int... want) {
        for (int shot = 0; shot < want.length; shot++) {
            CHECK.due(x, want[shot], "gradeOf", shot);
        }
        CHECK.due(x, true, "isSound");
    }

    private static void sources(Spliceroom x, int... want) {
        for (int shot = 0; shot < want.length; shot++) {
            CHECK.due(x, want[shot], "gradeFrom", shot);
        }
    }

    private static void own() {
        Spliceroom x = sixShots();
        grades(x, -1, -1, -1, -1, -1, -1);
        sources(x, -1, -1, -1, -1, -1, -1);
        CHECK.due(x, -1, "grade", 1, 0);
        CHECK.due(x, 0, "grade", 1, 99);
        CHECK.due(x, -1, "grade", 0, 7);
        grades(x, 7, 99, -1, -1, -1, -1);
        sources(x, 0, 1, -1, -1, -1, -1);
        CHECK.due(x, 99, "grade", 1, -1);
        CHECK.due(x, -1, "gradeOf", 1);
        CHECK.due(x, -1, "gradeFrom", 1);
    }

    private static void throwing() {
        Spliceroom x = sixShots();
        CHECK.refused(x, "index", "grade", 6, 5);
        CHECK.refused(x, "index", "grade", -1, 100);
        for (int wrong : new int[] {-2, 100, Integer.MAX_VALUE, Integer.MIN_VALUE}) {
            CHECK.refused(x, "argument", "grade", 0, wrong);
        }
        CHECK.refused(x, "unsupported", "grade", 0, -1);
        CHECK.refused(x, "unsupported", "passOn", 0);
        CHECK.refused(x, "index", "passOn", 6);
        x.grade(0, 5);
        x.passOn(0);
        // One that was passed on is not its own.
        CHECK.refused(x, "unsupported", "grade", 1, -1);
        CHECK.refused(x, "unsupported", "passOn", 1);
        x.grade(0, -1);
        CHECK.refused(x, "unsupported", "grade", 0, -1);
        CHECK.refused(x, "unsupported", "passOn", 0);
    }

    private static void passOn() {
        Spliceroom x = sixShots();
        x.grade(1, 30);
        x.grade(3, 40);
        CHECK.due(x, 2, "passOn", 1);
        grades(x, 30, 30, 30, 40, -1, -1);
        sources(x, 1, 1, 1, 3, -1, -1);
        x.grade(4, 50);
        CHECK.due(x, 0, "passOn", 4);
        x.grade(5, 60);
        CHECK.due(x, 0, "passOn", 5);
        grades(x, 30, 30, 30, 40, 50, 60);
    }

    private static void passOnAgain() {
        Spliceroom x = sixShots();
        x.grade(1, 30);
        x.grade(3, 40);
        x.passOn(1);
        CHECK.due(x, 2, "passOn", 1);
        CHECK.due(x, 2, "passOn", 3);
        grades(x, 40, 30, 40, 40, -1, -1);
        sources(x, 3, 1, 3, 3, -1, -1);
        // What was passed on before is no longer followed.
        CHECK.due(x, 30, "grade", 1, -1);
        grades(x, 40, -1, 40, 40, -1, -1);
        CHECK.due(x, 3, "passOn", 3);
        grades(x, 40, 40, 40, 40, -1, -1);
    }

    private static void followed() {
        Spliceroom x = sixShots();
        x.grade(1, 30);
        x.passOn(1);
        CHECK.due(x, 30, "grade", 1, 31);
        grades(x, 31, 31, 31, 31, -1, -1);
        sources(x, 1, 1, 1, 1, -1, -1);
    }

    private static void takenAway() {
        Spliceroom x = sixShots();
        x.grade(1, 30);
        x.passOn(1);
        CHECK.due(x, 30, "grade", 1, -1);
        grades(x, -1, -1, -1, -1, -1, -1);
        sources(x, -1, -1, -1, -1, -1, -1);
        // A grade that comes anew is not passed on by itself.
        CHECK.due(x, -1, "grade", 1, 20);
        grades(x, -1, 20, -1, -1, -1, -1);
    }

    private static void getsItsOwn() {
        Spliceroom x = sixShots();
        x.grade(1, 30);
        x.passOn(1);
        CHECK.due(x, 30, "grade", 0, 35);
        x.grade(1, 31);
        grades(x, 35, 31, 31, 31, -1, -1);
        CHECK.due(x, 2, "passOn", 1);
        CHECK.due(x, 35, "grade", 0, -1);
        grades(x, -1, 31, 31, 31, -1, -1);
        CHECK.due(x, 3, "passOn", 1);
        CHECK.due(x, 1, "gradeFrom", 0);
    }

    private static void laterShots() {
        Spliceroom x = sixShots();
        x.grade(1, 30);
        x.passOn(1);
        x.addShot(0, 5, 1);
        x.found(0, 0, 5, 1);
        grades(x, 30, 30, 30, 30, -1, -1, -1, -1);
        x.grade(1, 31);
        grades(x, 31, 31, 31, 31, -1, -1, -1, -1);
        CHECK.due(x, 5, "passOn", 1);
        grades(x, 31, 31, 31, 31, -1, -1, 31, 31);
        // Grading is free while the film is lent.
        x.addVersion(0, 0);
        x.lend(0, 1, 0, 1);
        CHECK.due(x, 31, "grade", 1, 32);
        CHECK.due(x, 5, "passOn", 1);
    }
}
