/** Promises 21 to 24: grades, a shot's own and those passed on. */
public final class GradesTest {
    private static final Check CHECK = new Check("grades");

    /** Film 0: shots 0 to 3 of scene 1, shot 4 of scene 2; film 1: shot 5 of scene 1. All are missing. */
    private static final String SIX_SHOTS = "addFilm; addFilm; addShot 0 5 1; addShot 0 5 1; addShot 0 5 1; addShot 0 5 1;"
            + "addShot 0 5 2; addShot 1 5 1";

    public static void main(String[] args) {
        grade();
        gradeReturns();
        gradeThrows();
        passOn();
        passOnReturns();
        passOnThrows();
        gradeOf();
        gradeFrom();
        CHECK.coversPromises(21, 24);
        CHECK.end();
    }

    private static void grade() {
        CHECK.promise(21);
        CHECK.sentence("Grades a shot.");
        CHECK.run(SIX_SHOTS).go("grade 1 30").dues("gradeOf #", -1, 30, -1, -1, -1, -1)
                .dues("gradeFrom #", -1, 1, -1, -1, -1, -1)
                .go("grade 1 31").due("gradeOf 1", 31).go("grade 1 -1").due("gradeOf 1", -1).due("gradeFrom 1", -1);
        // A shot with its own no longer follows; without it again, it has none.
        CHECK.run(SIX_SHOTS).go("grade 1 30; passOn 1; grade 0 35; grade 1 31")
                .dues("gradeOf #", 35, 31, 31, 31, -1, -1)
                .go("grade 0 -1").dues("gradeOf #", -1, 31, 31, 31, -1, -1).due("isSound", true);
        // It is free for a shot on a reel, and while the film is lent.
        CHECK.run("addFilm; found 0 0 5 5; addVersion 0 0; lend 0 1 0 1").due("grade 0 5", -1).due("grade 0 -1", 5);
        CHECK.sentence("`shot`: the number of the shot");
        CHECK.run(SIX_SHOTS).limits("grade # 5", 0, 5, Check.INDEX);
        CHECK.run("addFilm").go(60, "addShot 0 5 5").limits("grade # 5", 0, 59, Check.INDEX).go("grade 59 5")
                .due("gradeOf 59", 5);
        CHECK.sentence("`grade`: the grade, 0 to 99, or -1 to take its own away");
        CHECK.run(SIX_SHOTS).takenFor("grade 0 #", "0", "99")
                .refusedFor("grade 0 #", Check.ARGUMENT, "-2", "100", "MIN", "MAX")
                .go("grade 0 5").limits("grade 0 #", -1, 99, Check.ARGUMENT);
        CHECK.run(SIX_SHOTS).go("grade 0 0; grade 1 99").dues("gradeOf #", 0, 99).dues("gradeFrom #", 0, 1)
                .go("passOn 0")
                .dues("gradeOf #", 0, 99, 0, 0).go("grade 0 -1").dues("gradeOf #", -1, 99, -1, -1);
    }

    private static void gradeReturns() {
        CHECK.sentence("Returns its grade before, or -1.");
        CHECK.run(SIX_SHOTS).due("grade 0 0", -1).due("grade 0 99", 0).due("grade 0 99", 99).due("grade 0 -1", 99)
                .due("grade 0 7", -1);
        // Its grade before may be one that was passed on.
        CHECK.run(SIX_SHOTS).go("grade 1 30; passOn 1; grade 1 31").due("grade 0 35", 31).due("grade 0 36", 35)
                .due("grade 0 -1", 36).due("grade 0 1", -1).due("grade 1 -1", 31).due("grade 2 1", -1);
        CHECK.sentence("Throws `IndexOutOfBoundsException` if there is no such shot");
        CHECK.run("addFilm; addReel 0").none("grade # 5", Check.INDEX).none("grade # 100", Check.INDEX)
                .none("grade # -1", Check.INDEX);
        CHECK.run(SIX_SHOTS).refusedFor("grade # 5", Check.INDEX, "6", "-1", "MIN", "MAX")
                .refusedFor("grade # 100", Check.INDEX, "6", "-1")
                .refusedFor("grade # -2", Check.INDEX, "6", "-1").refusedFor("grade # -1", Check.INDEX, "6", "-1");
    }

    private static void gradeThrows() {
        CHECK.sentence("Throws `IllegalArgumentException` if the grade is out of range");
        CHECK.run(SIX_SHOTS).refusedFor("grade 0 #", Check.ARGUMENT, "-2", "100", "MIN", "MAX")
                .go("grade 0 5; passOn 0")
                .refusedFor("grade 0 #", Check.ARGUMENT, "-2", "100")
                .refusedFor("grade 1 #", Check.ARGUMENT, "-2", "100");
        CHECK.sentence("Throws `UnsupportedOperationException` if it has none of its own that could be taken away");
        CHECK.run(SIX_SHOTS).refused("grade 0 -1", Check.UNSUPPORTED).go("grade 0 5; grade 0 -1")
                .refused("grade 0 -1", Check.UNSUPPORTED);
        // One that was passed on is not its own.
        CHECK.run(SIX_SHOTS).go("grade 0 5; passOn 0").refused("grade 1 -1", Check.UNSUPPORTED).due("gradeOf 1", 5)
                .go("grade 1 6; grade 1 -1").refused("grade 1 -1", Check.UNSUPPORTED);
    }

    private static void passOn() {
        CHECK.promise(22);
        CHECK.sentence("Passes a grade on.");
        CHECK.run(SIX_SHOTS).go("grade 1 30; grade 3 40; passOn 1").dues("gradeOf #", 30, 30, 30, 40, -1, -1)
                .dues("gradeFrom #", 1, 1, 1, 3, -1, -1).due("isSound", true).go("grade 1 31")
                .dues("gradeOf #", 31, 31, 31, 40, -1, -1)
                .due("isSound", true).go("grade 1 -1").dues("gradeOf #", -1, -1, -1, 40, -1, -1)
                .dues("gradeFrom #", -1, -1, -1, 3, -1, -1)
                .go("grade 1 20").dues("gradeOf #", -1, 20, -1, 40, -1, -1);
        // It comes in place of what was passed on before, which is no longer followed.
        CHECK.run(SIX_SHOTS).go("grade 1 30; grade 3 40; passOn 1; passOn 3").dues("gradeFrom #", 3, 1, 3, 3, -1, -1)
                .go("grade 1 -1").dues("gradeOf #", 40, -1, 40, 40, -1, -1).go("passOn 3")
                .dues("gradeOf #", 40, 40, 40, 40, -1, -1);
        // Shots on reels are touched like missing ones, at any place, and while the film is lent.
        CHECK.run(SIX_SHOTS).go("found 0 0 5 1; found 0 6 5 1; addVersion 0 0; lend 0 1 0 1; grade 2 7")
                .due("passOn 2", 5)
                .dues("gradeOf #", 7, 7, 7, 7, -1, -1, 7, 7);
        CHECK.sentence("`shot`: the number of the shot");
        CHECK.run(SIX_SHOTS).go("grade 0 5; grade 5 5").limits("passOn #", 0, 5, Check.INDEX);
        CHECK.run("addFilm").go(60, "addShot 0 5 5").go("grade 0 5; grade 59 5").limits("passOn #", 0, 59, Check.INDEX);
    }

    private static void passOnReturns() {
        CHECK.sentence("Returns to how many shots, those that had it already too.");
        CHECK.run(SIX_SHOTS).go("grade 1 30").due("passOn 1", 3).due("passOn 1", 3).go("grade 0 30").due("passOn 1", 2)
                .due("passOn 0", 2).go("grade 0 -1").due("passOn 1", 3)
                .go("addShot 0 5 1; addShot 0 5 2; addShot 1 5 1").due("passOn 1", 4);
        // None, for want of others of its film and scene, or since all of them have their own.
        CHECK.run(SIX_SHOTS).go("grade 4 50; grade 5 60").due("passOn 4", 0).due("passOn 5", 0)
                .dues("gradeOf #", -1, -1, -1, -1, 50, 60)
                .go("grade 0 1; grade 1 1; grade 2 1; grade 3 1").due("passOn 3", 0);
        CHECK.run("addFilm; addShot 0 5 0; grade 0 0").due("passOn 0", 0).due("gradeFrom 0", 0);
        CHECK.run("addFilm").go(60, "addShot 0 5 9").go("grade 30 99").due("passOn 30", 59).due("gradeOf 0", 99)
                .due("gradeOf 59", 99);
    }

    private static void passOnThrows() {
        CHECK.sentence("Throws `IndexOutOfBoundsException` if there is no such shot");
        CHECK.run("addFilm; addReel 0").none("passOn #", Check.INDEX);
        CHECK.run(SIX_SHOTS).refusedFor("passOn #", Check.INDEX, "6", "-1", "MIN", "MAX");
        CHECK.sentence("Throws `UnsupportedOperationException` if it has no grade of its own");
        CHECK.run(SIX_SHOTS).refused("passOn 0", Check.UNSUPPORTED).go("grade 0 5; passOn 0")
                .refused("passOn 1", Check.UNSUPPORTED)
                .go("grade 0 -1").refused("passOn 0", Check.UNSUPPORTED).refused("passOn 1", Check.UNSUPPORTED)
                .go("grade 0 0").due("passOn 0", 3);
    }

    private static void gradeOf() {
        CHECK.promise(23);
        CHECK.sentence("Returns the grade of a shot.");
        CHECK.run(SIX_SHOTS).go("grade 0 1; passOn 0; grade 3 2; grade 0 3; grade 5 4")
                .dues("gradeOf #", 3, 3, 3, 2, -1, 4);
        CHECK.sentence("`shot`: the number of the shot");
        CHECK.run(SIX_SHOTS).limits("gradeOf #", 0, 5, Check.INDEX);
        CHECK.run("addFilm").go(60, "addShot 0 5 5").limits("gradeOf #", 0, 59, Check.INDEX);
        CHECK.sentence("Returns the grade, or -1.");
        CHECK.run(SIX_SHOTS).due("gradeOf 0", -1).go("grade 0 0").due("gradeOf 0", 0).due("gradeOf 1", -1)
                .go("passOn 0").due("gradeOf 1", 0)
                .go("grade 0 99").dues("gradeOf #", 99, 99).go("grade 0 -1").dues("gradeOf #", -1, -1);
        CHECK.sentence("Throws `IndexOutOfBoundsException` if there is no such shot");
        CHECK.run("addFilm; addReel 0").none("gradeOf #", Check.INDEX);
        CHECK.run(SIX_SHOTS).refusedFor("gradeOf #", Check.INDEX, "6", "60", "-1", "MIN", "MAX");
    }

    private static void gradeFrom() {
        CHECK.promise(24);
        CHECK.sentence("Returns the shot from which a grade comes.");
        CHECK.run(SIX_SHOTS).go("grade 3 5; passOn 3; grade 0 5").dues("gradeFrom #", 0, 3, 3, 3, -1, -1).go("passOn 0")
                .dues("gradeFrom #", 0, 0, 0, 3, -1, -1).go("grade 0 -1").dues("gradeFrom #", -1, -1, -1, 3, -1, -1);
        CHECK.sentence("`shot`: the number of the shot");
        CHECK.run(SIX_SHOTS).limits("gradeFrom #", 0, 5, Check.INDEX);
        CHECK.run("addFilm").go(60, "addShot 0 5 5").limits("gradeFrom #", 0, 59, Check.INDEX);
        CHECK.sentence("Returns the number of the shot, itself for its own, -1 without a grade.");
        CHECK.run(SIX_SHOTS).dues("gradeFrom #", -1, -1, -1, -1, -1, -1).go("grade 0 0; grade 5 99")
                .dues("gradeFrom #", 0, -1, -1, -1, -1, 5)
                .go("passOn 0").dues("gradeFrom #", 0, 0, 0, 0, -1, 5).go("grade 1 0").due("gradeFrom 1", 1)
                .go("grade 1 -1")
                .due("gradeFrom 1", -1);
        CHECK.run("addFilm").go(60, "addShot 0 5 5").go("grade 59 5; passOn 59").due("gradeFrom 0", 59)
                .due("gradeFrom 59", 59);
        CHECK.sentence("Throws `IndexOutOfBoundsException` if there is no such shot");
        CHECK.run("addFilm; addReel 0").none("gradeFrom #", Check.INDEX);
        CHECK.run(SIX_SHOTS).refusedFor("gradeFrom #", Check.INDEX, "6", "60", "-1", "MIN", "MAX");
    }
}
