import java.util.ArrayList;
import java.util.List;
import java.util.Random;

/** All promises: long runs of calls, the same ones in each run of this test, held against the model. */
public final class RandomRunsTest {
    private static final int RUNS = 400;
    private static final int STATE_EVERY = 4;

    private static final String[] CHANGES = {"addFilm", "addShot", "addReel", "put", "found", "join", "setLimit", "run",
        "mend", "scan", "grade", "passOn", "addVersion", "leaveOut", "lend", "show", "giveBack", "advance"};
    private static final String[] QUESTIONS = {"shots", "shotOf", "lengthOf", "frameOf", "shotAt", "reelOf", "wear",
        "scanned", "missed", "gradeOf", "gradeFrom", "frames", "shown", "keptShare", "meanWear", "isSound"};

    private final Random random;
    private final int longest;
    private final int usualFilms;
    private final int[] weights = new int[CHANGES.length];
    private final List<String> calls = new ArrayList<>();
    private final Caller room = new Caller(new Spliceroom());
    private final Model model = new Model();
    private final Caller modelled = new Caller(model);
    private final List<Integer> filmsOfVersions = new ArrayList<>();
    private int films = 0;
    private int shots = 0;
    private int reels = 0;
    private int loans = 0;

    private RandomRunsTest(int seed) {
        random = new Random(seed);
        // Short shots show the edges of one frame; a few runs have long ones.
        longest = new int[] {2, 4, 12, 70, 999}[seed % 20 == 0 ? 4 : seed % 4];
        usualFilms = new int[] {1, 1, 1, 2, 2, 6}[random.nextInt(6)];
        for (int i = 0; i < weights.length; i++) {
            weights[i] = 1 + random.nextInt(4) * random.nextInt(5);
        }
    }

    public static void main(String[] args) {
        Check check = new Check("random runs");
        for (int seed = 0; seed < RUNS; seed++) {
            new RandomRunsTest(seed).go(check, seed);
        }
        check.end();
    }

    private void go(Check check, int seed) {
        for (int i = 0; i < Caller.MOST_CALLS; i++) {
            String name = i == 0 ? "addFilm" : name();
            Object[] args = arguments(name);
            String call = written(name, args);
            calls.add(call);
            String got = room.answer(call);
            String want = modelled.answer(call);
            check.same("run " + seed + ", call " + i + ", " + call, got, want);
            if (!got.equals(want)) {
                System.out.println("  after " + calls);
                return;
            }
            count(name, args, got);
        }
        if (seed % STATE_EVERY == 0) {
            List<String> some = calls.subList(0, 1 + random.nextInt(400));
            check.same("run " + seed + ", state behind " + some.size() + " calls", State.behind(some, some.size(),
                    Spliceroom::new),
                    State.behind(some, some.size(), Model::new));
        }
    }

    private static String written(String name, Object[] args) {
        StringBuilder call = new StringBuilder(name);
        for (Object arg : args) {
            call.append(' ').append(arg);
        }
        return call.toString();
    }

    private void count(String name, Object[] args, String answer) {
        if (Caller.isThrown(answer)) {
            return;
        }
        films += name.equals("addFilm") ? 1 : 0;
        shots += name.equals("addShot") || name.equals("found") ? 1 : 0;
        reels += name.equals("addReel") || name.equals("found") ? 1 : 0;
        if (name.equals("addVersion")) {
            filmsOfVersions.add((Integer) args[0]);
        }
        loans += name.equals("lend") ? 1 : 0;
    }

    private String name() {
        if (random.nextInt(3) == 0) {
            return QUESTIONS[random.nextInt(QUESTIONS.length)];
        }
        int sum = 0;
        for (int weight : weights) {
            sum += weight;
        }
        int left = random.nextInt(sum);
        for (int i = 0; i < weights.length; i++) {
            left -= weights[i];
            if (left < 0) {
                boolean isFilmTooMany = i == 0 && films >= usualFilms && random.nextInt(20) != 0;
                return isFilmTooMany ? "put" : CHANGES[i];
            }
        }
        throw new AssertionError();
    }

    /** Mostly a number from low to high, now and then one beside them or far away. */
    private int near(int low, int high) {
        switch (random.nextInt(40)) {
            case 0: return low - 1;
            case 1: return high + 1;
            case 2: return random.nextInt();
            case 3: return random.nextBoolean() ? Integer.MIN_VALUE : Integer.MAX_VALUE;
            default: return low + random.nextInt(Math.max(high - low + 1, 1));
        }
    }

    private int one(int count) {
        return near(0, count - 1);
    }

    private int filmLength(int film) {
        int end = 0;
        for (int place = 0; film >= 0 && film < films && place < model.shots(film); place++) {
            int shot = model.shotOf(film, place);
            end += model.reelOf(shot) < 0 ? 0 : model.lengthOf(shot);
        }
        return end;
    }

    private Object[] arguments(String name) {
        switch (name) {
            case "addFilm": case "shown": case "keptShare": case "meanWear": case "isSound":
                return new Object[0];
            case "addShot": return new Object[] {one(films), near(1, longest), near(0, 2)};
            case "addReel": case "shots": return new Object[] {one(films)};
            case "put": return putArguments();
            case "found": return foundArguments();
            case "join": return new Object[] {one(reels), one(reels)};
            case "shotOf": return placeArguments();
            case "shotAt": return frameArguments();
            case "setLimit": return new Object[] {near(2, random.nextBoolean() ? 12 : 50)};
            case "run": return new Object[] {one(reels)};
            case "wear": case "mend": return spliceArguments();
            case "scan": return new Object[] {one(reels), near(1, 4)};
            case "grade": return new Object[] {one(shots), near(-1, random.nextBoolean() ? 0 : 99)};
            case "addVersion": return new Object[] {one(films), near(0, 7)};
            case "leaveOut": return leaveOutArguments();
            case "frames": return new Object[] {one(filmsOfVersions.size())};
            case "lend": return new Object[] {one(filmsOfVersions.size()), near(1, random.nextBoolean() ? 3 : 9),
                    near(0, 3), near(1, 20)};
            case "show": case "giveBack":
                return new Object[] {random.nextBoolean() ? loans - 1 : one(loans)};
            case "advance": return new Object[] {near(1, 9)};
            default: return new Object[] {one(shots)};
        }
    }

    private Object[] foundArguments() {
        int film = one(films);
        int places = film >= 0 && film < films ? model.shots(film) : 0;
        return new Object[] {film, near(0, places), near(1, longest), near(0, 2)};
    }

    /** Mostly a shot that is missing, for such a one is found by chance too seldom. */
    private Object[] putArguments() {
        int shot = one(shots);
        for (int i = 0; i < 5 && shot >= 0 && shot < shots && model.reelOf(shot) >= 0; i++) {
            shot = one(shots);
        }
        return new Object[] {one(Math.min(reels, 1 + random.nextInt(24))), shot};
    }

    /** Mostly a splice that there is. */
    private Object[] spliceArguments() {
        int reel = one(reels);
        for (int i = 0; i < 20 && !model.hasSplice(reel); i++) {
            reel = one(reels);
        }
        return new Object[] {reel, near(0, random.nextInt(3))};
    }

    private Object[] placeArguments() {
        int film = one(films);
        return new Object[] {film, one(film >= 0 && film < films ? model.shots(film) : 0)};
    }

    private Object[] frameArguments() {
        int film = one(films);
        return new Object[] {film, one(filmLength(film))};
    }

    private Object[] leaveOutArguments() {
        int version = one(filmsOfVersions.size());
        boolean isKnown = version >= 0 && version < filmsOfVersions.size();
        int length = isKnown ? filmLength(filmsOfVersions.get(version)) : 0;
        int from = one(length);
        return new Object[] {version, from, near(from + 1, length), random.nextInt(3) != 0};
    }
}
