import java.util.ArrayList;
import java.util.HashMap;
import java.util.HashSet;
import java.util.LinkedHashSet;
import java.util.List;
import java.util.Map;
import java.util.NoSuchElementException;
import java.util.Set;

/**
 * The document once more, in another shape: each frame and each splice is an object of its own, what was passed on
 * is kept as a map from shot to shot, and every figure is found by going through all of it. Slow, and told as plainly
 * as can be; the random runs hold the class against it.
 */
final class Model {
    private static final class Frame {
        final Set<Integer> leftOutOf = new HashSet<>();
    }

    private static final class Splice {
        int wear = 0;
    }

    private final List<List<Integer>> films = new ArrayList<>();
    private final List<Integer> filmOfShot = new ArrayList<>();
    private final List<Integer> sceneOfShot = new ArrayList<>();
    private final List<List<Frame>> framesOfShot = new ArrayList<>();
    private final Map<Integer, Integer> sizeOfScan = new HashMap<>();
    private final Map<Integer, Integer> missedInScan = new HashMap<>();
    private final Map<Integer, Integer> ownGrades = new HashMap<>();
    private final Map<Integer, Integer> passedFrom = new HashMap<>();
    private final List<Integer> filmOfReel = new ArrayList<>();
    private final List<List<Integer>> shotsOfReel = new ArrayList<>();
    private final List<List<Splice>> splicesOfReel = new ArrayList<>();
    private final List<int[]> versions = new ArrayList<>();
    private final List<int[]> loans = new ArrayList<>();
    private final Set<Integer> openLoans = new LinkedHashSet<>();
    private int limit = 10;
    private int today = 0;
    private long shown = 0;

    private static void index(boolean isWrong) {
        if (isWrong) {
            throw new IndexOutOfBoundsException();
        }
    }

    private static void argument(boolean isWrong) {
        if (isWrong) {
            throw new IllegalArgumentException();
        }
    }

    private static void unsupported(boolean isWrong) {
        if (isWrong) {
            throw new UnsupportedOperationException();
        }
    }

    private static void state(boolean isWrong) {
        if (isWrong) {
            throw new IllegalStateException();
        }
    }

    private static boolean isOut(int number, int low, int high) {
        return number < low || number > high;
    }

    private static void known(int number, List<?> all) {
        index(isOut(number, 0, all.size() - 1));
    }

    private boolean isLent(int film) {
        for (int loan : openLoans) {
            if (versions.get(loans.get(loan)[0])[0] == film) {
                return true;
            }
        }
        return false;
    }

    private int reelWith(int shot) {
        for (int reel = 0; reel < shotsOfReel.size(); reel++) {
            if (shotsOfReel.get(reel).contains(shot)) {
                return reel;
            }
        }
        return -1;
    }

    private int place(int shot) {
        return films.get(filmOfShot.get(shot)).indexOf(shot);
    }

    private List<Frame> framesOfFilm(int film) {
        List<Frame> all = new ArrayList<>();
        for (int shot : films.get(film)) {
            if (reelWith(shot) >= 0) {
                all.addAll(framesOfShot.get(shot));
            }
        }
        return all;
    }

    private int addShotAt(int film, int place, int length, int scene) {
        int shot = filmOfShot.size();
        films.get(film).add(place, shot);
        filmOfShot.add(film);
        sceneOfShot.add(scene);
        List<Frame> frames = new ArrayList<>();
        for (int i = 0; i < length; i++) {
            frames.add(new Frame());
        }
        framesOfShot.add(frames);
        return shot;
    }

    private void append(int reel, int shot) {
        if (!shotsOfReel.get(reel).isEmpty()) {
            splicesOfReel.get(reel).add(new Splice());
        }
        shotsOfReel.get(reel).add(shot);
    }

    int addFilm() {
        state(films.size() == 6);
        films.add(new ArrayList<>());
        return films.size() - 1;
    }

    int addShot(int film, int length, int scene) {
        known(film, films);
        argument(isOut(length, 1, 999) || isOut(scene, 0, 9));
        state(filmOfShot.size() == 60);
        return addShotAt(film, films.get(film).size(), length, scene);
    }

    int addReel(int film) {
        known(film, films);
        state(filmOfReel.size() == 24);
        filmOfReel.add(film);
        shotsOfReel.add(new ArrayList<>());
        splicesOfReel.add(new ArrayList<>());
        return filmOfReel.size() - 1;
    }

    int put(int reel, int shot) {
        known(reel, filmOfReel);
        known(shot, filmOfShot);
        argument(!filmOfReel.get(reel).equals(filmOfShot.get(shot)));
        unsupported(reelWith(shot) >= 0);
        for (int other : shotsOfReel.get(reel)) {
            unsupported(place(shot) < place(other));
        }
        unsupported(isLent(filmOfReel.get(reel)));
        append(reel, shot);
        return shotsOfReel.get(reel).size();
    }

    int found(int film, int place, int length, int scene) {
        known(film, films);
        index(isOut(place, 0, films.get(film).size()));
        argument(isOut(length, 1, 999) || isOut(scene, 0, 9));
        unsupported(isLent(film));
        state(filmOfShot.size() == 60 || filmOfReel.size() == 24);
        int reel = addReel(film);
        append(reel, addShotAt(film, place, length, scene));
        return reel;
    }

    int join(int reel, int other) {
        known(reel, filmOfReel);
        known(other, filmOfReel);
        argument(reel == other || !filmOfReel.get(reel).equals(filmOfReel.get(other)));
        List<Integer> ahead = shotsOfReel.get(reel);
        List<Integer> behind = shotsOfReel.get(other);
        unsupported(ahead.isEmpty() || behind.isEmpty());
        unsupported(place(ahead.get(ahead.size() - 1)) > place(behind.get(0)));
        unsupported(isLent(filmOfReel.get(reel)));
        ahead.addAll(behind);
        splicesOfReel.get(reel).add(new Splice());
        splicesOfReel.get(reel).addAll(splicesOfReel.get(other));
        behind.clear();
        splicesOfReel.get(other).clear();
        return ahead.size();
    }

    int shots(int film) {
        known(film, films);
        return films.get(film).size();
    }

    int shotOf(int film, int place) {
        known(film, films);
        known(place, films.get(film));
        return films.get(film).get(place);
    }

    int lengthOf(int shot) {
        known(shot, filmOfShot);
        return framesOfShot.get(shot).size();
    }

    int frameOf(int shot) {
        known(shot, filmOfShot);
        int first = framesOfFilm(filmOfShot.get(shot)).indexOf(framesOfShot.get(shot).get(0));
        if (first < 0) {
            throw new NoSuchElementException();
        }
        return first;
    }

    int shotAt(int film, int frame) {
        known(film, films);
        List<Frame> all = framesOfFilm(film);
        if (isOut(frame, 0, all.size() - 1)) {
            throw new NoSuchElementException();
        }
        for (int shot : films.get(film)) {
            if (framesOfShot.get(shot).contains(all.get(frame))) {
                return shot;
            }
        }
        throw new AssertionError();
    }

    int reelOf(int shot) {
        known(shot, filmOfShot);
        return reelWith(shot);
    }

    private List<Splice> allSplices() {
        List<Splice> all = new ArrayList<>();
        splicesOfReel.forEach(all::addAll);
        return all;
    }

    private static int greatest(List<Splice> splices) {
        return splices.stream().mapToInt(splice -> splice.wear).max().orElse(0);
    }

    int setLimit(int limit) {
        argument(isOut(limit, 2, 50));
        unsupported(greatest(allSplices()) > limit);
        unsupported(limit < this.limit && !openLoans.isEmpty());
        int before = this.limit;
        this.limit = limit;
        return before;
    }

    private void play(int reel, int wear) {
        splicesOfReel.get(reel).forEach(splice -> splice.wear += wear);
        for (int shot : shotsOfReel.get(reel)) {
            shown += framesOfShot.get(shot).size();
        }
    }

    int run(int reel) {
        known(reel, filmOfReel);
        unsupported(splicesOfReel.get(reel).stream().anyMatch(splice -> splice.wear == limit));
        unsupported(isLent(filmOfReel.get(reel)));
        play(reel, 1);
        return greatest(splicesOfReel.get(reel));
    }

    boolean hasSplice(int reel) {
        return !isOut(reel, 0, splicesOfReel.size() - 1) && !splicesOfReel.get(reel).isEmpty();
    }

    int wear(int reel, int index) {
        known(reel, filmOfReel);
        known(index, splicesOfReel.get(reel));
        return splicesOfReel.get(reel).get(index).wear;
    }

    int mend(int reel, int index) {
        int before = wear(reel, index);
        List<Frame> ahead = framesOfShot.get(shotsOfReel.get(reel).get(index));
        unsupported(ahead.size() == 1);
        unsupported(isLent(filmOfReel.get(reel)));
        ahead.remove(ahead.size() - 1);
        splicesOfReel.get(reel).get(index).wear = 0;
        return before;
    }

    int scan(int reel, int size) {
        known(reel, filmOfReel);
        argument(isOut(size, 1, 4));
        List<Integer> shots = shotsOfReel.get(reel);
        unsupported(shots.isEmpty());
        unsupported(isLent(filmOfReel.get(reel)));
        Set<Frame> missed = new HashSet<>();
        for (int i = 0; i < splicesOfReel.get(reel).size(); i++) {
            if (splicesOfReel.get(reel).get(i).wear >= limit / 2.0) {
                List<Frame> ahead = framesOfShot.get(shots.get(i));
                missed.add(ahead.get(ahead.size() - 1));
                missed.add(framesOfShot.get(shots.get(i + 1)).get(0));
            }
        }
        for (int shot : shots) {
            if (size >= sizeOfScan.getOrDefault(shot, 0)) {
                sizeOfScan.put(shot, size);
                missedInScan.put(shot, (int) framesOfShot.get(shot).stream().filter(missed::contains).count());
            }
        }
        return missed.size();
    }

    int scanned(int shot) {
        known(shot, filmOfShot);
        return sizeOfScan.getOrDefault(shot, 0);
    }

    int missed(int shot) {
        known(shot, filmOfShot);
        return Math.min(missedInScan.getOrDefault(shot, 0), framesOfShot.get(shot).size());
    }

    int grade(int shot, int grade) {
        known(shot, filmOfShot);
        argument(isOut(grade, -1, 99));
        unsupported(grade == -1 && !ownGrades.containsKey(shot));
        int before = gradeOf(shot);
        passedFrom.remove(shot);
        if (grade == -1) {
            ownGrades.remove(shot);
            passedFrom.values().removeIf(source -> source == shot);
        } else {
            ownGrades.put(shot, grade);
        }
        return before;
    }

    int passOn(int shot) {
        known(shot, filmOfShot);
        unsupported(!ownGrades.containsKey(shot));
        int count = 0;
        for (int other : films.get(filmOfShot.get(shot))) {
            if (!ownGrades.containsKey(other) && sceneOfShot.get(other).equals(sceneOfShot.get(shot))) {
                passedFrom.put(other, shot);
                count++;
            }
        }
        return count;
    }

    int gradeOf(int shot) {
        int source = gradeFrom(shot);
        return source < 0 ? -1 : ownGrades.get(source);
    }

    int gradeFrom(int shot) {
        known(shot, filmOfShot);
        return ownGrades.containsKey(shot) ? shot : passedFrom.getOrDefault(shot, -1);
    }

    int addVersion(int film, int country) {
        known(film, films);
        argument(isOut(country, 0, 7));
        unsupported(versions.stream().anyMatch(version -> version[0] == film && version[1] == country));
        state(versions.size() == 10);
        versions.add(new int[] {film, country});
        return versions.size() - 1;
    }

    int leaveOut(int version, int from, int to, boolean isOut) {
        known(version, versions);
        List<Frame> all = framesOfFilm(versions.get(version)[0]);
        argument(from < 0 || from >= all.size() || to > all.size() || to <= from);
        int changed = 0;
        for (Frame frame : all.subList(from, to)) {
            if (isOut ? frame.leftOutOf.add(version) : frame.leftOutOf.remove(version)) {
                changed++;
            }
        }
        return changed;
    }

    int frames(int version) {
        known(version, versions);
        return (int) framesOfFilm(versions.get(version)[0]).stream()
                .filter(frame -> !frame.leftOutOf.contains(version)).count();
    }

    /** A loan is: version, runs left, heat, the day on which it is due. */
    int lend(int version, int runs, int heat, int days) {
        known(version, versions);
        argument(isOut(runs, 1, 9) || isOut(heat, 0, 3) || isOut(days, 1, 99));
        int film = versions.get(version)[0];
        unsupported(isLent(film));
        for (int reel = 0; reel < filmOfReel.size(); reel++) {
            for (Splice splice : splicesOfReel.get(reel)) {
                unsupported(filmOfReel.get(reel) == film && splice.wear + runs + runs * heat > limit);
            }
        }
        state(loans.size() == 20);
        openLoans.add(loans.size());
        loans.add(new int[] {version, runs, heat, today + days});
        return loans.size() - 1;
    }

    int show(int loan) {
        known(loan, loans);
        unsupported(!openLoans.contains(loan) || loans.get(loan)[1] == 0);
        for (int reel = 0; reel < filmOfReel.size(); reel++) {
            if (filmOfReel.get(reel) == versions.get(loans.get(loan)[0])[0]) {
                play(reel, loans.get(loan)[2] + 1);
            }
        }
        loans.get(loan)[1]--;
        return loans.get(loan)[1];
    }

    int giveBack(int loan) {
        known(loan, loans);
        unsupported(!openLoans.remove(loan));
        return today > loans.get(loan)[3] ? today - loans.get(loan)[3] : 0;
    }

    int advance(int days) {
        argument(isOut(days, 1, 99));
        today += days;
        return (int) openLoans.stream().filter(loan -> today > loans.get(loan)[3]).count();
    }

    long shown() {
        return shown;
    }

    float keptShare() {
        if (filmOfShot.isEmpty()) {
            throw new ArithmeticException();
        }
        int kept = shotsOfReel.stream().mapToInt(List::size).sum();
        return (float) kept / (float) filmOfShot.size();
    }

    double meanWear() {
        List<Splice> all = allSplices();
        if (all.isEmpty()) {
            throw new ArithmeticException();
        }
        return (double) all.stream().mapToInt(splice -> splice.wear).sum() / (double) all.size();
    }

    boolean isSound() {
        return true;
    }
}
