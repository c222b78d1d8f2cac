import java.util.ArrayList;
import java.util.NoSuchElementException;

public final class Spliceroom {
    private static final int MAX_FILMS = 6;
    private static final int MAX_SHOTS = 60;
    private static final int MAX_REELS = 24;
    private static final int MAX_VERSIONS = 10;
    private static final int MAX_LOANS = 20;
    private static final int MAX_LENGTH = 999;
    private static final int MAX_SCENE = 9;
    private static final int MAX_SIZE = 4;
    private static final int MAX_GRADE = 99;
    private static final int MAX_COUNTRY = 7;
    private static final int MAX_RUNS = 9;
    private static final int MAX_HEAT = 3;
    private static final int MAX_DAYS = 99;
    private static final int MIN_LIMIT = 2;
    private static final int MAX_LIMIT = 50;
    private static final int FIRST_LIMIT = 10;
    private static final int NONE = -1;
    private static final int WORD_BITS = 64;
    private static final int SHOT_WORDS = MAX_LENGTH / WORD_BITS + 1;

    private final ArrayList<Film> films;
    private final ArrayList<Shot> allShots;
    private final ArrayList<Reel> reels;
    private final ArrayList<Version> versions;
    private final ArrayList<Loan> loans;
    private int limit;
    private int day;
    private long framesShown;

    public Spliceroom() {
        films = new ArrayList<>();
        allShots = new ArrayList<>();
        reels = new ArrayList<>();
        versions = new ArrayList<>();
        loans = new ArrayList<>();
        limit = FIRST_LIMIT;
        day = 0;
        framesShown = 0;
    }

    // ---- films and reels

    public int addFilm() throws IllegalStateException {
        if (films.size() >= MAX_FILMS) {
            throw new IllegalStateException("no room for a film");
        }
        films.add(new Film());
        return films.size() - 1;
    }

    public int addShot(int film, int length, int scene)
            throws IndexOutOfBoundsException, IllegalArgumentException, IllegalStateException {
        Film home = filmNumbered(film);
        requireLengthAndScene(length, scene);
        if (allShots.size() >= MAX_SHOTS) {
            throw new IllegalStateException("no room for a shot");
        }
        Shot shot = newShot(home, length, scene);
        home.row.add(shot);
        return shot.number;
    }

    public int addReel(int film) throws IndexOutOfBoundsException, IllegalStateException {
        Film home = filmNumbered(film);
        if (reels.size() >= MAX_REELS) {
            throw new IllegalStateException("no room for a reel");
        }
        return newReel(home).number;
    }

    public int put(int reel, int shot)
            throws IndexOutOfBoundsException, IllegalArgumentException, UnsupportedOperationException {
        Reel target = reelNumbered(reel);
        Shot added = shotNumbered(shot);
        if (target.film != added.film) {
            throw new IllegalArgumentException("of two films");
        }
        if (!added.isMissing() || isAheadOfEnd(added, target)) {
            throw new UnsupportedOperationException("not missing, or out of order");
        }
        requireNotLent(target.film);
        target.append(added);
        return target.row.size();
    }

    public int found(int film, int place, int length, int scene) throws IndexOutOfBoundsException,
            IllegalArgumentException, UnsupportedOperationException, IllegalStateException {
        Film home = filmNumbered(film);
        if (place < 0 || place > home.row.size()) {
            throw new IndexOutOfBoundsException("no such place");
        }
        requireLengthAndScene(length, scene);
        requireNotLent(home);
        if (allShots.size() >= MAX_SHOTS || reels.size() >= MAX_REELS) {
            throw new IllegalStateException("no room for a shot or its reel");
        }
        Shot shot = newShot(home, length, scene);
        home.row.add(place, shot);
        Reel own = newReel(home);
        own.append(shot);
        return own.number;
    }

    public int join(int reel, int other)
            throws IndexOutOfBoundsException, IllegalArgumentException, UnsupportedOperationException {
        Reel target = reelNumbered(reel);
        Reel source = reelNumbered(other);
        if (target == source || target.film != source.film) {
            throw new IllegalArgumentException("the same reel, or of two films");
        }
        if (!canBeJoined(target, source)) {
            throw new UnsupportedOperationException("empty, or out of order");
        }
        requireNotLent(target.film);
        int moved = source.row.size();
        for (int i = 0; i < moved; i++) {
            target.append(source.row.get(i));
        }
        source.row.clear();
        return target.row.size();
    }

    public int shots(int film) throws IndexOutOfBoundsException {
        return filmNumbered(film).row.size();
    }

    public int shotOf(int film, int place) throws IndexOutOfBoundsException {
        Film home = filmNumbered(film);
        if (place < 0 || place >= home.row.size()) {
            throw new IndexOutOfBoundsException("no such place");
        }
        return home.row.get(place).number;
    }

    public int lengthOf(int shot) throws IndexOutOfBoundsException {
        return shotNumbered(shot).length;
    }

    public int frameOf(int shot) throws IndexOutOfBoundsException, NoSuchElementException {
        Shot wanted = shotNumbered(shot);
        if (wanted.isMissing()) {
            throw new NoSuchElementException("the shot is missing");
        }
        return wanted.film.framesBefore(wanted.film.placeOf(wanted));
    }

    public int shotAt(int film, int frame) throws IndexOutOfBoundsException, NoSuchElementException {
        Film home = filmNumbered(film);
        if (frame < 0) {
            throw new NoSuchElementException("no such frame");
        }
        int end = 0;
        for (int i = 0; i < home.row.size(); i++) {
            Shot shot = home.row.get(i);
            end += shot.keptFrames();
            if (frame < end) {
                return shot.number;
            }
        }
        throw new NoSuchElementException("no such frame");
    }

    public int reelOf(int shot) throws IndexOutOfBoundsException {
        Reel home = shotNumbered(shot).reel;
        return home == null ? NONE : home.number;
    }

    // ---- runs, splices, scans

    public int setLimit(int limit) throws IllegalArgumentException, UnsupportedOperationException {
        if (limit < MIN_LIMIT || limit > MAX_LIMIT) {
            throw new IllegalArgumentException("no such limit");
        }
        if (!isWearWithin(limit) || (limit < this.limit && isAnyFilmLent())) {
            throw new UnsupportedOperationException("a splice has more, or a film is lent");
        }
        int before = this.limit;
        this.limit = limit;
        return before;
    }

    public int run(int reel) throws IndexOutOfBoundsException, UnsupportedOperationException {
        Reel target = reelNumbered(reel);
        if (!target.canTake(1, limit)) {
            throw new UnsupportedOperationException("a splice would be worn beyond the limit");
        }
        requireNotLent(target.film);
        play(target, 1);
        return target.greatestWear();
    }

    public int wear(int reel, int index) throws IndexOutOfBoundsException {
        return shotAheadOfSplice(reelNumbered(reel), index).wearBehind;
    }

    public int mend(int reel, int index) throws IndexOutOfBoundsException, UnsupportedOperationException {
        Reel target = reelNumbered(reel);
        Shot ahead = shotAheadOfSplice(target, index);
        if (ahead.length < 2) {
            throw new UnsupportedOperationException("the shot ahead has one frame");
        }
        requireNotLent(target.film);
        int before = ahead.wearBehind;
        ahead.wearBehind = 0;
        takeLastFrame(ahead);
        return before;
    }

    public int scan(int reel, int size)
            throws IndexOutOfBoundsException, IllegalArgumentException, UnsupportedOperationException {
        Reel target = reelNumbered(reel);
        if (size < 1 || size > MAX_SIZE) {
            throw new IllegalArgumentException("no such size");
        }
        if (target.row.isEmpty()) {
            throw new UnsupportedOperationException("the reel is empty");
        }
        requireNotLent(target.film);
        int all = 0;
        for (int i = 0; i < target.row.size(); i++) {
            int lost = framesLostAt(target, i);
            target.row.get(i).takeScan(size, lost);
            all += lost;
        }
        return all;
    }

    public int scanned(int shot) throws IndexOutOfBoundsException {
        return shotNumbered(shot).scanSize;
    }

    public int missed(int shot) throws IndexOutOfBoundsException {
        return shotNumbered(shot).missedFrames;
    }

    // ---- grades

    public int grade(int shot, int grade)
            throws IndexOutOfBoundsException, IllegalArgumentException, UnsupportedOperationException {
        Shot graded = shotNumbered(shot);
        if (grade < NONE || grade > MAX_GRADE) {
            throw new IllegalArgumentException("no such grade");
        }
        if (grade == NONE && graded.ownGrade == NONE) {
            throw new UnsupportedOperationException("no grade of its own");
        }
        int before = graded.currentGrade();
        graded.ownGrade = grade;
        graded.gradeSource = null;
        if (grade == NONE) {
            graded.film.dropGradesFrom(graded);
        }
        return before;
    }

    public int passOn(int shot) throws IndexOutOfBoundsException, UnsupportedOperationException {
        Shot source = shotNumbered(shot);
        if (source.ownGrade == NONE) {
            throw new UnsupportedOperationException("no grade of its own");
        }
        ArrayList<Shot> row = source.film.row;
        int count = 0;
        for (int i = 0; i < row.size(); i++) {
            Shot other = row.get(i);
            if (other != source && other.scene == source.scene && other.ownGrade == NONE) {
                other.gradeSource = source;
                count++;
            }
        }
        return count;
    }

    public int gradeOf(int shot) throws IndexOutOfBoundsException {
        return shotNumbered(shot).currentGrade();
    }

    public int gradeFrom(int shot) throws IndexOutOfBoundsException {
        Shot graded = shotNumbered(shot);
        if (graded.ownGrade != NONE) {
            return graded.number;
        }
        Shot source = graded.gradeSource;
        return source == null ? NONE : source.number;
    }

    // ---- versions and loans

    public int addVersion(int film, int country) throws IndexOutOfBoundsException,
            IllegalArgumentException, UnsupportedOperationException, IllegalStateException {
        Film home = filmNumbered(film);
        if (country < 0 || country > MAX_COUNTRY) {
            throw new IllegalArgumentException("no such country");
        }
        if (hasVersion(home, country)) {
            throw new UnsupportedOperationException("the country has a version");
        }
        if (versions.size() >= MAX_VERSIONS) {
            throw new IllegalStateException("no room for a version");
        }
        versions.add(new Version(home, country));
        return versions.size() - 1;
    }

    public int leaveOut(int version, int from, int to, boolean isOut)
            throws IndexOutOfBoundsException, IllegalArgumentException {
        Version cut = versionNumbered(version);
        if (from < 0 || to <= from || to > cut.film.frameCount()) {
            throw new IllegalArgumentException("no such frames");
        }
        ArrayList<Shot> row = cut.film.row;
        int changed = 0;
        int first = 0;
        for (int i = 0; i < row.size(); i++) {
            Shot shot = row.get(i);
            int kept = shot.keptFrames();
            changed += cut.mark(shot, Math.max(from - first, 0), Math.min(to - first, kept), isOut);
            first += kept;
        }
        return changed;
    }

    public int frames(int version) throws IndexOutOfBoundsException {
        return versionNumbered(version).lengthByShots();
    }

    public int lend(int version, int runs, int heat, int days) throws IndexOutOfBoundsException,
            IllegalArgumentException, UnsupportedOperationException, IllegalStateException {
        Film film = versionNumbered(version).film;
        if (runs < 1 || runs > MAX_RUNS || heat < 0 || heat > MAX_HEAT || days < 1 || days > MAX_DAYS) {
            throw new IllegalArgumentException("a number is out of range");
        }
        requireNotLent(film);
        if (!canFilmTake(film, runs * (1 + heat))) {
            throw new UnsupportedOperationException("a splice would be worn beyond the limit");
        }
        if (loans.size() >= MAX_LOANS) {
            throw new IllegalStateException("no room for a loan");
        }
        loans.add(new Loan(film, runs, 1 + heat, day + days));
        film.isLent = true;
        return loans.size() - 1;
    }

    public int show(int loan) throws IndexOutOfBoundsException, UnsupportedOperationException {
        Loan shown = loanNumbered(loan);
        if (shown.isBack || shown.runsLeft <= 0) {
            throw new UnsupportedOperationException("given back, or no run left");
        }
        for (int i = 0; i < reels.size(); i++) {
            Reel reel = reels.get(i);
            if (reel.film == shown.film) {
                play(reel, shown.wearPerRun);
            }
        }
        shown.runsLeft--;
        return shown.runsLeft;
    }

    public int giveBack(int loan) throws IndexOutOfBoundsException, UnsupportedOperationException {
        Loan ended = loanNumbered(loan);
        if (ended.isBack) {
            throw new UnsupportedOperationException("given back before");
        }
        ended.isBack = true;
        ended.film.isLent = false;
        return Math.max(day - ended.dueDay, 0);
    }

    public int advance(int days) throws IllegalArgumentException {
        if (days < 1 || days > MAX_DAYS) {
            throw new IllegalArgumentException("no such number of days");
        }
        day += days;
        int late = 0;
        for (int i = 0; i < loans.size(); i++) {
            Loan loan = loans.get(i);
            if (!loan.isBack && day > loan.dueDay) {
                late++;
            }
        }
        return late;
    }

    // ---- figures

    public long shown() {
        return framesShown;
    }

    public float keptShare() throws ArithmeticException {
        int all = allShots.size();
        if (all == 0) {
            throw new ArithmeticException("no shots");
        }
        int kept = 0;
        for (int i = 0; i < all; i++) {
            if (!allShots.get(i).isMissing()) {
                kept++;
            }
        }
        return (float) kept / (float) all;
    }

    public double meanWear() throws ArithmeticException {
        int sum = 0;
        int count = 0;
        for (int i = 0; i < reels.size(); i++) {
            Reel reel = reels.get(i);
            sum += reel.wearSum();
            count += reel.spliceCount();
        }
        if (count == 0) {
            throw new ArithmeticException("no splices");
        }
        return (double) sum / (double) count;
    }

    public boolean isSound() {
        return isWearWithin(limit) && arePassedGradesSound() && areVersionLengthsSound();
    }

    // ---- finding by number

    private Film filmNumbered(int number) {
        if (number < 0 || number >= films.size()) {
            throw new IndexOutOfBoundsException("no such film");
        }
        return films.get(number);
    }

    private Shot shotNumbered(int number) {
        if (number < 0 || number >= allShots.size()) {
            throw new IndexOutOfBoundsException("no such shot");
        }
        return allShots.get(number);
    }

    private Reel reelNumbered(int number) {
        if (number < 0 || number >= reels.size()) {
            throw new IndexOutOfBoundsException("no such reel");
        }
        return reels.get(number);
    }

    private Version versionNumbered(int number) {
        if (number < 0 || number >= versions.size()) {
            throw new IndexOutOfBoundsException("no such version");
        }
        return versions.get(number);
    }

    private Loan loanNumbered(int number) {
        if (number < 0 || number >= loans.size()) {
            throw new IndexOutOfBoundsException("no such loan");
        }
        return loans.get(number);
    }

    private Shot shotAheadOfSplice(Reel reel, int index) {
        if (index < 0 || index >= reel.spliceCount()) {
            throw new IndexOutOfBoundsException("no such splice");
        }
        return reel.row.get(index);
    }

    // ---- what must hold before a change

    private void requireLengthAndScene(int length, int scene) {
        if (length < 1 || length > MAX_LENGTH || scene < 0 || scene > MAX_SCENE) {
            throw new IllegalArgumentException("a number is out of range");
        }
    }

    private void requireNotLent(Film film) {
        if (film.isLent) {
            throw new UnsupportedOperationException("the film is lent");
        }
    }

    private boolean isAnyFilmLent() {
        for (int i = 0; i < films.size(); i++) {
            if (films.get(i).isLent) {
                return true;
            }
        }
        return false;
    }

    private boolean isAheadOfEnd(Shot shot, Reel reel) {
        int count = reel.row.size();
        if (count == 0) {
            return false;
        }
        return shot.film.placeOf(shot) < shot.film.placeOf(reel.row.get(count - 1));
    }

    private boolean canBeJoined(Reel target, Reel source) {
        if (target.row.isEmpty() || source.row.isEmpty()) {
            return false;
        }
        return !isAheadOfEnd(source.row.get(0), target);
    }

    private boolean canFilmTake(Film film, int added) {
        for (int i = 0; i < reels.size(); i++) {
            Reel reel = reels.get(i);
            if (reel.film == film && !reel.canTake(added, limit)) {
                return false;
            }
        }
        return true;
    }

    private boolean hasVersion(Film film, int country) {
        for (int i = 0; i < versions.size(); i++) {
            Version version = versions.get(i);
            if (version.film == film && version.country == country) {
                return true;
            }
        }
        return false;
    }

    // ---- changes that several calls share

    private Shot newShot(Film film, int length, int scene) {
        Shot shot = new Shot(film, allShots.size(), length, scene);
        allShots.add(shot);
        return shot;
    }

    private Reel newReel(Film film) {
        Reel reel = new Reel(film, reels.size());
        reels.add(reel);
        return reel;
    }

    private void play(Reel reel, int wear) {
        reel.addWear(wear);
        framesShown += reel.frameCount();
    }

    private void takeLastFrame(Shot shot) {
        for (int i = 0; i < versions.size(); i++) {
            Version version = versions.get(i);
            if (version.film == shot.film) {
                version.mark(shot, shot.length - 1, shot.length, false);
            }
        }
        shot.length--;
        shot.missedFrames = Math.min(shot.missedFrames, shot.length);
    }

    private int framesLostAt(Reel reel, int place) {
        int lost = 0;
        if (isWorn(reel, place - 1)) {
            lost++;
        }
        if (isWorn(reel, place)) {
            lost++;
        }
        // The last and the first frame of a shot of one frame are the same one.
        return Math.min(lost, reel.row.get(place).length);
    }

    private boolean isWorn(Reel reel, int splice) {
        // Doubled, so that half of an odd limit is not rounded.
        return splice >= 0 && splice < reel.spliceCount() && 2 * reel.row.get(splice).wearBehind >= limit;
    }

    // ---- soundness

    private boolean isWearWithin(int most) {
        for (int i = 0; i < reels.size(); i++) {
            if (!reels.get(i).canTake(0, most)) {
                return false;
            }
        }
        return true;
    }

    private boolean arePassedGradesSound() {
        for (int i = 0; i < allShots.size(); i++) {
            Shot shot = allShots.get(i);
            Shot source = shot.gradeSource;
            if (source != null && !source.canHavePassedTo(shot)) {
                return false;
            }
        }
        return true;
    }

    private boolean areVersionLengthsSound() {
        for (int i = 0; i < versions.size(); i++) {
            Version version = versions.get(i);
            if (version.lengthByShots() != version.lengthByFrames()) {
                return false;
            }
        }
        return true;
    }

    private static final class Film {
        final ArrayList<Shot> row = new ArrayList<>();
        boolean isLent;

        int placeOf(Shot shot) {
            for (int i = 0; i < row.size(); i++) {
                if (row.get(i) == shot) {
                    return i;
                }
            }
            return NONE;
        }

        int framesBefore(int place) {
            int count = 0;
            for (int i = 0; i < place && i < row.size(); i++) {
                count += row.get(i).keptFrames();
            }
            return count;
        }

        int frameCount() {
            return framesBefore(row.size());
        }

        void dropGradesFrom(Shot source) {
            for (int i = 0; i < row.size(); i++) {
                Shot shot = row.get(i);
                if (shot.gradeSource == source) {
                    shot.gradeSource = null;
                }
            }
        }
    }

    private static final class Shot {
        final Film film;
        final int number;
        final int scene;
        int length;
        Reel reel;
        // A splice is kept with the shot ahead of it, so that it goes along when reels are joined.
        int wearBehind;
        int scanSize;
        int missedFrames;
        int ownGrade = NONE;
        Shot gradeSource;

        Shot(Film film, int number, int length, int scene) {
            this.film = film;
            this.number = number;
            this.length = length;
            this.scene = scene;
        }

        boolean isMissing() {
            return reel == null;
        }

        int keptFrames() {
            return reel == null ? 0 : length;
        }

        void takeScan(int size, int lost) {
            if (size >= scanSize) {
                scanSize = size;
                missedFrames = lost;
            }
        }

        int currentGrade() {
            if (ownGrade != NONE) {
                return ownGrade;
            }
            return gradeSource == null ? NONE : gradeSource.ownGrade;
        }

        boolean canHavePassedTo(Shot other) {
            return ownGrade != NONE && other.currentGrade() == ownGrade
                    && film == other.film && scene == other.scene;
        }
    }

    private static final class Reel {
        final Film film;
        final int number;
        final ArrayList<Shot> row = new ArrayList<>();

        Reel(Film film, int number) {
            this.film = film;
            this.number = number;
        }

        void append(Shot shot) {
            row.add(shot);
            shot.reel = this;
        }

        int spliceCount() {
            return Math.max(row.size() - 1, 0);
        }

        int frameCount() {
            int count = 0;
            for (int i = 0; i < row.size(); i++) {
                count += row.get(i).length;
            }
            return count;
        }

        boolean canTake(int added, int most) {
            for (int i = 0; i < row.size() - 1; i++) {
                if (row.get(i).wearBehind + added > most) {
                    return false;
                }
            }
            return true;
        }

        void addWear(int added) {
            for (int i = 0; i < row.size() - 1; i++) {
                row.get(i).wearBehind += added;
            }
        }

        int greatestWear() {
            int greatest = 0;
            for (int i = 0; i < row.size() - 1; i++) {
                greatest = Math.max(greatest, row.get(i).wearBehind);
            }
            return greatest;
        }

        int wearSum() {
            int sum = 0;
            for (int i = 0; i < row.size() - 1; i++) {
                sum += row.get(i).wearBehind;
            }
            return sum;
        }
    }

    private static final class Version {
        final Film film;
        final int country;
        // Kept by shot and frame of the shot, so that frames coming in ahead move nothing.
        final long[] out = new long[MAX_SHOTS * SHOT_WORDS];

        Version(Film film, int country) {
            this.film = film;
            this.country = country;
        }

        int mark(Shot shot, int from, int to, boolean isOut) {
            int changed = 0;
            for (int i = 0; i < SHOT_WORDS; i++) {
                int at = shot.number * SHOT_WORDS + i;
                long span = bitsBetween(from - i * WORD_BITS, to - i * WORD_BITS);
                if (at >= 0 && at < out.length) {
                    long other = span & (isOut ? ~out[at] : out[at]);
                    out[at] ^= other;
                    changed += Long.bitCount(other);
                }
            }
            return changed;
        }

        static long bitsBetween(int from, int to) {
            int low = Math.max(from, 0);
            int high = Math.min(to, WORD_BITS);
            return low >= high ? 0L : (-1L << low) & (-1L >>> (WORD_BITS - high));
        }

        int leftOutOf(Shot shot) {
            int count = 0;
            for (int i = 0; i < SHOT_WORDS; i++) {
                int at = shot.number * SHOT_WORDS + i;
                if (at >= 0 && at < out.length) {
                    count += Long.bitCount(out[at]);
                }
            }
            return count;
        }

        boolean isLeftOut(Shot shot, int frame) {
            int at = shot.number * SHOT_WORDS + frame / WORD_BITS;
            return at >= 0 && at < out.length && ((out[at] >>> (frame % WORD_BITS)) & 1L) != 0L;
        }

        int lengthByShots() {
            int count = 0;
            for (int i = 0; i < film.row.size(); i++) {
                Shot shot = film.row.get(i);
                count += shot.keptFrames() - leftOutOf(shot);
            }
            return count;
        }

        int lengthByFrames() {
            int count = 0;
            for (int i = 0; i < film.row.size(); i++) {
                Shot shot = film.row.get(i);
                int kept = shot.keptFrames();
                for (int frame = 0; frame < kept; frame++) {
                    if (!isLeftOut(shot, frame)) {
                        count++;
                    }
                }
            }
            return count;
        }
    }

    private static final class Loan {
        final Film film;
        final int wearPerRun;
        final int dueDay;
        int runsLeft;
        boolean isBack;

        Loan(Film film, int runs, int wearPerRun, int dueDay) {
            this.film = film;
            this.runsLeft = runs;
            this.wearPerRun = wearPerRun;
            this.dueDay = dueDay;
        }
    }
}
