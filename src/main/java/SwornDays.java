import java.util.NoSuchElementException;

/** A country of persons under vows, told as texts and lived day by day; see DOC.md for its promises. */
public final class SwornDays {
    public static final int NONE = -1;
    public static final int HIDDEN = -1000000;

    private static final int PERSONS = 5;
    private static final int PLACES = 12;
    private static final int DEEDS = 8;
    private static final int EYES = 8;
    private static final int EYE_CELLS = 4;
    private static final int VOWS = 12;
    private static final int VOW_CELLS = 6;
    private static final int TASTES = 4;
    private static final int ROWS = 6;
    private static final int SEEN_DAYS = 8;
    private static final int BYTES = 240;
    private static final int ACTS = 40;
    private static final int MOST_DAYS = 60;
    private static final int LONGEST = 5;
    private static final int SENTENCE_LONGEST = 3;
    private static final int MOST_PROMISES = 240;

    // The cells of a vow stand in the order in which vow(..) tells them.
    private static final int WHOSE = 0;
    private static final int KIND = 1;
    private static final int A = 2;
    private static final int B = 3;
    private static final int N = 4;
    private static final int TERM = 5;

    private static final int NEVER = 0;
    private static final int OFTEN = 1;
    private static final int NOT_AHEAD = 2;
    private static final int FOLLOWED = 3;
    private static final int SELDOM = 4;
    private static final int NOT_BEHIND = 5;
    private static final int LAST_PLAIN_KIND = 5;
    private static final int SAYS_BROKEN = 7;

    // The cells of an eye stand in the order in which eye(..) tells them.
    private static final int WATCHED = 1;
    private static final int FROM = 2;
    private static final int TO = 3;

    private static final int KEPT = 0;
    private static final int BROKEN = 1;
    private static final int STRUCK = 2;
    private static final int PARADOX = 3;

    private static final int TALLIES = 4;
    private static final int SEEN_TALLY = 2;
    private static final int STRUCK_TALLY = 3;
    private static final int LOG_DAYS = 60;
    // 60 days are shown and 40 more may come back by undo: 100 must be held.
    private static final int HELD_DAYS = 128;

    private static final int LONGEST_TERM = 999;
    private static final int MOST_JOY = 9999;
    private static final int MOST_LENGTH = 99;

    private static final int COUNTRY_SORT = 0;
    private static final int TASTE_SORT = 1;
    private static final int ROW_SORT = 2;

    private final Tape tape = new Tape();
    private final CountryReader countryReader = new CountryReader(tape);
    private final Tastes tastes = new Tastes();
    private final TasteReader tasteReader = new TasteReader(tape, tastes);
    private Country country = new Country();
    private Country draft = new Country();
    private final Past past = new Past();
    private final int[] diary = new int[HELD_DAYS * TALLIES];
    private final State imageState = new State();
    private final int[] imageDiary = new int[HELD_DAYS * TALLIES];
    private boolean imaged = false;
    private final State trial = new State();
    private final int[] trialRow = new int[PLACES];
    private final Judge judge = new Judge();
    private final Told told = new Told();
    private final Search search = new Search();
    private int temptedBelow = 0;

    public SwornDays() {
    }

    // ---- texts

    public int feed(int a, int b, int c, int d, int e) {
        int more = bytesOf(a) + bytesOf(b) + bytesOf(c) + bytesOf(d) + bytesOf(e);
        if (tape.size + more > BYTES) {
            return NONE;
        }
        tape.put(a);
        tape.put(b);
        tape.put(c);
        tape.put(d);
        tape.put(e);
        return tape.size;
    }

    public boolean end(int n) {
        if (n < 0 || n > tape.size) {
            return false;
        }
        tape.size = n;
        return true;
    }

    public int fault(int sort) {
        switch (sort) {
            case COUNTRY_SORT:
                return countryReader.read(draft);
            case TASTE_SORT:
                return tasteReader.read();
            case ROW_SORT:
                return told.read(tape);
            default:
                return -2;
        }
    }

    public int text(int sort) {
        if (sort < COUNTRY_SORT || sort > ROW_SORT
                || sort == TASTE_SORT && tastes.total >= TASTES
                || sort == ROW_SORT && told.total >= ROWS
                || fault(sort) != NONE) {
            return NONE;
        }
        tape.size = 0;
        if (sort == COUNTRY_SORT) {
            return settleIn();
        }
        if (sort == TASTE_SORT) {
            tastes.total++;
            return tastes.total - 1;
        }
        told.total++;
        return told.total - 1;
    }

    // The draft that was read becomes the country; the old one serves as the next draft.
    private int settleIn() {
        Country old = country;
        country = draft;
        draft = old;
        past.forget();
        told.seenTotal = 0;
        imaged = false;
        return country.persons;
    }

    // ---- what is told

    public int person(int person, int what) throws NoSuchElementException {
        if (!isPerson(person) || what < 0) {
            throw new NoSuchElementException("no such person");
        }
        State now = country.now;
        if (what == 0) {
            return country.wants[person] < DEEDS ? country.wants[person] : NONE;
        }
        if (what == 1) {
            return now.slips[person];
        }
        if (what == 2) {
            return now.sizes[person];
        }
        if (what - 3 >= now.sizes[person]) {
            throw new NoSuchElementException("no such place");
        }
        return now.deeds[person * PLACES + what - 3];
    }

    public int deed(int deed, int what) {
        if (!isCountry() || !isDeed(deed)) {
            return NONE;
        }
        if (what == 0) {
            return country.joys[deed];
        }
        return what == 1 ? country.harms[deed] : NONE;
    }

    public int vow(int vow, int what) {
        if (!isVow(vow) || what < 0 || what >= VOW_CELLS) {
            return NONE;
        }
        return country.now.vows[vow * VOW_CELLS + what];
    }

    public int eye(int eye, int what) {
        if (eye < 0 || eye >= country.eyeTotal || what < 0 || what >= EYE_CELLS) {
            return NONE;
        }
        return country.eyes[eye * EYE_CELLS + what];
    }

    public int row(int row, int i) {
        if (!isRow(row) || i < NONE || i >= told.sizes[row]) {
            return NONE;
        }
        return i == NONE ? told.sizes[row] : told.deeds[row * PLACES + i];
    }

    public boolean taste(int taste) {
        if (taste < NONE || taste >= tastes.total) {
            return false;
        }
        tastes.holding = taste;
        return true;
    }

    public boolean tempted(int v) {
        if (v < 0 || v > 99 || v == temptedBelow) {
            return false;
        }
        temptedBelow = v;
        return true;
    }

    public int broken(int row, int vow) {
        if (!isRow(row) || !isVow(vow) || country.now.isAboutVow(vow)) {
            return HIDDEN;
        }
        return placeBroken(country.now.vows, vow * VOW_CELLS, told.deeds, row * PLACES, told.sizes[row]);
    }

    public int fares(int vow) {
        if (!country.now.inForce(vow)) {
            return NONE;
        }
        judge.setRows(country.now);
        judge.decide(country.now);
        return judge.fates[vow];
    }

    // ---- acts

    public int lives(int person, int row) {
        if (!isPerson(person) || !isRow(row)) {
            return NONE;
        }
        State now = country.now;
        past.keep(now);
        now.sizes[person] = told.sizes[row];
        System.arraycopy(told.deeds, row * PLACES, now.deeds, person * PLACES, told.sizes[row]);
        return past.total;
    }

    public int change(int person, int place, int deed) {
        if (!isPerson(person) || place < 0 || place >= country.now.sizes[person] || !isDeed(deed)) {
            return NONE;
        }
        State now = country.now;
        int at = person * PLACES + place;
        if (now.deeds[at] == deed) {
            return NONE;
        }
        past.keep(now);
        now.deeds[at] = deed;
        return past.total;
    }

    public int swear(int person, int what, int term) {
        State now = country.now;
        if (!isPerson(person) || !isPlainVow(what) || term < 1 || term > 99 || now.sworn >= VOWS) {
            return NONE;
        }
        past.keep(now);
        int at = now.sworn * VOW_CELLS;
        now.vows[at + WHOSE] = person;
        putVow(now.vows, at, what);
        now.vows[at + TERM] = term;
        now.sworn++;
        return now.sworn - 1;
    }

    public boolean pardon(int vow) {
        State now = country.now;
        if (!now.inForce(vow)) {
            return false;
        }
        past.keep(now);
        now.vows[vow * VOW_CELLS + TERM] = 0;
        return true;
    }

    public int amnesty() {
        if (!isCountry()) {
            return NONE;
        }
        State now = country.now;
        past.keep(now);
        for (int v = 0; v < now.sworn; v++) {
            int at = v * VOW_CELLS + TERM;
            now.vows[at] = (now.vows[at] + 1) / 2;
        }
        return now.inForceTotal();
    }

    public int days(int n) {
        if (!isCountry() || n < 1 || n > MOST_DAYS) {
            return NONE;
        }
        for (int i = 0; i < n; i++) {
            judge.setRows(country.now);
            passDay();
        }
        return country.now.day;
    }

    public int decades(int n, long seed) {
        if (!isCountry() || n < 1 || n > MOST_DAYS) {
            return NONE;
        }
        judge.x = seed;
        for (int i = 0; i < n; i++) {
            judge.setRows(country.now);
            judge.tempt(country, temptedBelow);
            passDay();
        }
        return country.now.day;
    }

    private void passDay() {
        State now = country.now;
        past.keep(now);
        judge.decide(now);
        judge.carryOut(country, now);
        System.arraycopy(judge.tallies, 0, diary, now.day % HELD_DAYS * TALLIES, TALLIES);
        now.day++;
    }

    public int undo() {
        return past.bringBack(country.now) ? past.total : NONE;
    }

    public int log(int i, int what) {
        if (i < 0 || i >= logDays() || what < 0 || what >= TALLIES) {
            return NONE;
        }
        int day = country.now.day - 1 - i;
        return diary[day % HELD_DAYS * TALLIES + what];
    }

    // Each day writes one entry, so the day tells how many there are.
    private int logDays() {
        return country.now.day < LOG_DAYS ? country.now.day : LOG_DAYS;
    }

    // ---- rows under vows

    public int can(int person, int l, int i) {
        return loopholes(person, l, 0, i);
    }

    public int strike(int person, int l) {
        if (!isPerson(person) || !isLength(l)) {
            return NONE;
        }
        search.clear(country);
        search.addVowsOf(country.now, person);
        return search.leastStruck(l);
    }

    public int together(int one, int other, int l) {
        if (!isPerson(one) || !isPerson(other) || !isLength(l)) {
            return NONE;
        }
        search.clear(country);
        search.addVowsOf(country.now, one);
        if (other != one) {
            search.addVowsOf(country.now, other);
        }
        search.run(l, 0, NONE);
        return search.found;
    }

    public int joy(int person, int row) {
        if (!isPerson(person) || !isRow(row)) {
            return HIDDEN;
        }
        return tastes.joyOf(country, person, told.deeds, row * PLACES, told.sizes[row]);
    }

    public int best(int person, int l, int what) {
        if (!isPerson(person) || !isLength(l) || what < 0 || what > 1) {
            return HIDDEN;
        }
        search.clear(country);
        search.addVowsOf(country.now, person);
        search.weigh(country, tastes, person);
        search.run(l, 0, NONE);
        if (search.found == 0) {
            return HIDDEN;
        }
        return what == 0 ? search.bestRow : search.bestJoy;
    }

    public int cost(int person, int l) {
        int under = best(person, l, 1);
        if (under == HIDDEN) {
            return HIDDEN;
        }
        search.clear(country);
        search.run(l, 0, NONE);
        return search.bestJoy - under;
    }

    public int sentence(int person, int deed, int l, int what) {
        if (!isPerson(person) || !isDeed(deed) || l < 1 || l > SENTENCE_LONGEST || what < 0 || what > 1) {
            return HIDDEN;
        }
        // Every row without the deed keeps "never this deed", so no vow leaves a better one than that; and of those
        // that leave one as good, the least number is such a vow, of this deed or of a lower one.
        search.weigh(country, tastes, person);
        int chosen = NONE;
        int most = 0;
        for (int a = 0; a <= deed; a++) {
            search.clear(country);
            search.addVow(100 * a);
            search.run(l, 0, NONE);
            if (!hasDeed(search.bestRow, l, deed) && (chosen == NONE || search.bestJoy > most)) {
                chosen = 100 * a;
                most = search.bestJoy;
            }
        }
        return what == 0 ? chosen : most;
    }

    private static boolean hasDeed(int row, int l, int deed) {
        int rest = row;
        for (int i = 0; i < l; i++) {
            if (rest % 10 == deed) {
                return true;
            }
            rest /= 10;
        }
        return false;
    }

    public int loopholes(int person, int l, int h, int i) {
        if (!isPerson(person) || !isLength(l) || h < 0 || h > 99 || i < NONE) {
            return NONE;
        }
        search.clear(country);
        search.addVowsOf(country.now, person);
        search.run(l, h, i);
        return i == NONE ? search.found : search.wantedRow;
    }

    public int harm(int row) {
        if (!isCountry() || !isRow(row)) {
            return NONE;
        }
        int sum = 0;
        for (int i = 0; i < told.sizes[row]; i++) {
            sum += country.harms[told.deeds[row * PLACES + i]];
        }
        return sum;
    }

    // ---- eyes and places

    public int safe(int person) {
        if (!isPerson(person)) {
            return NONE;
        }
        int all = (1 << country.now.sizes[person]) - 1;
        return all & ~country.watchedPlaces(person);
    }

    public int cover(int person) {
        if (!isPerson(person)) {
            return NONE;
        }
        int all = country.watchedPlaces(person);
        int fewest = NONE;
        // By rising numbers, so that of several the least stays.
        for (int set = 0; set < 1 << country.eyeTotal; set++) {
            if (country.placesOf(set, person) == all
                    && (fewest == NONE || Integer.bitCount(set) < Integer.bitCount(fewest))) {
                fewest = set;
            }
        }
        return fewest;
    }

    public int bold(int person, int c, int what) {
        if (!isPerson(person) || country.wants[person] >= DEEDS || c < 0 || c > 99 || what < 0 || what > 1) {
            return HIDDEN;
        }
        int bestPlace = NONE;
        int most = 0;
        for (int i = 0; i < country.now.sizes[person]; i++) {
            int much = joyWithWant(person, i);
            if (country.isWatched(person, i)) {
                much -= c;
            }
            if (bestPlace == NONE || much > most) {
                bestPlace = i;
                most = much;
            }
        }
        return what == 0 ? bestPlace : most;
    }

    private int joyWithWant(int person, int place) {
        int size = country.now.sizes[person];
        System.arraycopy(country.now.deeds, person * PLACES, trialRow, 0, size);
        trialRow[place] = country.wants[person];
        return tastes.joyOf(country, person, trialRow, 0, size);
    }

    public int fails(int person, int what) {
        if (!isPerson(person) || what < 0 || what > 1) {
            return NONE;
        }
        int first = NONE;
        int where = NONE;
        for (int v = 0; v < country.now.sworn; v++) {
            int place = placeBrokenNow(person, v);
            if (place != NONE && (first == NONE || place < where)) {
                first = v;
                where = place;
            }
        }
        return what == 0 ? first : where;
    }

    // Where the person's own row breaks the vow; NONE also for a vow that does not bind it.
    private int placeBrokenNow(int person, int vow) {
        State now = country.now;
        if (!now.binds(vow, person)) {
            return NONE;
        }
        return placeBroken(now.vows, vow * VOW_CELLS, now.deeds, person * PLACES, now.sizes[person]);
    }

    public int length(int person) {
        if (!isPerson(person)) {
            return NONE;
        }
        trial.copyFrom(country.now);
        judge.setRows(trial);
        for (int day = 0; day < MOST_LENGTH; day++) {
            if (trial.isFree(person)) {
                return day;
            }
            judge.decide(trial);
            judge.carryOut(country, trial);
        }
        return trial.isFree(person) ? MOST_LENGTH : NONE;
    }

    // ---- promises guessed from seen days

    public int see(int person, int row) {
        if (!isPerson(person) || !isRow(row) || told.seenTotal >= SEEN_DAYS) {
            return NONE;
        }
        told.seenPersons[told.seenTotal] = person;
        told.seenRows[told.seenTotal] = row;
        told.seenTotal++;
        return told.seenTotal;
    }

    public int promised(int person, int i) {
        if (!isPerson(person) || i < NONE) {
            return NONE;
        }
        told.gather(person);
        if (i == NONE) {
            return told.promises;
        }
        return i < told.promises ? told.numbers[i] : NONE;
    }

    public int tells(int person, int row) {
        if (!isPerson(person) || !isRow(row)) {
            return NONE;
        }
        told.gather(person);
        return told.brokenPromises(row);
    }

    public int tempting(int person) {
        if (!isPerson(person)) {
            return NONE;
        }
        told.gather(person);
        int nearest = NONE;
        int least = 0;
        for (int row = 0; row < told.total; row++) {
            int apart = Math.abs(told.promises - 2 * told.brokenPromises(row));
            if (nearest == NONE || apart < least) {
                nearest = row;
                least = apart;
            }
        }
        return nearest;
    }

    // ---- the whole country

    public int huts(int i) {
        if (!isCountry() || i < NONE) {
            return NONE;
        }
        int found = 0;
        for (int lower = 0; lower < country.persons; lower++) {
            for (int other = lower + 1; other < country.persons; other++) {
                if (!country.now.clash(lower, other)) {
                    continue;
                }
                if (found == i) {
                    return 10 * lower + other;
                }
                found++;
            }
        }
        return i == NONE ? found : NONE;
    }

    public int easy() {
        if (!isCountry()) {
            return NONE;
        }
        int bits = 0;
        for (int person = 0; person < country.persons; person++) {
            if (fails(person, 0) == NONE) {
                bits |= 1 << person;
            }
        }
        return bits;
    }

    public int left(int person) {
        if (!isPerson(person)) {
            return NONE;
        }
        return country.now.termsOf(person);
    }

    // ---- images and counts

    public int image() {
        if (!isCountry()) {
            return NONE;
        }
        imageState.copyFrom(country.now);
        System.arraycopy(diary, 0, imageDiary, 0, diary.length);
        imaged = true;
        return country.now.day;
    }

    public int back() {
        if (!imaged) {
            return NONE;
        }
        country.now.copyFrom(imageState);
        System.arraycopy(imageDiary, 0, diary, 0, diary.length);
        past.forget();
        return country.now.day;
    }

    public int count(int what) {
        switch (what) {
            case 0: return country.persons;
            case 1: return country.now.sworn;
            case 2: return country.eyeTotal;
            case 3: return tastes.total;
            case 4: return told.total;
            case 5: return tape.size;
            case 6: return tastes.holding;
            case 7: return country.now.day;
            case 8: return temptedBelow;
            case 9: return told.seenTotal;
            case 10: return logDays();
            case 11: return past.total;
            case 12: return country.now.inForceTotal();
            default: return HIDDEN;
        }
    }

    // ---- tests of arguments

    private boolean isCountry() {
        return country.persons > 0;
    }

    private boolean isPerson(int person) {
        return person >= 0 && person < country.persons;
    }

    private boolean isRow(int row) {
        return row >= 0 && row < told.total;
    }

    private boolean isVow(int vow) {
        return vow >= 0 && vow < country.now.sworn;
    }

    private static boolean isDeed(int deed) {
        return deed >= 0 && deed < DEEDS;
    }

    private static boolean isLength(int l) {
        return l >= 1 && l <= LONGEST;
    }

    private static int bytesOf(int word) {
        int bytes = 0;
        for (int shift = 24; shift >= 0; shift -= 8) {
            if ((word >>> shift & 255) != 0) {
                bytes++;
            }
        }
        return bytes;
    }

    // ---- vows as numbers (1,000 times the kind, 100 times a, 10 times b, and n) and what breaks them

    private static boolean isPlainVow(int number) {
        return number >= 0 && number / 1000 <= LAST_PLAIN_KIND
                && isDeed(number / 100 % 10) && isDeed(number / 10 % 10);
    }

    private static void putVow(int[] vows, int at, int number) {
        vows[at + KIND] = number / 1000;
        vows[at + A] = number / 100 % 10;
        vows[at + B] = number / 10 % 10;
        vows[at + N] = number % 10;
    }

    /**
     * Whether a deed, coming behind the deed "before" (NONE: first in its row) and behind so many of a and b, breaks
     * the vow just there. One deed at a time, so that a search need not look at a row's beginning again.
     */
    private static boolean breaks(int[] vows, int at, int before, int deed, int doneA, int doneB, boolean last) {
        int a = vows[at + A];
        int b = vows[at + B];
        switch (vows[at + KIND]) {
            case NEVER:
                return deed == a;
            case OFTEN:
                return last && doneA + (deed == a ? 1 : 0) < vows[at + N];
            case NOT_AHEAD:
                return deed == a && deed != b && doneB == 0;
            case FOLLOWED:
                return before == a && deed != b || last && deed == a;
            case SELDOM:
                return deed == a && doneA >= vows[at + N];
            case NOT_BEHIND:
                return deed == a && before == b;
            default:
                return false;
        }
    }

    private static int placeBroken(int[] vows, int at, int[] deeds, int from, int size) {
        int before = NONE;
        int doneA = 0;
        int doneB = 0;
        for (int i = 0; i < size; i++) {
            int deed = deeds[from + i];
            if (breaks(vows, at, before, deed, doneA, doneB, i == size - 1)) {
                return i;
            }
            if (deed == vows[at + A]) {
                doneA++;
            }
            if (deed == vows[at + B]) {
                doneB++;
            }
            before = deed;
        }
        return NONE;
    }

    private static int within(int value, int most) {
        if (value > most) {
            return most;
        }
        return value < -most ? -most : value;
    }

    // ---- the tape and what reads it

    /** The tape, and a cursor over it: whoever reads and fails leaves the cursor on the fault. */
    private static final class Tape {
        static final int END = -1;
        private static final int BLANK = 32;

        final int[] bytes = new int[BYTES];
        int size = 0;
        int at = 0;

        void put(int word) {
            for (int shift = 24; shift >= 0; shift -= 8) {
                int sign = word >>> shift & 255;
                if (sign != 0 && size < BYTES) {
                    bytes[size] = sign;
                    size++;
                }
            }
        }

        int peek() {
            while (at < size && bytes[at] == BLANK) {
                at++;
            }
            return at < size ? bytes[at] : END;
        }

        boolean take(char sign) {
            if (peek() != sign) {
                return false;
            }
            at++;
            return true;
        }

        boolean atDigit() {
            return at < size && bytes[at] >= '0' && bytes[at] <= '9';
        }

        // NONE: no such number.
        int readNumber(int digits, int least, int most) {
            peek();
            if (!atDigit()) {
                return NONE;
            }
            int value = 0;
            for (int i = 0; i < digits && atDigit(); i++) {
                value = value * 10 + bytes[at] - '0';
                at++;
            }
            if (atDigit()) {
                return NONE;
            }
            if (value < least || value > most) {
                at--;
                return NONE;
            }
            return value;
        }

        // How many letters there are; NONE: none, or too many.
        int readRow(int[] deeds, int from) {
            for (int i = 0; i < PLACES; i++) {
                if (!atRowLetter()) {
                    return i == 0 ? NONE : i;
                }
                deeds[from + i] = bytes[at] - 'a';
                at++;
            }
            return atRowLetter() ? NONE : PLACES;
        }

        private boolean atRowLetter() {
            int sign = peek();
            return sign >= 'a' && sign <= 'h';
        }
    }

    /** Reads a country from the tape. */
    private static final class CountryReader {
        private static final int SORTS = 4;
        private static final int ITEMS = 6;
        private static final int PERSON = 0;
        private static final int DEED = 1;
        private static final int VOW = 2;
        private static final String CLAUSES = "pdve";
        private static final int[] MOST_CLAUSES = {5, 8, 8, 8};
        // For each sort of clause six items: of p, of d, of v, of e.
        private static final int[] LEAST = {0, 0, 0, 0, 0, 0, 0, 0, 0, 0, 0, 0, 0, 0, 0, 0, 0, 1, 0, 0, 0, 0, 0, 0};
        private static final int[] MOST = {8, 9, 0, 0, 0, 0, 7, 9, 9, 0, 0, 0, 4, 7, 7, 7, 9, 99, 4, 4, 11, 11, 0, 0};
        private static final int[] WITHOUT = {8, 0, 0, 0, 0, 0, 0, 1, 0, 0, 0, 0, 0, 0, 0, 1, 1, 7, 0, 1, 0, 11, 0, 0};

        final Tape tape;
        final int[] values = new int[ITEMS];
        final int[] clauses = new int[SORTS];

        CountryReader(Tape tape) {
            this.tape = tape;
        }

        private static String itemsOf(int sort) {
            switch (sort) {
                case PERSON: return "ws";
                case DEED: return "ajh";
                case VOW: return "pkabnt";
                default: return "poft";
            }
        }

        // The fault; NONE: none.
        int read(Country into) {
            into.clear();
            tape.at = 0;
            for (int sort = 0; sort < SORTS; sort++) {
                clauses[sort] = 0;
            }
            for (int i = 0; i < BYTES; i++) {
                if (!readClause(into)) {
                    return tape.at;
                }
                if (tape.peek() == Tape.END) {
                    return into.isWhole() ? NONE : tape.size;
                }
                if (!tape.take(';')) {
                    return tape.at;
                }
            }
            return tape.at;
        }

        private boolean readClause(Country into) {
            int letter = tape.peek();
            int sort = letter == Tape.END ? NONE : CLAUSES.indexOf((char) letter);
            if (sort < 0 || sort >= SORTS || clauses[sort] >= MOST_CLAUSES[sort]) {
                return false;
            }
            clauses[sort]++;
            tape.at++;
            if (!readItems(sort)) {
                return false;
            }
            switch (sort) {
                case PERSON:
                    return readPerson(into);
                case DEED:
                    into.joys[values[0]] = values[1];
                    into.harms[values[0]] = values[2];
                    return true;
                case VOW:
                    System.arraycopy(values, 0, into.now.vows, into.now.sworn * VOW_CELLS, VOW_CELLS);
                    into.now.sworn++;
                    return true;
                default:
                    System.arraycopy(values, 0, into.eyes, into.eyeTotal * EYE_CELLS, EYE_CELLS);
                    into.eyeTotal++;
                    return true;
            }
        }

        private boolean readItems(int sort) {
            System.arraycopy(WITHOUT, sort * ITEMS, values, 0, ITEMS);
            String letters = itemsOf(sort);
            int there = 0;
            for (int i = 0; i <= ITEMS; i++) {
                int letter = tape.peek();
                int item = letter == Tape.END ? NONE : letters.indexOf((char) letter);
                if (item < 0 || item >= ITEMS) {
                    return true;
                }
                if ((there >> item & 1) != 0) {
                    return false;
                }
                there |= 1 << item;
                tape.at++;
                int value = tape.readNumber(2, LEAST[sort * ITEMS + item], MOST[sort * ITEMS + item]);
                if (value == NONE) {
                    return false;
                }
                values[item] = value;
            }
            return false;
        }

        private boolean readPerson(Country into) {
            if (!tape.take(':')) {
                return false;
            }
            int size = tape.readRow(into.now.deeds, into.persons * PLACES);
            if (size == NONE) {
                return false;
            }
            into.wants[into.persons] = values[0];
            into.now.slips[into.persons] = values[1];
            into.now.sizes[into.persons] = size;
            into.persons++;
            return true;
        }
    }

    /**
     * Reads a taste from the tape and writes it as a row of steps, each behind what it works on, so that a worth is
     * found in one pass without a tree.
     */
    private static final class TasteReader {
        private static final int DEEPEST = 6;
        private static final int DIGITS = 4;

        final Tape tape;
        final Tastes tastes;

        TasteReader(Tape tape, Tastes tastes) {
            this.tape = tape;
            this.tastes = tastes;
        }

        // The fault; NONE: none.
        int read() {
            tastes.sizes[tastes.total] = 0;
            tape.at = 0;
            for (int i = 0; i < BYTES; i++) {
                if (!readClause()) {
                    return tape.at;
                }
                if (tape.peek() == Tape.END) {
                    return NONE;
                }
                if (!tape.take(';')) {
                    return tape.at;
                }
            }
            return tape.at;
        }

        private void write(int step) {
            int taste = tastes.total;
            int size = tastes.sizes[taste];
            if (size < BYTES) {
                tastes.steps[taste][size] = step;
                tastes.sizes[taste] = size + 1;
            }
        }

        private boolean readClause() {
            if (!tape.take('y') || !tape.take(':')) {
                return false;
            }
            int sign = tape.peek();
            boolean begun = sign != '!' && sign != '(';
            if (begun && !readSum(0)) {
                return false;
            }
            if (!begun || isComparison(tape.peek())) {
                if (!readCondition(0, begun) || !tape.take('?')) {
                    return false;
                }
                write(Tastes.SIGN + '?');
                if (!readSum(0)) {
                    return false;
                }
            }
            write(Tastes.SIGN + ';');
            return true;
        }

        private static boolean isComparison(int sign) {
            return sign == '=' || sign == '<' || sign == '>';
        }

        // begun: the first sum of it has been read.
        private boolean readCondition(int depth, boolean begun) {
            if (!readTruth(depth, begun)) {
                return false;
            }
            for (int i = 0; i < BYTES && tape.take('|'); i++) {
                if (!readTruth(depth, false)) {
                    return false;
                }
                write(Tastes.SIGN + '|');
            }
            return true;
        }

        private boolean readTruth(int depth, boolean begun) {
            if (!(begun ? readComparison(depth) : readUnit(depth))) {
                return false;
            }
            for (int i = 0; i < BYTES && tape.take('&'); i++) {
                if (!readUnit(depth)) {
                    return false;
                }
                write(Tastes.SIGN + '&');
            }
            return true;
        }

        private boolean readUnit(int depth) {
            int sign = tape.peek();
            if (sign != '!' && sign != '(') {
                return readSum(depth) && readComparison(depth);
            }
            if (depth >= DEEPEST) {
                return false;
            }
            tape.at++;
            if (sign == '(') {
                return readCondition(depth + 1, false) && tape.take(')');
            }
            if (!readUnit(depth + 1)) {
                return false;
            }
            write(Tastes.SIGN + '!');
            return true;
        }

        private boolean readComparison(int depth) {
            int sign = tape.peek();
            if (!isComparison(sign)) {
                return false;
            }
            tape.at++;
            if (!readSum(depth)) {
                return false;
            }
            write(Tastes.SIGN + sign);
            return true;
        }

        private boolean readSum(int depth) {
            if (!readTerm(depth)) {
                return false;
            }
            for (int i = 0; i < BYTES; i++) {
                int sign = tape.peek();
                if (sign != '+' && sign != '-') {
                    return true;
                }
                tape.at++;
                if (!readTerm(depth)) {
                    return false;
                }
                write(Tastes.SIGN + sign);
            }
            return true;
        }

        private boolean readTerm(int depth) {
            if (!readAtom(depth)) {
                return false;
            }
            for (int i = 0; i < BYTES; i++) {
                int sign = tape.peek();
                if (sign != '*' && sign != '/') {
                    return true;
                }
                tape.at++;
                if (!readAtom(depth)) {
                    return false;
                }
                write(Tastes.SIGN + sign);
            }
            return true;
        }

        private boolean readAtom(int depth) {
            int sign = tape.peek();
            if (sign == '[') {
                if (depth >= DEEPEST) {
                    return false;
                }
                tape.at++;
                return readSum(depth + 1) && tape.take(']');
            }
            int letter = sign == Tape.END ? NONE : Tastes.NAMES.indexOf((char) sign);
            if (letter >= 0) {
                tape.at++;
                write(Tastes.LETTER + letter);
                return true;
            }
            int number = tape.readNumber(DIGITS, 0, Tastes.LETTER - 1);
            if (number == NONE) {
                return false;
            }
            write(number);
            return true;
        }
    }

    // ---- what is told

    /** What acts change: rows, slips, vows with their terms, the day. */
    private static final class State {
        final int[] deeds = new int[PERSONS * PLACES];
        final int[] sizes = new int[PERSONS];
        final int[] slips = new int[PERSONS];
        final int[] vows = new int[VOWS * VOW_CELLS];
        int sworn = 0;
        int day = 0;

        void copyFrom(State other) {
            System.arraycopy(other.deeds, 0, deeds, 0, deeds.length);
            System.arraycopy(other.sizes, 0, sizes, 0, sizes.length);
            System.arraycopy(other.slips, 0, slips, 0, slips.length);
            System.arraycopy(other.vows, 0, vows, 0, vows.length);
            sworn = other.sworn;
            day = other.day;
        }

        boolean inForce(int vow) {
            return vow >= 0 && vow < sworn && vows[vow * VOW_CELLS + TERM] > 0;
        }

        boolean isAboutVow(int vow) {
            return vows[vow * VOW_CELLS + KIND] > LAST_PLAIN_KIND;
        }

        // Whether a row of this person must keep the vow.
        boolean binds(int vow, int person) {
            return inForce(vow) && vows[vow * VOW_CELLS + WHOSE] == person && !isAboutVow(vow);
        }

        int inForceTotal() {
            int total = 0;
            for (int v = 0; v < sworn; v++) {
                if (inForce(v)) {
                    total++;
                }
            }
            return total;
        }

        int termsOf(int person) {
            int sum = 0;
            for (int v = 0; v < sworn; v++) {
                if (vows[v * VOW_CELLS + WHOSE] == person) {
                    sum += vows[v * VOW_CELLS + TERM];
                }
            }
            return sum;
        }

        boolean isFree(int person) {
            return termsOf(person) == 0;
        }

        boolean clash(int one, int other) {
            for (int v = 0; v < sworn; v++) {
                for (int w = 0; w < sworn; w++) {
                    if ((binds(v, one) && binds(w, other) || binds(v, other) && binds(w, one)) && forbids(v, w)) {
                        return true;
                    }
                }
            }
            return false;
        }

        private boolean forbids(int vow, int must) {
            int at = vow * VOW_CELLS;
            int to = must * VOW_CELLS;
            return vows[at + KIND] == NEVER && vows[to + KIND] == OFTEN && vows[to + N] > 0
                    && vows[at + A] == vows[to + A];
        }
    }

    /** What the text told; nothing of it changes but the state. */
    private static final class Country {
        int persons = 0;
        final int[] wants = new int[PERSONS];
        final int[] joys = new int[DEEDS];
        final int[] harms = new int[DEEDS];
        final int[] eyes = new int[EYES * EYE_CELLS];
        int eyeTotal = 0;
        final State now = new State();

        void clear() {
            persons = 0;
            eyeTotal = 0;
            now.sworn = 0;
            now.day = 0;
            for (int deed = 0; deed < DEEDS; deed++) {
                joys[deed] = 1;
                harms[deed] = 0;
            }
        }

        // What no single byte shows: that whoever and whatever is named is told.
        boolean isWhole() {
            if (persons == 0) {
                return false;
            }
            for (int v = 0; v < now.sworn; v++) {
                int at = v * VOW_CELLS;
                if (now.vows[at + WHOSE] >= persons || now.isAboutVow(v) && now.vows[at + A] >= now.sworn) {
                    return false;
                }
            }
            for (int eye = 0; eye < eyeTotal; eye++) {
                int at = eye * EYE_CELLS;
                if (eyes[at] >= persons || eyes[at + WATCHED] >= persons
                        || eyes[at] == eyes[at + WATCHED] || eyes[at + FROM] > eyes[at + TO]) {
                    return false;
                }
            }
            return true;
        }

        // The places, as bits, that these eyes span; an eye on another one makes it NONE, which no such set is.
        int placesOf(int set, int person) {
            int places = 0;
            for (int eye = 0; eye < eyeTotal; eye++) {
                if ((set >> eye & 1) == 0) {
                    continue;
                }
                if (eyes[eye * EYE_CELLS + WATCHED] != person) {
                    return NONE;
                }
                places |= span(eye);
            }
            return places;
        }

        int watchedPlaces(int person) {
            int places = 0;
            for (int eye = 0; eye < eyeTotal; eye++) {
                if (eyes[eye * EYE_CELLS + WATCHED] == person) {
                    places |= span(eye);
                }
            }
            return places;
        }

        boolean isWatched(int person, int place) {
            return (watchedPlaces(person) >> place & 1) != 0;
        }

        private int span(int eye) {
            int at = eye * EYE_CELLS;
            return (1 << eyes[at + TO] + 1) - (1 << eyes[at + FROM]);
        }
    }

    /** The states ahead of the latest acts. */
    private static final class Past {
        final State[] states = new State[ACTS];
        int next = 0;
        int total = 0;

        Past() {
            for (int i = 0; i < ACTS; i++) {
                states[i] = new State();
            }
        }

        void keep(State now) {
            states[next].copyFrom(now);
            next = (next + 1) % ACTS;
            if (total < ACTS) {
                total++;
            }
        }

        boolean bringBack(State now) {
            if (total == 0) {
                return false;
            }
            total--;
            next = (next + ACTS - 1) % ACTS;
            now.copyFrom(states[next]);
            return true;
        }

        void forget() {
            total = 0;
        }
    }

    // ---- a day

    /** Decides how each vow in force fares by the rows of a day, and carries it out. */
    private static final class Judge {
        private static final long FACTOR = 6364136223846793005L;
        private static final long STEP = 1442695040888963407L;

        final int[] deeds = new int[PERSONS * PLACES];
        final int[] fates = new int[VOWS];
        final int[] places = new int[VOWS];
        final int[] tallies = new int[TALLIES];
        long x = 0;

        void setRows(State state) {
            System.arraycopy(state.deeds, 0, deeds, 0, deeds.length);
        }

        // m is above 0.
        private int draw(int m) {
            x = x * FACTOR + STEP;
            return (int) ((x >>> 33) % m);
        }

        void tempt(Country country, int below) {
            for (int person = 0; person < country.persons; person++) {
                int want = country.wants[person];
                int size = country.now.sizes[person];
                if (want < DEEDS && size > 0 && draw(100) < below) {
                    deeds[person * PLACES + draw(size)] = want;
                }
            }
        }

        void decide(State state) {
            for (int v = 0; v < state.sworn; v++) {
                fates[v] = KEPT;
                if (state.inForce(v) && !state.isAboutVow(v)) {
                    int whose = state.vows[v * VOW_CELLS + WHOSE];
                    places[v] = placeBroken(state.vows, v * VOW_CELLS, deeds, whose * PLACES, state.sizes[whose]);
                    fates[v] = places[v] == NONE ? KEPT : BROKEN;
                }
            }
            decideVowsAboutVows(state);
        }

        private void decideVowsAboutVows(State state) {
            boolean paradox = false;
            for (int v = 0; v < state.sworn && !paradox; v++) {
                paradox = isOpen(state, v) && fateByChain(state, v) == PARADOX;
            }
            for (int v = 0; v < state.sworn; v++) {
                if (isOpen(state, v)) {
                    fates[v] = paradox ? STRUCK : fateByChain(state, v);
                }
            }
        }

        private static boolean isOpen(State state, int vow) {
            return state.inForce(vow) && state.isAboutVow(vow);
        }

        /**
         * Each vow about a vow names just one, so following the names either ends at a vow that is settled or runs
         * into a ring. A ring that turns an odd number of times leaves no way at all; any other leaves two, in which
         * every vow on it, and every one that leads to it, fares differently.
         */
        private int fateByChain(State state, int vow) {
            boolean turned = false;
            int at = vow;
            for (int i = 0; i < VOWS; i++) {
                if (!isOpen(state, at)) {
                    return (fates[at] == BROKEN) != turned ? BROKEN : KEPT;
                }
                turned ^= state.vows[at * VOW_CELLS + KIND] == SAYS_BROKEN;
                at = state.vows[at * VOW_CELLS + A];
            }
            return isOddRing(state, at) ? PARADOX : STRUCK;
        }

        private static boolean isOddRing(State state, int start) {
            boolean odd = false;
            int at = start;
            for (int i = 0; i < VOWS; i++) {
                odd ^= state.vows[at * VOW_CELLS + KIND] == SAYS_BROKEN;
                at = state.vows[at * VOW_CELLS + A];
                if (at == start) {
                    return odd;
                }
            }
            return odd;
        }

        void carryOut(Country country, State state) {
            for (int i = 0; i < TALLIES; i++) {
                tallies[i] = 0;
            }
            for (int v = 0; v < state.sworn; v++) {
                if (!state.inForce(v)) {
                    continue;
                }
                int term = v * VOW_CELLS + TERM;
                if (fates[v] == KEPT) {
                    tallies[KEPT]++;
                    state.vows[term]--;
                } else if (fates[v] == STRUCK) {
                    tallies[STRUCK_TALLY]++;
                    state.vows[term] = 0;
                } else {
                    tallies[BROKEN]++;
                    punish(country, state, v);
                }
            }
        }

        private void punish(Country country, State state, int vow) {
            int whose = state.vows[vow * VOW_CELLS + WHOSE];
            if (!state.isAboutVow(vow) && !country.isWatched(whose, places[vow])) {
                return;
            }
            tallies[SEEN_TALLY]++;
            if (state.slips[whose] > 0) {
                state.slips[whose]--;
                return;
            }
            int term = vow * VOW_CELLS + TERM;
            state.vows[term] = Math.min(LONGEST_TERM, 2 * state.vows[term]);
        }
    }

    // ---- joy

    /** The tastes told, as steps: a number below LETTER is itself, then come letters, then signs. */
    private static final class Tastes {
        static final int LETTER = 10000;
        static final int SIGN = 20000;
        static final String NAMES = "jhirxq";
        private static final int MOST = 1000000;

        // One more than can be told: what is being read stands there.
        final int[][] steps = new int[TASTES + 1][BYTES];
        final int[] sizes = new int[TASTES + 1];
        int total = 0;
        int holding = NONE;
        private final int[] letters = new int[6];
        private final int[] stack = new int[BYTES];
        private int top = 0;
        private final int[] done = new int[DEEDS];

        int worthOf(Country country, int person, int deed, int place, int ahead) {
            if (holding == NONE) {
                return country.joys[deed];
            }
            letters[0] = country.joys[deed];
            letters[1] = country.harms[deed];
            letters[2] = place;
            letters[3] = ahead;
            letters[4] = deed;
            letters[5] = person;
            return run(steps[holding], sizes[holding]);
        }

        int joyOf(Country country, int person, int[] deeds, int from, int size) {
            for (int deed = 0; deed < DEEDS; deed++) {
                done[deed] = 0;
            }
            int sum = 0;
            for (int i = 0; i < size; i++) {
                int deed = deeds[from + i];
                sum += worthOf(country, person, deed, i, done[deed]);
                done[deed]++;
            }
            return within(sum, MOST_JOY);
        }

        private int run(int[] row, int size) {
            top = 0;
            for (int i = 0; i < size; i++) {
                int step = row[i];
                if (step < LETTER) {
                    push(step);
                } else if (step < SIGN) {
                    push(letters[step - LETTER]);
                } else if (step == SIGN + ';') {
                    return pop();
                } else if (step == SIGN + '?') {
                    i = pop() == 0 ? clauseEnd(row, i, size) : i;
                } else if (step == SIGN + '!') {
                    push(1 - pop());
                } else {
                    int right = pop();
                    push(join(step - SIGN, pop(), right));
                }
            }
            return 0;
        }

        private static int clauseEnd(int[] row, int from, int size) {
            int i = from;
            while (i < size && row[i] != SIGN + ';') {
                i++;
            }
            return i;
        }

        private static int join(int sign, int left, int right) {
            switch (sign) {
                case '+': return within(left + right, MOST);
                case '-': return within(left - right, MOST);
                case '*': return times(left, right);
                case '/': return right == 0 ? 0 : left / right;
                case '=': return left == right ? 1 : 0;
                case '<': return left < right ? 1 : 0;
                case '>': return left > right ? 1 : 0;
                case '&': return left & right;
                default: return left | right;
            }
        }

        private static int times(int left, int right) {
            long product = (long) left * right;
            if (product > MOST) {
                return MOST;
            }
            return product < -MOST ? -MOST : (int) product;
        }

        private void push(int value) {
            if (top < BYTES) {
                stack[top] = value;
                top++;
            }
        }

        private int pop() {
            if (top == 0) {
                return 0;
            }
            top--;
            return stack[top];
        }
    }

    // ---- rows told, seen days, promises

    /** The rows told, the days seen, and what was promised by them. */
    private static final class Told {
        // One more than can be told: what is being read stands there.
        final int[] deeds = new int[(ROWS + 1) * PLACES];
        final int[] sizes = new int[ROWS + 1];
        int total = 0;
        final int[] seenPersons = new int[SEEN_DAYS];
        final int[] seenRows = new int[SEEN_DAYS];
        int seenTotal = 0;
        final int[] numbers = new int[MOST_PROMISES];
        int promises = 0;
        private final int[] vow = new int[VOW_CELLS];

        // The fault; NONE: none.
        int read(Tape tape) {
            tape.at = 0;
            int size = tape.readRow(deeds, total * PLACES);
            if (size == NONE || tape.peek() != Tape.END) {
                return tape.at;
            }
            sizes[total] = size;
            return NONE;
        }

        void gather(int person) {
            promises = 0;
            for (int kind = 0; kind <= LAST_PLAIN_KIND; kind++) {
                for (int a = 0; a < DEEDS; a++) {
                    gatherOf(person, kind, a);
                }
            }
        }

        // b and n are 0 where the kind does not look at them.
        private void gatherOf(int person, int kind, int a) {
            boolean looksAtB = kind == NOT_AHEAD || kind == FOLLOWED || kind == NOT_BEHIND;
            boolean looksAtN = kind == OFTEN || kind == SELDOM;
            for (int b = 0; b < (looksAtB ? DEEDS : 1); b++) {
                if (looksAtB && a == b) {
                    continue;
                }
                for (int n = 0; n <= (looksAtN ? 3 : 0); n++) {
                    int number = 1000 * kind + 100 * a + 10 * b + n;
                    if (isKeptBySeenDays(person, number) && promises < MOST_PROMISES) {
                        numbers[promises] = number;
                        promises++;
                    }
                }
            }
        }

        private boolean isKeptBySeenDays(int person, int number) {
            for (int i = 0; i < seenTotal; i++) {
                if (seenPersons[i] == person && isBroken(seenRows[i], number)) {
                    return false;
                }
            }
            return true;
        }

        private boolean isBroken(int row, int number) {
            putVow(vow, 0, number);
            return placeBroken(vow, 0, deeds, row * PLACES, sizes[row]) != NONE;
        }

        int brokenPromises(int row) {
            int sum = 0;
            for (int i = 0; i < promises; i++) {
                if (isBroken(row, numbers[i])) {
                    sum++;
                }
            }
            return sum;
        }
    }

    // ---- rows of l

    /**
     * Goes through the rows of l by rising numbers, deed by deed, and leaves a beginning as soon as no row with it
     * can matter any more.
     */
    private static final class Search {
        private final int[] vows = new int[VOWS * VOW_CELLS];
        private final int[] bits = new int[VOWS];
        private int vowTotal = 0;
        private final int[] harms = new int[DEEDS];
        // What a deed is worth by its place, how often it was done ahead, and the deed.
        private final int[] worths = new int[LONGEST * LONGEST * DEEDS];
        // How often each deed stands in the row so far; whoever goes back takes its deed back, so it ends as zeros.
        private final int[] done = new int[DEEDS];
        private int size = 0;
        private int leastHarm = 0;
        private int wanted = NONE;
        private boolean striking = false;
        private boolean ended = false;
        private int leastBits = 0;
        int found = 0;
        int wantedRow = NONE;
        int bestRow = NONE;
        int bestJoy = 0;

        void clear(Country country) {
            vowTotal = 0;
            System.arraycopy(country.harms, 0, harms, 0, DEEDS);
        }

        void addVowsOf(State state, int person) {
            for (int v = 0; v < state.sworn && vowTotal < VOWS; v++) {
                if (state.binds(v, person)) {
                    System.arraycopy(state.vows, v * VOW_CELLS, vows, vowTotal * VOW_CELLS, VOW_CELLS);
                    bits[vowTotal] = 1 << v;
                    vowTotal++;
                }
            }
        }

        void addVow(int number) {
            if (vowTotal < VOWS) {
                putVow(vows, vowTotal * VOW_CELLS, number);
                bits[vowTotal] = 1 << vowTotal;
                vowTotal++;
            }
        }

        void weigh(Country country, Tastes tastes, int person) {
            for (int place = 0; place < LONGEST; place++) {
                for (int ahead = 0; ahead <= place; ahead++) {
                    for (int deed = 0; deed < DEEDS; deed++) {
                        worths[worthAt(place, ahead, deed)] = tastes.worthOf(country, person, deed, place, ahead);
                    }
                }
            }
        }

        private static int worthAt(int place, int ahead, int deed) {
            return (place * LONGEST + ahead) * DEEDS + deed;
        }

        // index NONE: none is wanted, all are counted.
        void run(int l, int harm, int index) {
            begin(l);
            leastHarm = harm;
            wanted = index;
            striking = false;
            descend(0, 0, 0, 0, 0);
        }

        int leastStruck(int l) {
            begin(l);
            striking = true;
            leastBits = NONE;
            descend(0, 0, 0, 0, 0);
            return leastBits;
        }

        private void begin(int l) {
            size = l;
            ended = false;
            found = 0;
            wantedRow = NONE;
            bestRow = NONE;
            bestJoy = 0;
        }

        private void descend(int place, int number, int struck, int joy, int harm) {
            if (place >= size) {
                arrive(number, struck, joy, harm);
                return;
            }
            int before = place == 0 ? NONE : number % 10;
            for (int deed = 0; deed < DEEDS && !ended; deed++) {
                int behind = struckBehind(place, before, deed, struck);
                if (isHopeless(behind)) {
                    continue;
                }
                int ahead = done[deed];
                done[deed] = ahead + 1;
                descend(place + 1, number * 10 + deed, behind, joy + worths[worthAt(place, ahead, deed)],
                        harm + harms[deed]);
                done[deed] = ahead;
            }
        }

        private int struckBehind(int place, int before, int deed, int struck) {
            int bitsNow = struck;
            for (int v = 0; v < vowTotal && (striking || bitsNow == 0); v++) {
                int at = v * VOW_CELLS;
                if ((bitsNow & bits[v]) == 0 && breaks(vows, at, before, deed, done[vows[at + A]],
                        done[vows[at + B]], place == size - 1)) {
                    bitsNow |= bits[v];
                }
            }
            return bitsNow;
        }

        // Deeds that follow only add to what is struck.
        private boolean isHopeless(int struck) {
            if (!striking) {
                return struck != 0;
            }
            if (leastBits == NONE) {
                return false;
            }
            int more = Integer.bitCount(struck) - Integer.bitCount(leastBits);
            return more > 0 || more == 0 && struck >= leastBits;
        }

        private void arrive(int number, int struck, int joy, int harm) {
            if (striking) {
                leastBits = struck;
                ended = struck == 0;
                return;
            }
            if (harm < leastHarm) {
                return;
            }
            if (found == wanted) {
                wantedRow = number;
                ended = true;
            }
            found++;
            int held = within(joy, MOST_JOY);
            if (bestRow == NONE || held > bestJoy) {
                bestRow = number;
                bestJoy = held;
            }
        }
    }
}
