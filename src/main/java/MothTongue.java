/**
 * A drawer of pages with moths shut in: what the moths eat leaves other words, or holes.
 *
 * <p>The drawer that lives is one object; all that only looks ahead is played on others, made once
 * with this object and used again, so that no call makes anything.
 */
public final class MothTongue {
    private static final int LOW = -1000001;
    private static final int BEYOND = LOW;
    private static final int FULL = LOW - 1;
    private static final int KIND = LOW - 2;
    private static final int NONE = LOW - 3;
    private static final int STATE = LOW - 4;
    private static final int MISSING = LOW - 5;
    private static final int SIZE = LOW - 6;
    private static final int FINDINGS = 7;

    private static final int PAGES = 6;
    private static final int PLACES = 8;
    private static final int HOLE = 0;
    private static final int MOST_WORD = 9;
    private static final int MOST_SAID = 324;

    private static final int MOST_MOTHS = 8;
    private static final int MOST_FED = 9999;
    private static final int NOWHERE = -1;
    /** The set of moths let out while all bite. */
    private static final int ALL_IN = 0;

    /** The kinds, but for a plain moth, 0, which does what no other kind is told to do. */
    private static final int LARVA = 1;
    private static final int SILVER = 2;
    private static final int SCHOLAR = 3;
    private static final int BISHOP = 4;
    private static final int OLD = 5;
    private static final int GRUB = 6;
    private static final int KINDS = 7;

    /** What a moth has, by the numbers that of() and change() give it. */
    private static final int ITS_KIND = 0;
    private static final int ITS_PAGE = 1;
    private static final int ITS_TASTE = 2;
    private static final int ITS_FED = 3;
    private static final int TRAITS = 4;
    private static final int ITS_BITE = 4;
    private static final int[] LEAST_TRAIT = {0, 0, 1, 0};
    private static final int[] MOST_TRAIT = {6, 5, 9, 9999};

    private static final int LAST_NIGHT = 99999;
    private static final int MOST_NIGHTS_GONE = 60;
    private static final int MOST_NIGHTS_AHEAD = 100;
    private static final int MOST_NIGHTS_AWAITED = 200;
    private static final int MOST_NIGHTS_CHOSEN_FOR = 40;
    private static final int MOST_NIGHTS_STAYED = 20;
    private static final int MOST_NIGHTS_FITTED = 20;
    private static final int MOST_NIGHTS_LIT = 20;
    private static final int MOST_ODDS = 23;

    /** What nights may bring, and is waited for. */
    private static final int BARE = 0;
    private static final int SAYING = 1;
    private static final int STILL = 2;
    private static final int ALIKE = 3;

    private static final int MOST_BYTES = 120;
    private static final int MOST_BYTES_FED = 4;
    private static final int MOST_FED_TOLD = 999;

    private static final int SPOTS = 10;
    private static final int NOTHING = -1;
    private static final int SHEETS = 4;
    private static final int MOST_NUMBERS = 40;
    private static final int ANY = -1;

    private final Drawer live = new Drawer();
    private final Drawer kept = new Drawer();
    private final Drawer trial = new Drawer();
    private final Drawer morrow = new Drawer();
    private final Tape tape = new Tape();
    private final Sheet[] sheets = new Sheet[SHEETS];
    private final int[] findings = new int[FINDINGS];
    private boolean isKept = false;

    public MothTongue() {
        for (int s = 0; s < SHEETS; s++) {
            sheets[s] = new Sheet();
        }
    }

    // ---- pages, moths

    public int word(int page, int place, int v) {
        if (!isPage(page) || !isPlace(place) || !isWord(v)) {
            return finding(BEYOND);
        }
        int was = live.wordAt(page, place);
        live.setWord(page, place, v);
        return was;
    }

    public int reads(int page, int place) {
        if (!isPage(page) || !isPlace(place)) {
            return finding(BEYOND);
        }
        return live.wordAt(page, place);
    }

    public int page(int page, int what) {
        if (!isPage(page)) {
            return finding(BEYOND);
        }
        switch (what) {
            case 0:
                return live.saidBy(page);
            case 1:
                return live.holesOf(page);
            case 2:
                return live.mothsOn(page);
            case 3:
                return live.placesWithWords(page);
            default:
                return finding(BEYOND);
        }
    }

    public int copied(int from, int to) {
        if (!isPage(from) || !isPage(to)) {
            return finding(BEYOND);
        }
        return live.copyPage(from, to);
    }

    public int moth(int kind, int page) {
        if (!isKind(kind) || !isPage(page)) {
            return finding(BEYOND);
        }
        if (live.isFull()) {
            return finding(FULL);
        }
        return live.addMoth(kind, page);
    }

    public int of(int moth, int what) {
        if (!isMoth(moth) || !within(what, 0, ITS_BITE)) {
            return finding(BEYOND);
        }
        return what == ITS_BITE ? live.bittenPlace(moth) : live.trait(moth, what);
    }

    public int change(int moth, int what, int v) {
        if (!isMoth(moth) || !within(what, 0, TRAITS - 1)
                || !within(v, LEAST_TRAIT[what], MOST_TRAIT[what])) {
            return finding(BEYOND);
        }
        int was = live.trait(moth, what);
        live.setTrait(moth, what, v);
        return was;
    }

    public int leaves(int moth, int word, int what) {
        if (!isMoth(moth) || !within(word, 1, MOST_WORD) || !within(what, 0, 1)) {
            return finding(BEYOND);
        }
        int kind = live.trait(moth, ITS_KIND);
        return what == 0 ? Kinds.leftOf(kind, word) : Kinds.gainBy(kind, word);
    }

    // ---- nights

    public int go(int n) {
        if (!within(n, 1, MOST_NIGHTS_GONE)) {
            return finding(BEYOND);
        }
        if (live.night > LAST_NIGHT - n) {
            return finding(STATE);
        }
        live.passNights(n, ALL_IN);
        return live.allHoles();
    }

    public int now(int what) {
        switch (what) {
            case 0:
                return live.night;
            case 1:
                return live.allHoles();
            case 2:
                return live.allSaid();
            case 3:
                return live.allFed();
            case 4:
                return live.idleMoths();
            case 5:
                return live.barePages();
            default:
                return finding(BEYOND);
        }
    }

    // ---- what will be (nothing changes)

    public int ahead(int page, int place, int n) {
        if (!isPage(page) || !isPlace(place) || !within(n, 0, MOST_NIGHTS_AHEAD)) {
            return finding(BEYOND);
        }
        lookAhead(n);
        return trial.wordAt(page, place);
    }

    public int says(int page, int n) {
        if (!isPage(page) || !within(n, 0, MOST_NIGHTS_AHEAD)) {
            return finding(BEYOND);
        }
        lookAhead(n);
        return trial.saidBy(page);
    }

    public int fed(int moth, int n) {
        if (!isMoth(moth) || !within(n, 0, MOST_NIGHTS_AHEAD)) {
            return finding(BEYOND);
        }
        lookAhead(n);
        return trial.trait(moth, ITS_FED);
    }

    public int bare(int page) {
        if (!isPage(page)) {
            return finding(BEYOND);
        }
        return fewestNights(BARE, page, 0);
    }

    public int when(int page, int v) {
        if (!isPage(page) || !within(v, 0, MOST_SAID)) {
            return finding(BEYOND);
        }
        return fewestNights(SAYING, page, v);
    }

    public int settles() {
        return fewestNights(STILL, 0, 0);
    }

    public int alike(int a, int b) {
        if (!isPage(a) || !isPage(b) || a == b) {
            return finding(BEYOND);
        }
        return fewestNights(ALIKE, a, b);
    }

    // ---- which moth, where

    public int put(int moth, int page, int n) {
        return bestTrait(moth, ITS_PAGE, page, n);
    }

    public int tasteFor(int moth, int page, int n) {
        return bestTrait(moth, ITS_TASTE, page, n);
    }

    public int kindFor(int moth, int page, int n) {
        return bestTrait(moth, ITS_KIND, page, n);
    }

    public int swapFor(int page, int n) {
        if (!isPage(page) || !within(n, 0, MOST_NIGHTS_CHOSEN_FOR)) {
            return finding(BEYOND);
        }
        if (live.moths < 2) {
            return finding(NONE);
        }
        int best = 0;
        int most = -1;
        for (int a = 0; a < live.moths; a++) {
            for (int b = a + 1; b < live.moths; b++) {
                trial.become(live);
                trial.swapPages(a, b);
                trial.passNights(n, ALL_IN);
                int said = trial.saidBy(page);
                if (said > most) {
                    most = said;
                    best = MOST_MOTHS * a + b;
                }
            }
        }
        return best;
    }

    public int out(int page, int n) {
        if (!isPage(page) || !within(n, 0, MOST_NIGHTS_STAYED)) {
            return finding(BEYOND);
        }
        // Moths on other pages do nothing to this one, and without all that are on it, it stays.
        int on = live.mothsOn(page);
        for (int size = 0; size < Integer.bitCount(on); size++) {
            for (int set = 0; set < on; set++) {
                boolean isCandidate = (set & ~on) == 0 && Integer.bitCount(set) == size;
                if (isCandidate && staysWithout(set, page, n)) {
                    return set;
                }
            }
        }
        return on;
    }

    // ---- what has been

    public int fits(int s, int page, int place, int n) {
        if (!isSheet(s)) {
            return finding(BEYOND);
        }
        if (sheets[s].isMissing()) {
            return finding(MISSING);
        }
        if (!isPage(page) || !isPlace(place) || !within(n, 0, MOST_NIGHTS_FITTED)) {
            return finding(BEYOND);
        }
        int set = 0;
        for (int v = 0; v <= MOST_WORD; v++) {
            trial.become(live);
            trial.setWord(page, place, v);
            trial.passNights(n, ALL_IN);
            if (isPageAsTold(sheets[s], page)) {
                set |= 1 << v;
            }
        }
        return set;
    }

    public int kinds(int s, int moth) {
        if (!isSheet(s)) {
            return finding(BEYOND);
        }
        if (sheets[s].isMissing()) {
            return finding(MISSING);
        }
        if (!isMoth(moth)) {
            return finding(BEYOND);
        }
        int set = 0;
        for (int kind = 0; kind < KINDS; kind++) {
            trial.become(live);
            trial.setTrait(moth, ITS_KIND, kind);
            if (isFedAsTold(sheets[s], moth)) {
                set |= 1 << kind;
            }
        }
        return set;
    }

    // ---- lights

    public int lights(int n) {
        if (!within(n, 1, MOST_NIGHTS_LIT)) {
            return finding(BEYOND);
        }
        if (live.night > LAST_NIGHT - n) {
            return finding(STATE);
        }
        for (int i = 0; i < n; i++) {
            live.leaveLightOn();
            live.passNights(1, ALL_IN);
        }
        return live.allHoles();
    }

    public long odds(int n, int what) {
        if (!within(n, 0, MOST_ODDS) || !within(what, 0, 1)) {
            return finding(BEYOND);
        }
        int written = PAGES - Integer.bitCount(live.barePages());
        // Lowest terms to the n-th power are lowest terms again, and 6 to the 23rd is a long.
        int divisor = commonDivisor(written, PAGES);
        return power((what == 0 ? written : PAGES) / divisor, n);
    }

    public int seed(int v) {
        int was = live.z;
        live.z = v;
        return was;
    }

    // ---- texts

    public int feed(int bytes, int n) {
        if (!within(n, 1, MOST_BYTES_FED)) {
            return finding(BEYOND);
        }
        if (tape.size > MOST_BYTES - n) {
            return finding(FULL);
        }
        for (int i = n - 1; i >= 0; i--) {
            tape.append((byte) (bytes >>> (8 * i)));
        }
        return tape.size;
    }

    public int wipe() {
        return tape.empty();
    }

    public int text() {
        trial.become(live);
        int items = tape.readInto(trial);
        tape.empty();
        if (items > 0) {
            live.become(trial);
        }
        return items;
    }

    // ---- spots, sheets

    public int hold(int spot, int moth) {
        if (!isSpot(spot) || (moth != NOTHING && !isMoth(moth))) {
            return finding(BEYOND);
        }
        live.spots[spot] = moth;
        return 1;
    }

    public int as(int spot, int kind) {
        if (!isSpot(spot) || !isKind(kind)) {
            return finding(BEYOND);
        }
        int moth = live.spots[spot];
        if (moth == NOTHING) {
            return finding(MISSING);
        }
        if (!Kinds.isOneOf(live.trait(moth, ITS_KIND), kind)) {
            return finding(KIND);
        }
        return moth;
    }

    public int sheet(int s, int bits, int n) {
        if (!isSheet(s) || (bits != 0 && bits != 8 && bits != 16 && bits != 32)) {
            return finding(BEYOND);
        }
        if (n < 0) {
            return finding(SIZE);
        }
        if (n > MOST_NUMBERS) {
            return finding(BEYOND);
        }
        sheets[s].make(bits, n);
        return sheets[s].size;
    }

    public int write(int s, int i, int v) {
        if (!isSheet(s)) {
            return finding(BEYOND);
        }
        if (sheets[s].isMissing()) {
            return finding(MISSING);
        }
        if (!within(i, 0, sheets[s].size - 1)) {
            return finding(BEYOND);
        }
        sheets[s].set(i, v);
        return 1;
    }

    public int copy(int s, int from, int t, int to, int n) {
        if (!isSheet(s) || !isSheet(t)) {
            return finding(BEYOND);
        }
        if (sheets[s].isMissing() || sheets[t].isMissing()) {
            return finding(MISSING);
        }
        if (sheets[s].bits != sheets[t].bits) {
            return finding(KIND);
        }
        if (!sheets[s].hasRun(from, n) || !sheets[t].hasRun(to, n)) {
            return finding(BEYOND);
        }
        System.arraycopy(sheets[s].numbers, from, sheets[t].numbers, to, n);
        return n;
    }

    public int load(int s) {
        if (!isSheet(s)) {
            return finding(BEYOND);
        }
        if (sheets[s].isMissing()) {
            return finding(MISSING);
        }
        int most = Math.min(sheets[s].size, PLACES);
        for (int i = 0; i < most; i++) {
            int number = sheets[s].numbers[i];
            if (!isWord(number)) {
                return i;
            }
            live.setWord(0, i, number);
        }
        return most;
    }

    public int judge(int s) {
        if (!isSheet(s)) {
            return finding(BEYOND);
        }
        if (sheets[s].isMissing()) {
            return finding(MISSING);
        }
        for (int i = 0; i < sheets[s].size; i++) {
            // A number behind the last page's is said by no page.
            if (!isPage(i) || sheets[s].numbers[i] != live.saidBy(i)) {
                return 1 + i;
            }
        }
        return 0;
    }

    // ---- images

    public int image() {
        kept.become(live);
        isKept = true;
        return 1;
    }

    public int undo() {
        if (!isKept) {
            return finding(NONE);
        }
        live.become(kept);
        return live.night;
    }

    public int tear() {
        int was = isKept ? 1 : 0;
        isKept = false;
        return was;
    }

    public int count(int what) {
        switch (what) {
            case 0:
                return live.night;
            case 1:
                return live.moths;
            case 2:
                return live.allHoles();
            case 3:
                return live.allFed();
            case 4:
                return live.allSaid();
            case 5:
                return tape.size;
            case 6:
                return live.z;
            case 7:
                return live.heldSpots();
            default:
                return finding(BEYOND);
        }
    }

    public int status(int which) {
        if (which == -1) {
            int all = 0;
            for (int f = 0; f < FINDINGS; f++) {
                all += findings[f];
            }
            return all;
        }
        return within(which, 0, FINDINGS - 1) ? findings[which] : finding(BEYOND);
    }

    // ---- what the calls share

    private int finding(int which) {
        findings[LOW - which]++;
        return which;
    }

    private static boolean within(int v, int least, int most) {
        return v >= least && v <= most;
    }

    private static boolean isPage(int page) {
        return within(page, 0, PAGES - 1);
    }

    private static boolean isPlace(int place) {
        return within(place, 0, PLACES - 1);
    }

    private static boolean isWord(int v) {
        return within(v, HOLE, MOST_WORD);
    }

    private static boolean isKind(int kind) {
        return within(kind, 0, KINDS - 1);
    }

    private static boolean isSpot(int spot) {
        return within(spot, 0, SPOTS - 1);
    }

    private static boolean isSheet(int s) {
        return within(s, 0, SHEETS - 1);
    }

    private boolean isMoth(int moth) {
        return within(moth, 0, live.moths - 1);
    }

    private void lookAhead(int nights) {
        trial.become(live);
        trial.passNights(nights, ALL_IN);
    }

    private int fewestNights(int awaited, int a, int b) {
        trial.become(live);
        for (int n = 0; n <= MOST_NIGHTS_AWAITED; n++) {
            morrow.become(trial);
            morrow.passNights(1, ALL_IN);
            if (hasCome(awaited, a, b)) {
                return n;
            }
            trial.become(morrow);
        }
        return finding(NONE);
    }

    /** Whether the trial has what is awaited; the morrow is one night behind it. */
    private boolean hasCome(int awaited, int a, int b) {
        switch (awaited) {
            case BARE:
                return trial.isBare(a);
            case SAYING:
                return trial.saidBy(a) == b;
            case STILL:
                return morrow.hasPagesOf(trial);
            default:
                return trial.unlikePlaces(a, b) == 0;
        }
    }

    private int bestTrait(int moth, int what, int page, int n) {
        if (!isMoth(moth) || !isPage(page) || !within(n, 0, MOST_NIGHTS_CHOSEN_FOR)) {
            return finding(BEYOND);
        }
        int best = LEAST_TRAIT[what];
        int most = -1;
        for (int v = LEAST_TRAIT[what]; v <= MOST_TRAIT[what]; v++) {
            trial.become(live);
            trial.setTrait(moth, what, v);
            trial.passNights(n, ALL_IN);
            int said = trial.saidBy(page);
            if (said > most) {
                most = said;
                best = v;
            }
        }
        return best;
    }

    private boolean staysWithout(int set, int page, int nights) {
        trial.become(live);
        trial.passNights(nights, set);
        return trial.hasPageOf(live, page);
    }

    private boolean isPageAsTold(Sheet told, int page) {
        int most = Math.min(told.size, PLACES);
        for (int i = 0; i < most; i++) {
            if (told.numbers[i] != ANY && told.numbers[i] != trial.wordAt(page, i)) {
                return false;
            }
        }
        return true;
    }

    private boolean isFedAsTold(Sheet told, int moth) {
        for (int i = 0; i < told.size; i++) {
            if (told.numbers[i] != ANY && told.numbers[i] != trial.trait(moth, ITS_FED)) {
                return false;
            }
            trial.passNights(1, ALL_IN);
        }
        return true;
    }

    private static int commonDivisor(int a, int b) {
        for (int d = b; d > 1; d--) {
            if (a % d == 0 && b % d == 0) {
                return d;
            }
        }
        return 1;
    }

    private static long power(long base, int n) {
        long product = 1;
        for (int i = 0; i < n; i++) {
            product *= base;
        }
        return product;
    }

    /** What the kinds of moths bite, leave and gain. */
    private static final class Kinds {
        /** By each kind's number, that of the kind it is directly under; a moth is under none. */
        private static final int[] UPPER = {-1, 0, 0, 2, 3, 0, 1};

        static boolean isOneOf(int kind, int upper) {
            int k = kind;
            for (int step = 0; step < KINDS && k >= 0; step++) {
                if (k == upper) {
                    return true;
                }
                k = UPPER[k];
            }
            return false;
        }

        /** The place that is bitten on the page whose words begin at begin, or NOWHERE. */
        static int bittenPlace(int kind, int taste, int fed, int[] words, int begin) {
            switch (kind) {
                case LARVA:
                    return firstWord(words, begin);
                case GRUB:
                    return lastWord(words, begin);
                case SILVER:
                    return firstOfParity(taste, words, begin);
                case SCHOLAR:
                case BISHOP:
                    int place = firstOfParity(taste, words, begin);
                    // They disdain a word below their taste, and don't look for a later one.
                    if (place != NOWHERE && words[begin + place] >= taste) {
                        return place;
                    }
                    return kind == BISHOP ? firstLike(taste, words, begin) : NOWHERE;
                case OLD:
                    return words[begin + fed % PLACES] == HOLE ? NOWHERE : fed % PLACES;
                default:
                    return firstLike(taste, words, begin);
            }
        }

        static int leftOf(int kind, int word) {
            switch (kind) {
                case LARVA:
                    return word - 1;
                case GRUB:
                    return Math.max(word - 2, HOLE);
                case SILVER:
                    return 10 - word;
                case SCHOLAR:
                    return learnedLeft(word);
                case BISHOP:
                    return learnedLeft(word) / 2;
                default:
                    return HOLE;
            }
        }

        static int gainBy(int kind, int word) {
            switch (kind) {
                case LARVA:
                    return 1;
                case GRUB:
                    return 2;
                case SILVER:
                    return word / 2;
                case SCHOLAR:
                case BISHOP:
                    return word / 2 + 1;
                case OLD:
                    return word + 1;
                default:
                    return word;
            }
        }

        private static int firstLike(int taste, int[] words, int begin) {
            for (int place = 0; place < PLACES; place++) {
                if (words[begin + place] == taste) {
                    return place;
                }
            }
            return NOWHERE;
        }

        private static int firstWord(int[] words, int begin) {
            for (int place = 0; place < PLACES; place++) {
                if (words[begin + place] != HOLE) {
                    return place;
                }
            }
            return NOWHERE;
        }

        private static int lastWord(int[] words, int begin) {
            for (int place = PLACES - 1; place >= 0; place--) {
                if (words[begin + place] != HOLE) {
                    return place;
                }
            }
            return NOWHERE;
        }

        private static int firstOfParity(int taste, int[] words, int begin) {
            for (int place = 0; place < PLACES; place++) {
                int word = words[begin + place];
                if (word != HOLE && word % 2 == taste % 2) {
                    return place;
                }
            }
            return NOWHERE;
        }

        private static int learnedLeft(int word) {
            return Math.min(10 - word + 1, MOST_WORD);
        }
    }

    /** All that an image keeps: pages, moths, spots, the night and z. */
    private static final class Drawer {
        /** Page after page. */
        final int[] words = new int[PAGES * PLACES];
        /** Moth after moth, each with its kind, page, taste and fed. */
        final int[] traits = new int[MOST_MOTHS * TRAITS];
        final int[] spots = new int[SPOTS];
        int moths = 0;
        int night = 0;
        int z = 1;

        Drawer() {
            for (int spot = 0; spot < SPOTS; spot++) {
                spots[spot] = NOTHING;
            }
        }

        void become(Drawer other) {
            System.arraycopy(other.words, 0, words, 0, words.length);
            System.arraycopy(other.traits, 0, traits, 0, traits.length);
            System.arraycopy(other.spots, 0, spots, 0, spots.length);
            moths = other.moths;
            night = other.night;
            z = other.z;
        }

        int wordAt(int page, int place) {
            return words[page * PLACES + place];
        }

        void setWord(int page, int place, int v) {
            words[page * PLACES + place] = v;
        }

        void setHoles(int page) {
            for (int place = 0; place < PLACES; place++) {
                setWord(page, place, HOLE);
            }
        }

        int saidBy(int page) {
            int said = 0;
            for (int place = 0; place < PLACES; place++) {
                said += wordAt(page, place) * (place + 1);
            }
            return said;
        }

        int placesWithWords(int page) {
            int set = 0;
            for (int place = 0; place < PLACES; place++) {
                if (wordAt(page, place) != HOLE) {
                    set |= 1 << place;
                }
            }
            return set;
        }

        int holesOf(int page) {
            return PLACES - Integer.bitCount(placesWithWords(page));
        }

        boolean isBare(int page) {
            return placesWithWords(page) == 0;
        }

        int unlikePlaces(int a, int b) {
            int unlike = 0;
            for (int place = 0; place < PLACES; place++) {
                if (wordAt(a, place) != wordAt(b, place)) {
                    unlike++;
                }
            }
            return unlike;
        }

        int copyPage(int from, int to) {
            int unlike = unlikePlaces(from, to);
            System.arraycopy(words, from * PLACES, words, to * PLACES, PLACES);
            return unlike;
        }

        boolean hasPageOf(Drawer other, int page) {
            for (int place = 0; place < PLACES; place++) {
                if (wordAt(page, place) != other.wordAt(page, place)) {
                    return false;
                }
            }
            return true;
        }

        boolean hasPagesOf(Drawer other) {
            for (int page = 0; page < PAGES; page++) {
                if (!hasPageOf(other, page)) {
                    return false;
                }
            }
            return true;
        }

        int allHoles() {
            int all = 0;
            for (int page = 0; page < PAGES; page++) {
                all += holesOf(page);
            }
            return all;
        }

        int allSaid() {
            int all = 0;
            for (int page = 0; page < PAGES; page++) {
                all += saidBy(page);
            }
            return all;
        }

        int barePages() {
            int set = 0;
            for (int page = 0; page < PAGES; page++) {
                if (isBare(page)) {
                    set |= 1 << page;
                }
            }
            return set;
        }

        boolean isFull() {
            return moths >= MOST_MOTHS;
        }

        /** The number of the new moth; only asked for while the drawer isn't full. */
        int addMoth(int kind, int page) {
            int moth = moths;
            setTrait(moth, ITS_KIND, kind);
            setTrait(moth, ITS_PAGE, page);
            setTrait(moth, ITS_TASTE, 1);
            setTrait(moth, ITS_FED, 0);
            moths++;
            return moth;
        }

        int trait(int moth, int what) {
            return traits[moth * TRAITS + what];
        }

        void setTrait(int moth, int what, int v) {
            traits[moth * TRAITS + what] = v;
        }

        void swapPages(int a, int b) {
            int page = trait(a, ITS_PAGE);
            setTrait(a, ITS_PAGE, trait(b, ITS_PAGE));
            setTrait(b, ITS_PAGE, page);
        }

        int mothsOn(int page) {
            int set = 0;
            for (int moth = 0; moth < moths; moth++) {
                if (trait(moth, ITS_PAGE) == page) {
                    set |= 1 << moth;
                }
            }
            return set;
        }

        int idleMoths() {
            int set = 0;
            for (int moth = 0; moth < moths; moth++) {
                if (bittenPlace(moth) == NOWHERE) {
                    set |= 1 << moth;
                }
            }
            return set;
        }

        int allFed() {
            int all = 0;
            for (int moth = 0; moth < moths; moth++) {
                all += trait(moth, ITS_FED);
            }
            return all;
        }

        int heldSpots() {
            int held = 0;
            for (int spot = 0; spot < SPOTS; spot++) {
                if (spots[spot] != NOTHING) {
                    held++;
                }
            }
            return held;
        }

        int bittenPlace(int moth) {
            return Kinds.bittenPlace(trait(moth, ITS_KIND), trait(moth, ITS_TASTE),
                    trait(moth, ITS_FED), words, trait(moth, ITS_PAGE) * PLACES);
        }

        void bite(int moth) {
            int place = bittenPlace(moth);
            if (place == NOWHERE) {
                return;
            }
            int kind = trait(moth, ITS_KIND);
            int page = trait(moth, ITS_PAGE);
            int word = wordAt(page, place);
            setWord(page, place, Kinds.leftOf(kind, word));
            int fed = trait(moth, ITS_FED) + Kinds.gainBy(kind, word);
            setTrait(moth, ITS_FED, Math.min(fed, MOST_FED));
        }

        void passNights(int nights, int outside) {
            for (int n = 0; n < nights; n++) {
                for (int moth = 0; moth < moths; moth++) {
                    if ((outside & 1 << moth) == 0) {
                        bite(moth);
                    }
                }
                night = Math.min(night + 1, LAST_NIGHT);
            }
        }

        int draw() {
            z = z * 1103515245 + 12345;
            return z >>> 8;
        }

        void leaveLightOn() {
            int moth = draw() % MOST_MOTHS;
            int page = draw() % PAGES;
            if (moth < moths) {
                setTrait(moth, ITS_PAGE, page);
            }
        }
    }

    private static final class Sheet {
        final int[] numbers = new int[MOST_NUMBERS];
        int bits = 0;
        int size = 0;

        boolean isMissing() {
            return bits == 0;
        }

        void make(int itsBits, int itsSize) {
            bits = itsBits;
            size = itsBits == 0 ? 0 : itsSize;
            for (int i = 0; i < MOST_NUMBERS; i++) {
                numbers[i] = 0;
            }
        }

        void set(int i, int v) {
            switch (bits) {
                case 8:
                    numbers[i] = (byte) v;
                    break;
                case 16:
                    numbers[i] = (short) v;
                    break;
                default:
                    numbers[i] = v;
                    break;
            }
        }

        boolean hasRun(int from, int n) {
            // size - n can't overflow once n is known not to be below 0.
            return from >= 0 && n >= 0 && from <= size - n;
        }
    }

    /** The bytes fed, read token by token; where reading stops, the token at hand is the fault. */
    private static final class Tape {
        private static final int END = 0;
        private static final int NAME = 1;
        private static final int NUMBER = 2;
        private static final int SIGN = 3;
        private static final int STRANGE = 4;
        private static final int FAULTY = -1;
        /** No number is asked for that has so much; from here on a number isn't read further. */
        private static final int TOO_MUCH = 1000;

        final byte[] bytes = new byte[MOST_BYTES];
        int size = 0;
        private int token = END;
        private int begin = 0;
        private int end = 0;
        private int value = 0;

        void append(byte b) {
            if (size < MOST_BYTES) {
                bytes[size] = b;
                size++;
            }
        }

        int empty() {
            int had = size;
            size = 0;
            return had;
        }

        /** How many items were read into the drawer, or -1 less the fault. */
        int readInto(Drawer drawer) {
            end = 0;
            step();
            for (int items = 1; items <= MOST_BYTES; items++) {
                if (!readItem(drawer)) {
                    break;
                }
                if (token == END) {
                    return items;
                }
                if (token != SIGN) {
                    break;
                }
                step();
            }
            return -1 - begin;
        }

        private boolean readItem(Drawer drawer) {
            if (isName("page")) {
                return readPage(drawer);
            }
            if (isName("empty")) {
                return takeBarePage(drawer) != FAULTY;
            }
            for (int kind = 0; kind < KINDS; kind++) {
                if (isName(kindName(kind))) {
                    return readMoth(drawer, kind);
                }
            }
            return false;
        }

        private boolean readMoth(Drawer drawer, int kind) {
            if (drawer.isFull()) {
                return false;
            }
            step();
            int moth = drawer.addMoth(kind, 0);
            return readTrait(drawer, moth, "on", ITS_PAGE, MOST_TRAIT[ITS_PAGE])
                    && readTrait(drawer, moth, "taste", ITS_TASTE, MOST_TRAIT[ITS_TASTE])
                    && readTrait(drawer, moth, "fed", ITS_FED, MOST_FED_TOLD);
        }

        private boolean readTrait(Drawer drawer, int moth, String name, int what, int most) {
            if (!isName(name)) {
                return true;
            }
            step();
            int v = takeNumber(LEAST_TRAIT[what], most);
            if (v == FAULTY) {
                return false;
            }
            drawer.setTrait(moth, what, v);
            return true;
        }

        private boolean readPage(Drawer drawer) {
            int page = takeBarePage(drawer);
            if (page == FAULTY) {
                return false;
            }
            for (int place = 0; place < PLACES; place++) {
                if (place > 0 && token != NUMBER) {
                    return true;
                }
                int v = takeNumber(HOLE, MOST_WORD);
                if (v == FAULTY) {
                    return false;
                }
                drawer.setWord(page, place, v);
            }
            return true;
        }

        /** The page whose number stands behind the name at hand, with holes alone; or FAULTY. */
        private int takeBarePage(Drawer drawer) {
            step();
            int page = takeNumber(0, PAGES - 1);
            if (page != FAULTY) {
                drawer.setHoles(page);
            }
            return page;
        }

        /** The number at hand, which is passed then; or FAULTY, and nothing is passed. */
        private int takeNumber(int least, int most) {
            if (token != NUMBER || !within(value, least, most)) {
                return FAULTY;
            }
            int taken = value;
            step();
            return taken;
        }

        private boolean isName(String name) {
            if (token != NAME || end - begin != name.length()) {
                return false;
            }
            for (int i = 0; i < name.length(); i++) {
                if (bytes[begin + i] != name.charAt(i)) {
                    return false;
                }
            }
            return true;
        }

        private static String kindName(int kind) {
            switch (kind) {
                case LARVA:
                    return "larva";
                case SILVER:
                    return "silver";
                case SCHOLAR:
                    return "scholar";
                case BISHOP:
                    return "bishop";
                case OLD:
                    return "old";
                case GRUB:
                    return "grub";
                default:
                    return "moth";
            }
        }

        /** Passes the token at hand and takes the next one to hand. */
        private void step() {
            begin = end;
            while (begin < size && bytes[begin] == ' ') {
                begin++;
            }
            end = begin;
            while (end < size && bytes[end] >= 'a' && bytes[end] <= 'z') {
                end++;
            }
            if (end > begin) {
                token = NAME;
                return;
            }
            value = 0;
            while (end < size && bytes[end] >= '0' && bytes[end] <= '9') {
                if (value < TOO_MUCH) {
                    value = value * 10 + bytes[end] - '0';
                }
                end++;
            }
            if (end > begin) {
                token = NUMBER;
            } else if (begin == size) {
                token = END;
            } else {
                token = bytes[begin] == ';' ? SIGN : STRANGE;
                end++;
            }
        }
    }
}
