import java.util.Arrays;

/** A whale, its tellers, the sea round an island, and a finder; README.md tells how it is used. */
public final class AmberGrains {
    public static final int NONE = -1, BAD = -2, STATE = -3, FULL = -4;
    public static final long NO = Long.MIN_VALUE;

    private static final int NOTHING = -11, CAST = -12, PLACE = -13, SIZE = -14;
    private static final int NEVER = -5, OUT = -10001;

    private static final int TELLER = 0, BOSUN = 1, BRIDE = 2, TWIN = 3, CAPTAIN = 4, CHILD = 5, TOLD = 6;
    private static final int SILENT = 0, WITHIN = 1, ADRIFT = 2, ASHORE = 3, FOUND = 4;
    private static final int DAY_GOES = 0, ONE_IS_TOLD = 1, ONE_IS_SILENT = 2, FINDER_IS_AT = 3;

    private static final int TELLERS = 6, PLACES = 12, PARTS = 4, SEAS = 6, SIGNS = 100, TAPES = 6, ITEMS = 60;
    private static final int MOST_WEIGHT = 20, MOST_V = 9, MOST_CURRENT = 9, MOST_SHORE = 4095;
    private static final int LAST_DAY = 9999, MOST_DAYS = 60, ODDS_DAYS = 20, SEEN_DAYS = 12;
    private static final int ROOM_WITHOUT = 30;
    private static final int NO_BOUND = 2147483647;

    private final World now = new World(LAST_DAY);
    // What is asked goes on beyond the last day, so there an age has no bound but its type's.
    private final World trial = new World(NO_BOUND);
    private final World imaged = new World(LAST_DAY);
    private boolean hasImage = false;

    private final Rows seen = new Rows(5);
    private final Rows plans = new Rows(10);
    private final Rows books = new Rows(8);
    private final Rows imagedSeen = new Rows(5);
    private final Rows imagedPlans = new Rows(10);
    private final Rows imagedBooks = new Rows(8);

    private final Reader reader = new Reader();
    private int seas = 0;
    private final Tape[] tapes = new Tape[TAPES];
    private final Voice voice = new Voice();

    public AmberGrains() {
        for (int t = 0; t < TAPES; t++) {
            tapes[t] = new Tape();
        }
    }

    // ---- tellers, seas

    public int teller(int kind, int v, int weight) {
        if (kind < TELLER || kind > TOLD) {
            return NONE;
        }
        if (v < 0 || v > MOST_V || weight < 0 || weight > MOST_WEIGHT) {
            return BAD;
        }
        if (now.tellers >= TELLERS) {
            return FULL;
        }
        return now.comesNew(kind, v, weight);
    }

    public int of(int teller, int what) {
        if (!now.has(teller)) {
            return OUT;
        }
        switch (what) {
            case 0: return now.kind[teller];
            case 1: return now.v[teller];
            case 2: return now.weight[teller];
            case 3: return now.state[teller];
            case 4: return now.age[teller];
            case 5: return now.place[teller];
            case 6: return now.load(teller);
            case 7: return blowOf(teller);
            case 8: return newsOf(teller);
            case 10 + ADRIFT:
            case 10 + ASHORE:
            case 10 + FOUND:
                trial.becomes(now);
                return trialComes(teller, what - 10);
            default: return OUT;
        }
    }

    public int tell(int teller) {
        if (!now.has(teller)) {
            return NONE;
        }
        if (now.state[teller] != SILENT) {
            return STATE;
        }
        now.isTold(teller);
        return Integer.bitCount(now.withinBits());
    }

    public int weigh(int teller, int n) {
        if (!now.has(teller)) {
            return NONE;
        }
        if (n < 0 || n > MOST_WEIGHT) {
            return BAD;
        }
        int was = now.weight[teller];
        now.weight[teller] = n;
        return was;
    }

    public int put(int teller, int place, int state) {
        if (!now.has(teller) || !isPlace(place)) {
            return NONE;
        }
        if (state < ADRIFT || state > FOUND) {
            return BAD;
        }
        int was = now.state[teller];
        now.place[teller] = place;
        now.state[teller] = state;
        return was;
    }

    public int sea(int what, int n) {
        if (what < 0 || what >= 2 + PARTS) {
            return NONE;
        }
        int most = what == 0 ? MOST_SHORE : what == 1 ? PLACES - 1 : MOST_CURRENT;
        if (n < 0 || n > most) {
            return BAD;
        }
        int was;
        if (what == 0) {
            was = now.shore;
            now.shore = n;
        } else if (what == 1) {
            was = now.finder;
            now.finder = n;
        } else {
            was = now.current[what - 2];
            now.current[what - 2] = n;
        }
        return was;
    }

    public int row(int teller, int part, int n) {
        if (!now.has(teller) || part < 0 || part >= PARTS) {
            return NONE;
        }
        if (n < 0 || n > 9) {
            return BAD;
        }
        if (now.kind[teller] != TOLD) {
            return STATE;
        }
        int was = now.row[teller * PARTS + part];
        now.row[teller * PARTS + part] = n;
        return was;
    }

    public int feed(int sign) {
        if (sign < 0 || sign > 127) {
            return BAD;
        }
        return reader.takes(sign);
    }

    public int chart() {
        if (seas >= SEAS) {
            return FULL;
        }
        Sea sea = reader.readsSea();
        if (sea == null) {
            return -10 - reader.fault();
        }
        now.sea = sea;
        seas++;
        return seas - 1;
    }

    public int told(int what) {
        switch (what) {
            case 0: return now.day;
            case 1: return now.room();
            case 2: return now.shore;
            case 3: return now.finder;
            case 4: return now.howManyFound();
            case 5: return now.withinBits();
            case 6: return now.withinLoads();
            case 10:
            case 11:
            case 12:
            case 13: return now.current[what - 10];
            default: return OUT;
        }
    }

    // ---- days

    public int pass(int n) {
        if (n < 0 || n > MOST_DAYS) {
            return BAD;
        }
        if (now.day + n > LAST_DAY) {
            return STATE;
        }
        now.daysGo(n);
        return now.day;
    }

    public int on(int n, int what) {
        int teller = what >= 20 ? what - 20 : what - 10;
        if (what != 0 && !now.has(teller)) {
            return NONE;
        }
        if (n < 0 || n > MOST_DAYS) {
            return BAD;
        }
        trial.becomes(now);
        trial.daysGo(n);
        if (what == 0) {
            return trial.howManyFound();
        }
        return what >= 20 ? trial.place[teller] : trial.state[teller];
    }

    public int begin(int n, int what) {
        if (what < 0 || what > 1) {
            return NONE;
        }
        if (n < 1 || n > ODDS_DAYS) {
            return BAD;
        }
        int where = 0;
        int most = -1;
        for (int place = 0; place < PLACES; place++) {
            trialFromFinderAt(place, n);
            int found = trial.howManyFound();
            if (found > most) {
                most = found;
                where = place;
            }
        }
        return what == 0 ? where : most;
    }

    // ---- seen, odds

    public int see(int teller, int n, int state) {
        if (teller == -1) {
            return seen.emptied();
        }
        if (!now.has(teller)) {
            return NONE;
        }
        if (n < 0 || n > SEEN_DAYS || state < SILENT || state > FOUND) {
            return BAD;
        }
        return seen.takes(teller, n, state);
    }

    public int weights(int teller) {
        if (!now.has(teller)) {
            return NONE;
        }
        int bits = 0;
        for (int n = 0; n <= MOST_WEIGHT; n++) {
            trial.becomes(now);
            trial.weight[teller] = n;
            if (trialIsAsSeen()) {
                bits |= 1 << n;
            }
        }
        return bits;
    }

    public int can(int teller, int what) {
        if (!now.has(teller) || what < 0 || what > 1) {
            return NONE;
        }
        int many = 0;
        int least = NEVER;
        for (int n = 0; n <= MOST_V; n++) {
            trial.becomes(now);
            trial.v[teller] = n;
            if (trialIsAsSeen()) {
                many++;
                least = least == NEVER ? n : least;
            }
        }
        return what == 0 ? many : least;
    }

    public long odds(int teller, int n, int part) {
        if (!now.has(teller) || n < 0 || n > ODDS_DAYS || part < 0 || part > 1) {
            return NO;
        }
        int found = 0;
        for (int place = 0; place < PLACES; place++) {
            trialFromFinderAt(place, n);
            if (trial.state[teller] == FOUND) {
                found++;
            }
        }
        return inLowestTerms(found, PLACES, part);
    }

    public long mean(int part) {
        int many = Integer.bitCount(now.withinBits());
        if (part < 0 || part > 1 || many == 0) {
            return NO;
        }
        return inLowestTerms(now.withinLoads(), many, part);
    }

    // ---- plans, books

    public int plan(int what, int n) {
        if (what == -1) {
            return plans.emptied();
        }
        if (what < DAY_GOES || what > FINDER_IS_AT) {
            return NONE;
        }
        boolean ofTeller = what == ONE_IS_TOLD || what == ONE_IS_SILENT;
        if (ofTeller && !now.has(n) || what == FINDER_IS_AT && !isPlace(n)) {
            return NONE;
        }
        return plans.takes(what, n, 0);
    }

    public int ends(int what) {
        if (what < 0 || what > 1) {
            return NONE;
        }
        trial.becomes(now);
        for (int r = 0; r < plans.size; r++) {
            trialDoes(plans.cell(r, 0), plans.cell(r, 1));
        }
        return what == 0 ? trial.howManyFound() : trial.withinBits();
    }

    public int book(int teller, int place) {
        if (teller == -1) {
            return books.emptied();
        }
        if (!now.has(teller) || !isPlace(place)) {
            return NONE;
        }
        return books.takes(teller, place, 0);
    }

    public int looked() {
        for (int r = 0; r < books.size; r++) {
            int teller = books.cell(r, 0);
            if (now.has(teller) && now.place[teller] != books.cell(r, 1)) {
                return r;
            }
        }
        return NEVER;
    }

    // ---- judging, the image, acts, tapes

    public int judge(int tape, int i) {
        if (!isTape(tape)) {
            return NONE;
        }
        Tape ages = tapes[tape];
        if (ages.sort != Tape.EMPTY && ages.sort != Tape.INTS) {
            return CAST;
        }
        for (int p = 0; p < now.tellers; p++) {
            if (i < 0 || i >= ages.size - p) {
                return 100 + p;
            }
            if (ages.items[i + p] != now.age[p]) {
                return p;
            }
        }
        return NEVER;
    }

    public int image() {
        imaged.becomes(now);
        imagedSeen.becomes(seen);
        imagedPlans.becomes(plans);
        imagedBooks.becomes(books);
        hasImage = true;
        return now.tellers;
    }

    public int undo() {
        if (!hasImage) {
            return STATE;
        }
        now.becomes(imaged);
        seen.becomes(imagedSeen);
        plans.becomes(imagedPlans);
        books.becomes(imagedBooks);
        return now.tellers;
    }

    public int act(int teller, int act, int x) {
        if (!now.has(teller) || act < Voice.SINKS || act > Voice.TELLS) {
            voice.ran = 0;
            return 0;
        }
        voice.becomesThatOf(teller, now.kind[teller], now.v[teller]);
        return voice.does(act, x);
    }

    public int trace(int i) {
        if (i < 0 || i >= voice.ran || i >= voice.kept.length) {
            return NONE;
        }
        return voice.kept[i];
    }

    public int taken(int teller, int k) {
        if (k < TELLER || k > TOLD) {
            return BAD;
        }
        if (!now.has(teller)) {
            return NOTHING;
        }
        int kind = now.kind[teller];
        boolean fits = k == TELLER || k == kind || k == Voice.kindAbove(kind);
        return fits ? kind : CAST;
    }

    public int count(int what) {
        switch (what) {
            case 0: return now.tellers;
            case 1: return seas;
            case 2: return seen.size;
            case 3: return plans.size;
            case 4: return books.size;
            case 5: return reader.length;
            case 6: return voice.ran;
            default: return BAD;
        }
    }

    public int tape(int tape, int sort, int n) {
        if (!isTape(tape)) {
            return NONE;
        }
        if (sort == Tape.EMPTY) {
            tapes[tape].becomesRow(Tape.EMPTY, 0);
            return 1;
        }
        if (sort < Tape.BYTES || sort > Tape.BOOLEANS || n > ITEMS) {
            return BAD;
        }
        if (n < 0) {
            return SIZE;
        }
        tapes[tape].becomesRow(sort, n);
        return 1;
    }

    public int item(int tape, int i, long v) {
        if (!isTape(tape)) {
            return NONE;
        }
        Tape row = tapes[tape];
        if (row.sort == Tape.EMPTY) {
            return NOTHING;
        }
        if (i < 0 || i >= row.size) {
            return PLACE;
        }
        row.items[i] = row.fitted(v);
        return 1;
    }

    public long read(int tape, int i) {
        // A tape that holds nothing has size 0, so no place is on it.
        if (!isTape(tape) || i < 0 || i >= tapes[tape].size) {
            return NO;
        }
        return tapes[tape].items[i];
    }

    public int shift(int tape, int i, int other, int j, int n) {
        if (!isTape(tape) || !isTape(other)) {
            return NONE;
        }
        Tape from = tapes[tape];
        Tape to = tapes[other];
        if (from.sort == Tape.EMPTY || to.sort == Tape.EMPTY) {
            return NOTHING;
        }
        if (from.sort != to.sort) {
            return CAST;
        }
        // Taken from the sizes, as i + n could wrap.
        if (n < 0 || i < 0 || j < 0 || i > from.size - n || j > to.size - n) {
            return PLACE;
        }
        System.arraycopy(from.items, i, to.items, j, n);
        return n;
    }

    // ---- what the calls above share

    private static boolean isPlace(int place) {
        return place >= 0 && place < PLACES;
    }

    private static boolean isTape(int tape) {
        return tape >= 0 && tape < TAPES;
    }

    /** One part (0 above, 1 below the line) of a fraction whose lower part is above 0. */
    private static long inLowestTerms(int above, int below, int part) {
        int asked = part == 0 ? above : below;
        for (int by = below; by > 1; by--) {
            if (above % by == 0 && below % by == 0) {
                return asked / by;
            }
        }
        return asked;
    }

    private int blowOf(int teller) {
        int blow = NEVER;
        int least = MOST_DAYS + 1;
        for (int current = 0; current <= MOST_CURRENT; current++) {
            trial.becomes(now);
            Arrays.fill(trial.current, current);
            int days = trialComes(teller, ASHORE);
            if (days != NEVER && days < least) {
                least = days;
                blow = current;
            }
        }
        return blow;
    }

    private int newsOf(int teller) {
        trial.becomes(now);
        int asItIs = trialComes(teller, ADRIFT);
        int least = asItIs == NEVER ? MOST_DAYS + 1 : asItIs;
        int news = NEVER;
        for (int p = 0; p < now.tellers; p++) {
            if (now.state[p] == SILENT) {
                trial.becomes(now);
                trial.isTold(p);
                int days = trialComes(teller, ADRIFT);
                if (days != NEVER && days < least) {
                    least = days;
                    news = p;
                }
            }
        }
        return news;
    }

    /** COMES, from how the trial stands. */
    private int trialComes(int teller, int state) {
        for (int days = 0; days < MOST_DAYS; days++) {
            if (trial.state[teller] >= state) {
                return days;
            }
            trial.dayGoes();
        }
        return trial.state[teller] >= state ? MOST_DAYS : NEVER;
    }

    private void trialFromFinderAt(int place, int days) {
        trial.becomes(now);
        trial.finder = place;
        trial.daysGo(days);
    }

    /** Whether all that is SEEN will be so, from how the trial stands. */
    private boolean trialIsAsSeen() {
        int last = -1;
        for (int r = 0; r < seen.size; r++) {
            last = Math.max(last, seen.cell(r, 1));
        }
        for (int day = 0; day <= last; day++) {
            if (!trialIsAsSeenOn(day)) {
                return false;
            }
            trial.dayGoes();
        }
        return true;
    }

    private boolean trialIsAsSeenOn(int day) {
        for (int r = 0; r < seen.size; r++) {
            int teller = seen.cell(r, 0);
            if (seen.cell(r, 1) == day && trial.has(teller) && trial.state[teller] != seen.cell(r, 2)) {
                return false;
            }
        }
        return true;
    }

    /** One row of the PLAN. */
    private void trialDoes(int what, int n) {
        if (what == DAY_GOES) {
            trial.dayGoes();
        } else if (what == FINDER_IS_AT) {
            trial.finder = n;
        } else if (what == ONE_IS_SILENT && trial.has(n)) {
            trial.isSilent(n);
        } else if (what == ONE_IS_TOLD && trial.has(n) && trial.state[n] == SILENT) {
            trial.isTold(n);
        }
    }

    /** All that days change, or that they are changed by. */
    private static final class World {
        final int oldest;
        final int[] kind = new int[TELLERS];
        final int[] v = new int[TELLERS];
        final int[] weight = new int[TELLERS];
        final int[] state = new int[TELLERS];
        final int[] age = new int[TELLERS];
        final int[] place = new int[TELLERS];
        final int[] row = new int[TELLERS * PARTS];
        final int[] current = {1, 1, 1, 1};
        final int[] letters = new int[Sea.LETTERS.length()];
        int tellers = 0;
        int shore = 273;
        int finder = 0;
        int day = 0;
        Sea sea = null;

        World(int oldest) {
            this.oldest = oldest;
        }

        void becomes(World other) {
            System.arraycopy(other.kind, 0, kind, 0, TELLERS);
            System.arraycopy(other.v, 0, v, 0, TELLERS);
            System.arraycopy(other.weight, 0, weight, 0, TELLERS);
            System.arraycopy(other.state, 0, state, 0, TELLERS);
            System.arraycopy(other.age, 0, age, 0, TELLERS);
            System.arraycopy(other.place, 0, place, 0, TELLERS);
            System.arraycopy(other.row, 0, row, 0, TELLERS * PARTS);
            System.arraycopy(other.current, 0, current, 0, PARTS);
            tellers = other.tellers;
            shore = other.shore;
            finder = other.finder;
            day = other.day;
            sea = other.sea;
        }

        boolean has(int teller) {
            return teller >= 0 && teller < tellers;
        }

        /** A number that was another teller's before an undo may come anew, so all of it is set. */
        int comesNew(int newKind, int newV, int newWeight) {
            int p = tellers;
            if (p >= TELLERS) {
                return FULL;
            }
            kind[p] = newKind;
            v[p] = newV;
            weight[p] = newWeight;
            state[p] = SILENT;
            age[p] = 0;
            place[p] = 0;
            for (int part = 0; part < PARTS; part++) {
                row[p * PARTS + part] = 0;
            }
            tellers++;
            return p;
        }

        void isTold(int teller) {
            state[teller] = WITHIN;
            age[teller] = 0;
        }

        void isSilent(int teller) {
            state[teller] = SILENT;
            age[teller] = 0;
        }

        int room() {
            return sea == null ? ROOM_WITHOUT : sea.room;
        }

        int howManyFound() {
            int many = 0;
            for (int p = 0; p < tellers; p++) {
                if (state[p] == FOUND) {
                    many++;
                }
            }
            return many;
        }

        int withinBits() {
            int bits = 0;
            for (int p = 0; p < tellers; p++) {
                if (state[p] == WITHIN) {
                    bits |= 1 << p;
                }
            }
            return bits;
        }

        int withinLoads() {
            int loads = 0;
            for (int p = 0; p < tellers; p++) {
                if (state[p] == WITHIN) {
                    loads += load(p);
                }
            }
            return loads;
        }

        int load(int p) {
            int sum = weight[p];
            if (sea != null) {
                fillLetters(p);
                sum += sea.adds(letters);
            }
            switch (kind[p]) {
                case BOSUN: return sum + v[p];
                case BRIDE: return sum / 2;
                case TWIN: return sum + twinsShare(p);
                case CAPTAIN: return age[p] < v[p] ? 0 : sum + v[p];
                case CHILD: return sum / 2 + Math.min(age[p], 9);
                case TOLD: return sum + twinsShare(p) + row[p * PARTS + day % PARTS];
                default: return sum;
            }
        }

        /** In the order of Sea.LETTERS. */
        private void fillLetters(int p) {
            letters[0] = p;
            letters[1] = kind[p];
            letters[2] = v[p];
            letters[3] = weight[p];
            letters[4] = age[p] % 10;
            letters[5] = day % 10;
        }

        private int twinsShare(int p) {
            for (int q = 0; q < tellers; q++) {
                if (q != p && state[q] == WITHIN && (kind[q] == TWIN || kind[q] == TOLD)) {
                    return 5;
                }
            }
            return 0;
        }

        void daysGo(int n) {
            for (int d = 0; d < n; d++) {
                dayGoes();
            }
        }

        void dayGoes() {
            bringUp();
            drift();
            finder = (finder + 1) % PLACES;
            for (int p = 0; p < tellers; p++) {
                if (state[p] == ASHORE && place[p] == finder) {
                    state[p] = FOUND;
                }
                if (state[p] == WITHIN && age[p] < oldest) {
                    age[p]++;
                }
            }
            day++;
        }

        private void bringUp() {
            int loads = 0;
            int greatest = 0;
            int heaviest = -1;
            for (int p = 0; p < tellers; p++) {
                if (state[p] == WITHIN) {
                    int load = load(p);
                    loads += load;
                    if (heaviest < 0 || load > greatest) {
                        greatest = load;
                        heaviest = p;
                    }
                }
            }
            if (heaviest >= 0 && loads > room()) {
                state[heaviest] = ADRIFT;
                place[heaviest] = (day + 3 * heaviest) % PLACES;
            }
        }

        private void drift() {
            int by = current[day % PARTS];
            for (int p = 0; p < tellers; p++) {
                if (state[p] == ADRIFT) {
                    place[p] = (place[p] + by) % PLACES;
                    if ((shore >> place[p] & 1) == 1) {
                        state[p] = ASHORE;
                    }
                }
            }
        }
    }

    /** What was read from a text: tests and what joins them, each behind what it works on. */
    private static final class Sea {
        static final String LETTERS = "pkvwad";
        static final int LESS = 0, SAME = 1, MORE = 2, NOT = 3, AND = 4, OR = 5, SOUR = 6, SWEET = 7;
        final int[] steps;
        final int room;

        Sea(int[] steps, int room) {
            this.steps = steps;
            this.room = room;
        }

        static int step(int sort, int letter, int n) {
            return n << 8 | letter << 4 | sort;
        }

        /** What all sour add and all sweet take away, for one whose letters are these. */
        int adds(int[] letters) {
            int total = 0;
            // What holds lies as bits, the newest lowest: a text nests too little to fill an int.
            int held = 0;
            for (int i = 0; i < steps.length; i++) {
                int letter = steps[i] >> 4 & 15;
                int worth = letter < letters.length ? letters[letter] : 0;
                int n = steps[i] >> 8;
                int newest = held & 1;
                switch (steps[i] & 15) {
                    case LESS: held = held << 1 | (worth < n ? 1 : 0); break;
                    case SAME: held = held << 1 | (worth == n ? 1 : 0); break;
                    case MORE: held = held << 1 | (worth > n ? 1 : 0); break;
                    case NOT: held ^= 1; break;
                    case AND: held = held >> 1 & (newest | -2); break;
                    case OR: held = held >> 1 | newest; break;
                    case SOUR: total += newest * n; held >>= 1; break;
                    case SWEET: total -= newest * n; held >>= 1; break;
                    default: break;
                }
            }
            return total;
        }
    }

    /** THE TEXT, and how it is read: each part stops at the first byte that can't go on so. */
    private static final class Reader {
        private static final int MOST_CLAUSES = 10, MOST_WITHIN = 4;
        private final byte[] text = new byte[SIGNS];
        private final int[] steps = new int[SIGNS];
        private int length = 0;
        private int at = 0;
        private boolean fits = true;
        private int stepsRead = 0;
        private int room = ROOM_WITHOUT;

        int takes(int sign) {
            if (length >= SIGNS) {
                return FULL;
            }
            text[length] = (byte) sign;
            length++;
            return length;
        }

        /** The sea that the text is, or null; the text is empty then. */
        Sea readsSea() {
            at = 0;
            fits = true;
            stepsRead = 0;
            room = ROOM_WITHOUT;
            clause();
            for (int k = 1; k < MOST_CLAUSES && fits && sign() == ';'; k++) {
                at++;
                clause();
            }
            boolean whole = fits && at == length;
            length = 0;
            return whole ? new Sea(Arrays.copyOf(steps, stepsRead), room) : null;
        }

        int fault() {
            return at;
        }

        private void clause() {
            if (sign() == 'r') {
                letters("room ");
                room = number();
                return;
            }
            boolean sour = at + 1 < length && text[at + 1] == 'o';
            letters(sour ? "sour " : "sweet ");
            int n = number();
            letters(" ");
            either(0);
            step(sour ? Sea.SOUR : Sea.SWEET, 0, n);
        }

        /** E; as & binds closer, an | waits for what stands behind its right side. */
        private void either(int depth) {
            boolean waits = false;
            single(depth);
            for (int k = 0; k < SIGNS && fits && (sign() == '&' || sign() == '|'); k++) {
                boolean both = sign() == '&';
                at++;
                if (!both && waits) {
                    step(Sea.OR, 0, 0);
                }
                waits = waits || !both;
                single(depth);
                if (both) {
                    step(Sea.AND, 0, 0);
                }
            }
            if (waits) {
                step(Sea.OR, 0, 0);
            }
        }

        /** F; what stands behind an ! is within it, so each ! counts as deep as a ( does. */
        private void single(int depth) {
            int nots = 0;
            while (depth + nots < MOST_WITHIN && fits && sign() == '!') {
                at++;
                nots++;
            }
            int within = depth + nots;
            if (within < MOST_WITHIN && fits && sign() == '(') {
                at++;
                either(within + 1);
                letters(")");
            } else {
                test();
            }
            for (int k = 0; k < nots; k++) {
                step(Sea.NOT, 0, 0);
            }
        }

        private void test() {
            int letter = fits && at < length ? Sea.LETTERS.indexOf((char) text[at]) : -1;
            if (letter < 0) {
                fits = false;
                return;
            }
            at++;
            int sort = sign() - '<';
            if (sort < Sea.LESS || sort > Sea.MORE) {
                fits = false;
                return;
            }
            at++;
            step(sort, letter, number());
        }

        /** The byte that comes next, or -1 at the end. */
        private int sign() {
            return at < length ? text[at] : -1;
        }

        private void letters(String these) {
            for (int i = 0; i < these.length() && fits; i++) {
                if (sign() == these.charAt(i)) {
                    at++;
                } else {
                    fits = false;
                }
            }
        }

        private int number() {
            int n = 0;
            int digits = 0;
            while (digits < 2 && fits && sign() >= '0' && sign() <= '9') {
                n = n * 10 + sign() - '0';
                at++;
                digits++;
            }
            fits = fits && digits > 0;
            return n;
        }

        private void step(int sort, int letter, int n) {
            if (fits && stepsRead < SIGNS) {
                steps[stepsRead] = Sea.step(sort, letter, n);
                stepsRead++;
            }
        }
    }

    /** Rows told by hand, of up to three numbers. */
    private static final class Rows {
        private static final int WIDE = 3;
        private final int most;
        private final int[] cells;
        private int size = 0;

        Rows(int most) {
            this.most = most;
            this.cells = new int[most * WIDE];
        }

        int emptied() {
            size = 0;
            return 0;
        }

        int takes(int first, int second, int third) {
            if (size >= most) {
                return FULL;
            }
            cells[size * WIDE] = first;
            cells[size * WIDE + 1] = second;
            cells[size * WIDE + 2] = third;
            size++;
            return size;
        }

        int cell(int row, int column) {
            return cells[row * WIDE + column];
        }

        void becomes(Rows other) {
            System.arraycopy(other.cells, 0, cells, 0, Math.min(cells.length, other.cells.length));
            size = Math.min(other.size, most);
        }
    }

    /** The bodies of the acts of one teller, and which of them ran. */
    private static final class Voice {
        static final int SINKS = 0, SIGHS = 1, TELLS = 2;
        private static final int ACTS = 3, MOST_DEEP = 20;
        private static final int[] ABOVE = {TELLER, TELLER, TELLER, TELLER, BOSUN, BRIDE, TWIN};
        // By kind and act: the body that a call finds from that kind on.
        private static final int[] BODIES = {
            10, 11, 12,
            10, 20, 12,
            30, 11, 12,
            10, 11, 40,
            50, 51, 12,
            30, 11, 60,
            71, 70, 40,
        };
        private final int[] kept = new int[20];
        private int ran = 0;
        private int i = 0;
        private int kind = TELLER;
        private int v = 0;

        /** The kind above, TELLER above itself. */
        static int kindAbove(int kind) {
            return kind < 0 || kind >= ABOVE.length ? TELLER : ABOVE[kind];
        }

        void becomesThatOf(int number, int itsKind, int itsV) {
            i = number;
            kind = itsKind;
            v = itsV;
            ran = 0;
        }

        int does(int act, int x) {
            return from(kind, act, x, 0);
        }

        /** An act as a super call has it: the body is looked for from the given kind on. */
        private int from(int first, int act, int x, int depth) {
            int at = first * ACTS + act;
            if (depth > MOST_DEEP || at < 0 || at >= BODIES.length) {
                return 0;
            }
            if (ran < kept.length) {
                kept[ran] = BODIES[at];
            }
            ran++;
            return body(BODIES[at], x, depth + 1);
        }

        private int body(int number, int x, int depth) {
            switch (number) {
                case 10: return x + i;
                case 11: return from(kind, SINKS, x, depth) - v;
                case 12: return from(kind, SIGHS, x, depth) * 2;
                case 20: return from(TELLER, SIGHS, x, depth) ^ 6;
                case 30: return from(TELLER, SINKS, x * 3, depth);
                case 40: return from(TELLER, TELLS, x, depth) + from(kind, SIGHS, 1, depth);
                case 50: return -from(BOSUN, SINKS, x, depth);
                case 51: return from(BOSUN, SIGHS, x + 1, depth);
                case 60: return from(BRIDE, TELLS, x - i, depth);
                case 70: return from(TWIN, SIGHS, x, depth) + from(TWIN, SINKS, 2, depth);
                case 71: return from(TWIN, SINKS, x, depth) ^ v;
                default: return 0;
            }
        }
    }

    /** A row of one sort of numbers; longs hold each sort's, cut to what an item has. */
    private static final class Tape {
        static final int EMPTY = -1, BYTES = 0, SHORTS = 1, INTS = 2, LONGS = 3, BOOLEANS = 4;
        private final long[] items = new long[ITEMS];
        private int sort = EMPTY;
        private int size = 0;

        void becomesRow(int newSort, int n) {
            Arrays.fill(items, 0L);
            sort = newSort;
            size = Math.max(0, Math.min(n, ITEMS));
        }

        long fitted(long v) {
            switch (sort) {
                case BYTES: return (byte) v;
                case SHORTS: return (short) v;
                case INTS: return (int) v;
                case BOOLEANS: return v != 0 ? 1 : 0;
                default: return v;
            }
        }
    }
}
