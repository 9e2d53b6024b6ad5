import java.util.Arrays;

/** The town's new bell, cast from what each GIVER gives by his guilt; ../shared/DOC.md has the promises. */
public final class GuiltBell {
    public static final int BAD = -1, STATE = -2, FULL = -3, NONE = -4;

    private static final int MOST_GIVERS = 4, BELL_METALS = 3, IRON = 3, ALL_METALS = 4;
    private static final int KIND = 0, GUILT = 1, METAL = 2, DEED = 3, SORRY = 4, HOLDS = 5, TRAITS = 6;
    private static final int[] HIGHEST_TRAIT = {3, 9, 3, 3, 1, 9};
    private static final int[] PITCH = {12, 6, 3};
    private static final int MOST_ADDED = 40, MOST_GIVEN = 40, LOWEST_NOTE = 3, HIGHEST_NOTE = 12, HIGHEST_SWEET = 10;
    private static final int USUAL_NOTE = 6, STRIKES_AT_ONCE = 99, STRUCK_BOUND = 1000, LONGEST_WEAR = 500;
    private static final int TAPS = 9, FIGURES = 10, MOST_SEEN = 6, MOST_DRIFTS = 60, OUT_OF = 10;
    private static final int TAPE_BYTES = 160, HIGHEST_BYTE = 127, IMAGES = 2;
    private static final int SHEETS = 4, LANES = 3, MOST_CELLS = 40, MOST_READ = 20, NOTHING = -1;
    private static final int NULL_FAULT = 1, INDEX_FAULT = 2, CAST_FAULT = 3, SIZE_FAULT = 4;

    private final Town town = new Town();
    /** The town that a what-if changes, so that the told one stays. */
    private final Town trial = new Town();
    private final Melt melt = new Melt();
    private final Tape tape = new Tape();
    private final Scribe scribe = new Scribe();
    private final Guesses guesses = new Guesses();
    private final Town[] images = {new Town(), new Town()};
    private final boolean[] kept = new boolean[IMAGES];
    private final Sheet[] sheets = {new Sheet(), new Sheet(), new Sheet(), new Sheet()};
    private int latestTorn = 0;

    public GuiltBell() {
    }

    // ---- the text, what there is

    public int feed(int c) {
        if (!within(c, 0, HIGHEST_BYTE)) return BAD;
        if (tape.length >= TAPE_BYTES) return FULL;
        tape.bytes[tape.length] = c;
        tape.length++;
        return tape.length;
    }

    public int end(int n) {
        if (!within(n, 0, tape.length)) return BAD;
        int had = tape.length;
        tape.length = n;
        return had;
    }

    public int text() {
        int answer = scribe.readText(tape);
        tape.length = 0;
        if (scribe.found != 0) return answer;
        town.becomes(scribe.draft);
        guesses.seen = 0;
        for (int k = 0; k < IMAGES; k++) kept[k] = false;
        return answer;
    }

    public int fault() {
        return scribe.found;
    }

    public int rule(int what) {
        switch (what) {
            case 0: return town.givers;
            case 1: return town.asked;
            case 2: return town.leastSweet;
            case 3: return town.struck;
            case 4: return town.whoHas(SORRY);
            case 5: return town.whoHas(HOLDS);
            default: return BAD;
        }
    }

    public int giver(int g, int what) {
        if (!isGiver(g)) return BAD;
        if (within(what, 0, TRAITS - 1)) return town.trait(g, what);
        if (what == 6) return town.owes(g);
        return what == 7 ? town.gives(g) : BAD;
    }

    public int metal(int m, int what) {
        if (!within(m, 0, IRON) || !within(what, 0, m == IRON ? 0 : 2)) return BAD;
        if (what == 1) return town.added[m];
        if (what == 2) return town.worn[m];
        cast(town);
        return melt.amount[m];
    }

    public int bell(int what) {
        cast(town);
        switch (what) {
            case 0: return melt.weight;
            case 1: return melt.pitch();
            case 2: return melt.sweetness();
            case 3: return melt.isTrue(town) ? 1 : 0;
            case 4: return town.flaws();
            default: return BAD;
        }
    }

    public int tap(int i) {
        if (!within(i, 0, TAPS - 1)) return BAD;
        cast(town);
        int sum = i * melt.weight;
        for (int g = 0; g < town.givers; g++) sum += melt.part[g] * tapFactor(i, g);
        return sum % FIGURES;
    }

    // ---- what is changed

    public int alter(int g, int what, int v) {
        if (!isGiver(g) || !within(what, 0, TRAITS - 1)) return BAD;
        if (!within(v, 0, HIGHEST_TRAIT[what])) return BAD;
        int was = town.trait(g, what);
        town.setTrait(g, what, v);
        return was;
    }

    public int add(int m, int v) {
        if (!within(m, 0, BELL_METALS - 1) || !within(v, 0, MOST_ADDED)) return BAD;
        int was = town.added[m];
        town.added[m] = v;
        return was;
    }

    public int ask(int what, int v) {
        if (what == 0 && within(v, LOWEST_NOTE, HIGHEST_NOTE)) {
            int was = town.asked;
            town.asked = v;
            return was;
        }
        if (what == 1 && within(v, 0, HIGHEST_SWEET)) {
            int was = town.leastSweet;
            town.leastSweet = v;
            return was;
        }
        return BAD;
    }

    public int ring(int n) {
        if (!within(n, 0, STRIKES_AT_ONCE)) return BAD;
        if (town.struck + n >= STRUCK_BOUND) return FULL;
        for (int strike = 0; strike < n; strike++) strikeOnce(town);
        cast(town);
        return melt.weight;
    }

    // ---- what it should be

    public int mine(int g) {
        if (!isGiver(g)) return BAD;
        melt.gather(town);
        for (int given = 0; given <= MOST_GIVEN; given++) {
            melt.part[g] = given;
            melt.pour(town);
            if (melt.isTrue(town)) return given;
        }
        return NONE;
    }

    public int least(int m) {
        if (!within(m, 0, BELL_METALS - 1)) return BAD;
        trial.becomes(town);
        for (int put = 0; put <= MOST_ADDED; put++) {
            trial.added[m] = put;
            if (castsTrue(trial)) return put;
        }
        return NONE;
    }

    public int casts(int what) {
        if (!within(what, 0, 1)) return BAD;
        trial.becomes(town);
        int most = trial.sum(HOLDS);
        int last = NONE;
        for (int done = 0; done <= most; done++) {
            if (castsTrue(trial)) return what == 0 ? done : last;
            last = trial.holdsMost();
            if (last == NONE) return NONE;
            trial.setTrait(last, HOLDS, trial.trait(last, HOLDS) - 1);
        }
        return NONE;
    }

    public int spare(int what) {
        if (!within(what, 0, 1)) return BAD;
        int most = NONE;
        int leastSet = NONE;
        for (int set = 0; set < 1 << town.givers; set++) {
            melt.gather(town);
            for (int g = 0; g < town.givers; g++) if (has(set, g)) melt.part[g] = 0;
            melt.pour(town);
            if (melt.isTrue(town) && Integer.bitCount(set) > most) {
                most = Integer.bitCount(set);
                leastSet = set;
            }
        }
        return what == 0 ? most : leastSet;
    }

    public int without(int g) {
        if (!isGiver(g)) return BAD;
        melt.gather(town);
        melt.part[g] = 0;
        melt.pour(town);
        return melt.pitch();
    }

    public int lasts() {
        trial.becomes(town);
        for (int strikes = 0; strikes <= LONGEST_WEAR; strikes++) {
            if (!castsTrue(trial)) return strikes;
            strikeOnce(trial);
        }
        return NONE;
    }

    public int swap() {
        if (castsTrue(town)) return STATE;
        for (int lesser = 0; lesser < town.givers; lesser++) {
            for (int greater = lesser + 1; greater < town.givers; greater++) {
                trial.becomes(town);
                trial.setTrait(lesser, METAL, town.trait(greater, METAL));
                trial.setTrait(greater, METAL, town.trait(lesser, METAL));
                if (castsTrue(trial)) return 10 * lesser + greater;
            }
        }
        return NONE;
    }

    // ---- who lies

    public long mean(int v, int what) {
        if (!within(v, 0, OUT_OF) || !within(what, 0, 1)) return BAD;
        return fraction(sumOverLiars(v, true), what);
    }

    public long luck(int v, int what) {
        if (!within(v, 0, OUT_OF) || !within(what, 0, 1)) return BAD;
        return fraction(sumOverLiars(v, false), what);
    }

    // ---- guilts from taps

    public int see(int i, int v) {
        if (!within(i, 0, TAPS - 1) || !within(v, 0, FIGURES - 1)) return BAD;
        if (guesses.seen >= MOST_SEEN) return FULL;
        guesses.seenTap[guesses.seen] = i;
        guesses.seenFigure[guesses.seen] = v;
        guesses.seen++;
        return guesses.seen;
    }

    public int forget(int n) {
        if (!within(n, 0, guesses.seen)) return BAD;
        int were = guesses.seen;
        guesses.seen = n;
        return were;
    }

    public int fits(int what) {
        if (!within(what, 0, 1)) return BAD;
        guesses.search(town, trial, false);
        return what == 0 ? guesses.fitting : guesses.leastNumber;
    }

    public int range(int g, int what) {
        if (!isGiver(g) || !within(what, 0, 1)) return BAD;
        guesses.search(town, trial, false);
        if (guesses.fitting == 0) return NONE;
        return what == 0 ? guesses.lowest[g] : guesses.highest[g];
    }

    public int next(int what) {
        if (!within(what, 0, 1)) return BAD;
        guesses.search(town, trial, true);
        int first = NONE;
        int fewest = guesses.fitting;
        for (int i = 0; i < TAPS; i++) {
            int worst = guesses.worstLeft(i);
            if (worst < fewest) {
                fewest = worst;
                first = i;
            }
        }
        return first == NONE || what == 0 ? first : fewest;
    }

    // ---- by a seed

    public int drift(int seed, int n, int what) {
        if (!within(n, 1, MOST_DRIFTS) || !within(what, 0, 1)) return BAD;
        if (town.givers < 1) return STATE;
        trial.becomes(town);
        int at = seed;
        int sum = 0;
        for (int turn = 0; turn < n; turn++) {
            at = stepSeed(at);
            int g = seedBits(at) % town.givers;
            at = stepSeed(at);
            trial.setTrait(g, GUILT, seedBits(at) % FIGURES);
            boolean isTrue = castsTrue(trial);
            if (what == 0) sum += isTrue ? 1 : 0;
            else sum += Math.max(0, melt.pitch());
        }
        return sum;
    }

    // ---- images, sheets

    public int keep(int k) {
        if (!within(k, 0, IMAGES - 1)) return BAD;
        int was = kept[k] ? 1 : 0;
        images[k].becomes(town);
        kept[k] = true;
        return was;
    }

    public int back(int k) {
        if (!within(k, 0, IMAGES - 1)) return BAD;
        if (!kept[k]) return STATE;
        town.becomes(images[k]);
        return town.struck;
    }

    public int sheet(int k, int lane, int n) {
        if (!isSheet(k) || !within(lane, 0, LANES - 1) || n > MOST_CELLS) return BAD;
        if (n < 0) return -10 - SIZE_FAULT;
        sheets[k].renew(lane, n);
        return 1;
    }

    public int lay(int k, int i, int v) {
        if (!isSheet(k)) return BAD;
        int fault = sheets[k].faultAt(i);
        if (fault != 0) return -10 - fault;
        sheets[k].put(i, v);
        return 1;
    }

    public int read(int k, int lane, int f, int n) {
        if (!isSheet(k) || !within(lane, 0, LANES - 1) || !within(n, 0, MOST_READ)) return BAD;
        Sheet row = sheets[k];
        int whole = row.wholePairs(lane, f, n);
        for (int i = 0; i < whole; i++) {
            if (!isConfession(row.cells[f + 2 * i], row.cells[f + 2 * i + 1])) return -20 - i;
        }
        for (int i = 0; i < whole; i++) town.setTrait(row.cells[f + 2 * i], GUILT, row.cells[f + 2 * i + 1]);
        latestTorn = row.pairFault;
        return whole;
    }

    public int torn() {
        return latestTorn;
    }

    public int count(int what) {
        switch (what) {
            case 0: return guesses.seen;
            case 1: return (kept[0] ? 1 : 0) + (kept[1] ? 1 : 0);
            case 2: return tape.length;
            case 3: return sheets[0].size == NOTHING ? NONE : sheets[0].size;
            case 4: return town.allGiven();
            case 5: return town.sum(GUILT);
            default: return BAD;
        }
    }

    // ---- what several calls use

    private static boolean within(int v, int low, int high) {
        return v >= low && v <= high;
    }

    private static boolean has(int bits, int place) {
        return (bits >> place & 1) == 1;
    }

    private boolean isGiver(int g) {
        return within(g, 0, town.givers - 1);
    }

    private static boolean isSheet(int k) {
        return within(k, 0, SHEETS - 1);
    }

    private static int tapFactor(int i, int g) {
        return 1 + (i + g) % 3;
    }

    private void cast(Town of) {
        melt.gather(of);
        melt.pour(of);
    }

    private boolean castsTrue(Town of) {
        cast(of);
        return melt.isTrue(of);
    }

    private void strikeOnce(Town of) {
        of.struck++;
        if (of.struck % 5 != 0) return;
        cast(of);
        if (melt.weight > 0) of.worn[melt.mostOf()]++;
    }

    /** Over all sets of liars, each as often as it is met in 10 to the GIVERS: WEIGHT, or 1 where THE BELL is TRUE. */
    private long sumOverLiars(int v, boolean ofWeight) {
        long sum = 0;
        for (int liars = 0; liars < 1 << town.givers; liars++) {
            long ways = 1;
            melt.gather(town);
            for (int g = 0; g < town.givers; g++) {
                ways *= has(liars, g) ? v : OUT_OF - v;
                if (has(liars, g)) melt.part[g] = melt.part[g] / 2;
            }
            melt.pour(town);
            if (ofWeight) sum += ways * melt.weight;
            else if (melt.isTrue(town)) sum += ways;
        }
        return sum;
    }

    private long fraction(long sum, int what) {
        long all = 1;
        for (int g = 0; g < town.givers; g++) all *= OUT_OF;
        long divisor = commonDivisor(sum, all);
        return (what == 0 ? sum : all) / divisor;
    }

    /** At least 1, as b is above 0 at first. */
    private static long commonDivisor(long a, long b) {
        long greater = a;
        long lesser = b;
        for (int turn = 0; turn < 100 && lesser > 0; turn++) {
            long rest = greater % lesser;
            greater = lesser;
            lesser = rest;
        }
        return Math.max(1, greater);
    }

    private static int stepSeed(int seed) {
        return seed * 1103515245 + 12345;
    }

    private static int seedBits(int seed) {
        return seed >> 16 & 0x7fff;
    }

    private boolean isConfession(int g, int guilt) {
        return isGiver(g) && within(guilt, 0, HIGHEST_TRAIT[GUILT]);
    }

    /** All that a text tells and that strikes change: what an IMAGE keeps. */
    private static final class Town {
        final int[] traits = new int[MOST_GIVERS * TRAITS];
        final int[] added = new int[BELL_METALS];
        final int[] worn = new int[BELL_METALS];
        int givers = 0;
        int asked = USUAL_NOTE;
        int leastSweet = 0;
        int struck = 0;

        void clear() {
            Arrays.fill(traits, 0);
            Arrays.fill(added, 0);
            Arrays.fill(worn, 0);
            givers = 0;
            asked = USUAL_NOTE;
            leastSweet = 0;
            struck = 0;
        }

        void becomes(Town other) {
            System.arraycopy(other.traits, 0, traits, 0, traits.length);
            System.arraycopy(other.added, 0, added, 0, added.length);
            System.arraycopy(other.worn, 0, worn, 0, worn.length);
            givers = other.givers;
            asked = other.asked;
            leastSweet = other.leastSweet;
            struck = other.struck;
        }

        int trait(int g, int what) {
            return traits[g * TRAITS + what];
        }

        void setTrait(int g, int what, int v) {
            traits[g * TRAITS + what] = v;
        }

        int owes(int g) {
            int guilt = trait(g, GUILT);
            switch (trait(g, KIND)) {
                case 1: return guilt / 2;
                case 2: return 2 * guilt;
                case 3: return 2 * guilt + 3;
                default: return guilt;
            }
        }

        private boolean isHalved(int g) {
            int others = 0;
            for (int other = 0; other < givers; other++) {
                if (trait(other, DEED) == trait(g, DEED)) {
                    if (trait(other, SORRY) == 0) return false;
                    if (other != g) others++;
                }
            }
            return others > 0;
        }

        /** What he would give holding nothing. */
        private int share(int g) {
            return isHalved(g) ? (owes(g) + 1) / 2 : owes(g);
        }

        int gives(int g) {
            return Math.max(0, share(g) - trait(g, HOLDS));
        }

        int allGiven() {
            int sum = 0;
            for (int g = 0; g < givers; g++) sum += gives(g);
            return sum;
        }

        int sum(int what) {
            int sum = 0;
            for (int g = 0; g < givers; g++) sum += trait(g, what);
            return sum;
        }

        int whoHas(int what) {
            int bits = 0;
            for (int g = 0; g < givers; g++) if (trait(g, what) > 0) bits |= 1 << g;
            return bits;
        }

        int flaws() {
            int bits = 0;
            for (int g = 0; g < givers; g++) if (gives(g) < share(g)) bits |= 1 << g;
            return bits;
        }

        /** The first of those who HOLD most; NONE where nobody HOLDS. */
        int holdsMost() {
            int who = NONE;
            int most = 0;
            for (int g = 0; g < givers; g++) {
                if (trait(g, HOLDS) > most) {
                    most = trait(g, HOLDS);
                    who = g;
                }
            }
            return who;
        }
    }

    /** What is poured: the parts stand apart from the town, as what-ifs change them. */
    private static final class Melt {
        final int[] part = new int[MOST_GIVERS];
        final int[] amount = new int[ALL_METALS];
        int weight = 0;

        void gather(Town town) {
            for (int g = 0; g < town.givers; g++) part[g] = town.gives(g);
        }

        void pour(Town town) {
            Arrays.fill(amount, 0);
            for (int g = 0; g < town.givers; g++) amount[town.trait(g, METAL)] += part[g];
            weight = 0;
            for (int m = 0; m < BELL_METALS; m++) {
                amount[m] = Math.max(0, amount[m] + town.added[m] - town.worn[m]);
                weight += amount[m];
            }
        }

        int pitch() {
            if (weight <= 0) return NONE;
            int sum = 0;
            for (int m = 0; m < BELL_METALS; m++) sum += PITCH[m] * amount[m];
            return sum / weight;
        }

        int sweetness() {
            return weight <= 0 ? 0 : 10 * amount[2] / weight;
        }

        boolean isTrue(Town town) {
            return pitch() == town.asked && sweetness() >= town.leastSweet;
        }

        int mostOf() {
            int most = 0;
            for (int m = 1; m < BELL_METALS; m++) if (amount[m] > amount[most]) most = m;
            return most;
        }
    }

    /** THE TAPE and the latest TOKEN that was read of it. */
    private static final class Tape {
        static final int NO_TOKEN = 0, THE_END = 1, NAME = 2, NUMBER = 3, SEMICOLON = 4;

        final int[] bytes = new int[TAPE_BYTES];
        int length = 0;
        int place = 0;
        int sort = THE_END;
        int start = 0;
        int number = 0;

        void rewind() {
            place = 0;
        }

        void readToken() {
            takeRun(' ', ' ');
            start = place;
            if (place >= length) sort = THE_END;
            else if (takeRun('a', 'z')) sort = NAME;
            else if (takeRun('0', '9')) readNumber();
            else readSign();
        }

        /** Takes as many bytes from low to high as there are; false, if there is none. */
        private boolean takeRun(char low, char high) {
            while (place < length && bytes[place] >= low && bytes[place] <= high) place++;
            return place > start;
        }

        private void readNumber() {
            int figures = place - start;
            sort = figures <= 2 ? NUMBER : NO_TOKEN;
            number = bytes[start] - '0';
            if (figures == 2) number = 10 * number + bytes[start + 1] - '0';
        }

        private void readSign() {
            sort = bytes[place] == ';' ? SEMICOLON : NO_TOKEN;
            place++;
        }

        boolean isName(String name) {
            if (sort != NAME || place - start != name.length()) return false;
            for (int i = 0; i < name.length(); i++) {
                if (bytes[start + i] != name.charAt(i)) return false;
            }
            return true;
        }
    }

    /** Reads a text into a draft, till its end or its first FAULT. */
    private static final class Scribe {
        static final int WRONG_TOKEN = 1, WRONG_PLACE = 2, WRONG_NUMBER = 3, TOLD_ALREADY = 4, TOO_MANY = 5, NOBODY = 6;

        final Town draft = new Town();
        int found = 0;
        private int foundPlace = 0;
        private int toldSorry = 0;
        private int toldHolds = 0;
        private int toldAdded = 0;
        private boolean toldAsk = false;

        /** How many lines there are; -10 less the FAULT's place. */
        int readText(Tape tape) {
            begin(tape);
            int lines = 0;
            while (lines <= TAPE_BYTES && readOn(tape) && tape.sort != Tape.THE_END) {
                readLine(tape);
                lines++;
            }
            if (found == 0 && (toldSorry | toldHolds) >> draft.givers != 0) refuse(NOBODY, tape.length);
            return found == 0 ? lines : -10 - foundPlace;
        }

        private void begin(Tape tape) {
            tape.rewind();
            draft.clear();
            found = 0;
            toldSorry = 0;
            toldHolds = 0;
            toldAdded = 0;
            toldAsk = false;
        }

        private void readLine(Tape tape) {
            int kind = kindOf(tape);
            if (kind >= 0) readGiver(tape, kind);
            else if (tape.isName("sorry")) readSorry(tape);
            else if (tape.isName("hold")) readHold(tape);
            else if (tape.isName("add")) readAdded(tape);
            else if (tape.isName("ask")) readAsked(tape);
            else refuse(WRONG_PLACE, tape.start);
            if (found == 0 && readOn(tape) && tape.sort != Tape.SEMICOLON) refuse(WRONG_PLACE, tape.start);
        }

        private void readGiver(Tape tape, int kind) {
            if (draft.givers >= MOST_GIVERS) {
                refuse(TOO_MANY, tape.start);
                return;
            }
            int g = draft.givers;
            draft.setTrait(g, KIND, kind);
            if (!readMetal(tape, IRON)) return;
            draft.setTrait(g, METAL, tape.number);
            if (!readNumber(tape, 0, HIGHEST_TRAIT[GUILT])) return;
            draft.setTrait(g, GUILT, tape.number);
            if (!readNumber(tape, 0, HIGHEST_TRAIT[DEED])) return;
            draft.setTrait(g, DEED, tape.number);
            draft.givers++;
        }

        private void readSorry(Tape tape) {
            if (!readNumber(tape, 0, MOST_GIVERS - 1)) return;
            toldSorry = tellOnce(tape, toldSorry);
            draft.setTrait(tape.number, SORRY, 1);
        }

        private void readHold(Tape tape) {
            if (!readNumber(tape, 0, MOST_GIVERS - 1)) return;
            int g = tape.number;
            toldHolds = tellOnce(tape, toldHolds);
            if (found == 0 && readNumber(tape, 0, HIGHEST_TRAIT[HOLDS])) draft.setTrait(g, HOLDS, tape.number);
        }

        private void readAdded(Tape tape) {
            if (!readMetal(tape, BELL_METALS - 1)) return;
            int m = tape.number;
            toldAdded = tellOnce(tape, toldAdded);
            if (found == 0 && readNumber(tape, 0, MOST_ADDED)) draft.added[m] = tape.number;
        }

        private void readAsked(Tape tape) {
            if (toldAsk) {
                refuse(TOLD_ALREADY, tape.start);
                return;
            }
            toldAsk = true;
            if (!readNumber(tape, LOWEST_NOTE, HIGHEST_NOTE)) return;
            draft.asked = tape.number;
            if (readNumber(tape, 0, HIGHEST_SWEET)) draft.leastSweet = tape.number;
        }

        /** The bits with that of the latest TOKEN's number, which must not be there yet. */
        private int tellOnce(Tape tape, int bits) {
            if (has(bits, tape.number)) refuse(TOLD_ALREADY, tape.start);
            return bits | 1 << tape.number;
        }

        private boolean readNumber(Tape tape, int low, int high) {
            if (!readOn(tape)) return false;
            if (tape.sort != Tape.NUMBER) return refuse(WRONG_PLACE, tape.start);
            return within(tape.number, low, high) || refuse(WRONG_NUMBER, tape.start);
        }

        /** Leaves the METAL as the TOKEN's number. */
        private boolean readMetal(Tape tape, int last) {
            if (!readOn(tape)) return false;
            int m = metalOf(tape);
            if (!within(m, 0, last)) return refuse(WRONG_PLACE, tape.start);
            tape.number = m;
            return true;
        }

        /** Reads a TOKEN more; false, if there is a FAULT. */
        private boolean readOn(Tape tape) {
            if (found != 0) return false;
            tape.readToken();
            return tape.sort != Tape.NO_TOKEN || refuse(WRONG_TOKEN, tape.start);
        }

        private boolean refuse(int fault, int place) {
            found = fault;
            foundPlace = place;
            return false;
        }

        private static int kindOf(Tape tape) {
            if (tape.isName("plain")) return 0;
            if (tape.isName("mayor")) return 1;
            if (tape.isName("maid")) return 2;
            return tape.isName("deaf") ? 3 : NONE;
        }

        private static int metalOf(Tape tape) {
            if (tape.isName("tin")) return 0;
            if (tape.isName("copper")) return 1;
            if (tape.isName("silver")) return 2;
            return tape.isName("iron") ? IRON : NONE;
        }
    }

    /** What is SEEN, and a walk through all GUILTS that FIT it. */
    private static final class Guesses {
        final int[] seenTap = new int[MOST_SEEN];
        final int[] seenFigure = new int[MOST_SEEN];
        int seen = 0;
        int fitting = 0;
        int leastNumber = NONE;
        final int[] lowest = new int[MOST_GIVERS];
        final int[] highest = new int[MOST_GIVERS];
        private final int[] left = new int[TAPS * FIGURES];
        private final int[] gift = new int[MOST_GIVERS * FIGURES];
        private final int[] metalOf = new int[MOST_GIVERS];
        private final int[] guess = new int[MOST_GIVERS];
        /** A TAP's sum without WEIGHT is the same for places of one rest by 3, so three sums serve all nine. */
        private final int[] tapSum = new int[3];
        private final int[] amount = new int[ALL_METALS];
        private int givers = 0;
        private boolean tellsLeft = false;

        /** Which figures the GUILTS leave at each TAP is told apart only where it is asked, as it is dear. */
        void search(Town town, Town scratch, boolean withLeft) {
            prepare(town, scratch);
            tellsLeft = withLeft;
            fitting = 0;
            leastNumber = NONE;
            Arrays.fill(lowest, FIGURES - 1);
            Arrays.fill(highest, 0);
            Arrays.fill(left, 0);
            guessFrom(0, 0);
        }

        int worstLeft(int i) {
            int worst = 0;
            for (int figure = 0; figure < FIGURES; figure++) worst = Math.max(worst, left[i * FIGURES + figure]);
            return worst;
        }

        /** What one GIVES hangs on nobody else's GUILT, so each gift is worked out once. */
        private void prepare(Town town, Town scratch) {
            scratch.becomes(town);
            givers = town.givers;
            for (int g = 0; g < givers; g++) {
                metalOf[g] = town.trait(g, METAL);
                for (int guilt = 0; guilt < FIGURES; guilt++) {
                    scratch.setTrait(g, GUILT, guilt);
                    gift[g * FIGURES + guilt] = scratch.gives(g);
                }
            }
            Arrays.fill(tapSum, 0);
            Arrays.fill(amount, 0);
            for (int m = 0; m < BELL_METALS; m++) amount[m] = town.added[m] - town.worn[m];
        }

        private void guessFrom(int g, int number) {
            if (g >= givers || g >= MOST_GIVERS) {
                judge(number);
                return;
            }
            for (int guilt = 0; guilt < FIGURES; guilt++) {
                int given = gift[g * FIGURES + guilt];
                guess[g] = guilt;
                giveMore(g, given);
                guessFrom(g + 1, number * 10 + guilt);
                giveMore(g, -given);
            }
        }

        private void giveMore(int g, int given) {
            amount[metalOf[g]] += given;
            for (int i = 0; i < 3; i++) tapSum[i] += given * tapFactor(i, g);
        }

        private void judge(int number) {
            int weight = 0;
            for (int m = 0; m < BELL_METALS; m++) weight += Math.max(0, amount[m]);
            for (int s = 0; s < seen; s++) if (figureAt(seenTap[s], weight) != seenFigure[s]) return;
            if (fitting == 0) leastNumber = number;
            fitting++;
            for (int g = 0; g < givers; g++) {
                lowest[g] = Math.min(lowest[g], guess[g]);
                highest[g] = Math.max(highest[g], guess[g]);
            }
            if (!tellsLeft) return;
            for (int i = 0; i < TAPS; i++) left[i * FIGURES + figureAt(i, weight)]++;
        }

        private int figureAt(int i, int weight) {
            return (tapSum[i % 3] + i * weight) % FIGURES;
        }
    }

    /** A row of CELLS, kept wide; its lane says how many bits of a value it takes. */
    private static final class Sheet {
        final int[] cells = new int[MOST_CELLS];
        int size = NOTHING;
        int pairFault = 0;
        private int laneOf = 0;

        void renew(int lane, int n) {
            Arrays.fill(cells, 0);
            laneOf = lane;
            size = n;
        }

        int faultAt(int i) {
            if (size == NOTHING) return NULL_FAULT;
            return i < 0 || i >= size ? INDEX_FAULT : 0;
        }

        /** As the machine has it, nothing may be taken as of any lane: that it is nothing shows at the first CELL. */
        private int pairFaultAt(int lane, int first) {
            if (size != NOTHING && laneOf != lane) return CAST_FAULT;
            int fault = faultAt(first);
            return fault != 0 ? fault : faultAt(first + 1);
        }

        /**
         * How many of n pairs of CELLS the machine reads; pairFault says why not all, or is 0. The SHEET is taken as of
         * its lane for each pair, so that with no pair it is taken as of none and there is no FAULT.
         */
        int wholePairs(int lane, int from, int n) {
            pairFault = 0;
            for (int i = 0; i < n; i++) {
                pairFault = pairFaultAt(lane, from + 2 * i);
                if (pairFault != 0) return i;
            }
            return n;
        }

        void put(int i, int v) {
            if (laneOf == 0) cells[i] = (byte) v;
            else if (laneOf == 1) cells[i] = (short) v;
            else cells[i] = v;
        }
    }
}
