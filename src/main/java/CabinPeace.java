/** A school's cabins: wishes as texts, lawful groups, partings, and six kinds of peace among them. */
public final class CabinPeace {
    public static final int NONE = -1;

    private static final int FINE = 0;
    private static final int CANNOT_BE = 1;
    private static final int MISSING = 2;
    private static final int NO_PLACE = 3;
    private static final int TOO_MANY = 4;
    private static final int NONE_SUCH = 6;
    private static final int THERE_ALREADY = 7;
    private static final int UNLIKE_SORTS = 8;
    private static final int HAS_FAULT = 9;

    private static final int MOST_TRAYS = 4;
    private static final int MOST_PEOPLE = 8;
    private static final int MOST_GROUPS = 256;
    private static final int MOST_MUSTS = 12;
    private static final int MOST_SAYINGS = 12;
    private static final int MOST_PARTINGS = 4140;
    private static final int MOST_STEPS = 200;
    private static final int MOST_WEEKS = 5;
    private static final int LONGEST_TRAY = 60;
    private static final int LONGEST_TEXT = 300;
    private static final int GREATEST_KIN = 9;
    private static final int ALL_SIZES = 255;
    private static final int GREATEST_WORTH = 1_000_000;
    /** Below every worth, so that one comparison also tells a barred group from one that is not. */
    private static final int BARRED = -2_000_000;
    private static final int ENDLESS = 2_147_483_647;
    /** Far above what any walk through the partings can need. */
    private static final int FAR = 1_000_000;

    private static final int ALONE = 0;
    private static final int ASK = 2;
    private static final int LEAVE = 3;
    private static final int CORE = 4;
    private static final int SWAP = 5;

    private static final int ENDED_IN_PEACE = 0;
    private static final int ENDED_IN_RING = 1;
    private static final int ENDED_BY_MOST = 2;

    private final Tray[] trays;
    private final Wish[] wishes;
    private final People people;
    private final Reader reader;
    private final Worths worths;
    private final Search search;
    private final Peace peace;
    private final Parting told;
    private final int[] trail;
    private int status = FINE;
    private int ranEnd = NONE;
    private int ringFrom = 0;
    private int ringSteps = 0;

    public CabinPeace() {
        People newPeople = new People();
        long[] stack = new long[Wish.STACK];
        Wish[] newWishes = new Wish[MOST_PEOPLE];
        for (int i = 0; i < MOST_PEOPLE; i++) {
            newWishes[i] = new Wish(stack);
        }
        Tray[] newTrays = new Tray[MOST_TRAYS];
        for (int i = 0; i < MOST_TRAYS; i++) {
            newTrays[i] = new Tray();
        }
        Worths newWorths = new Worths(newPeople, newWishes);
        Search newSearch = new Search(newPeople, newWorths);
        trays = newTrays;
        wishes = newWishes;
        people = newPeople;
        reader = new Reader(newPeople, new Wish(stack));
        worths = newWorths;
        search = newSearch;
        peace = new Peace(newPeople, newWorths, newSearch);
        told = new Parting();
        trail = new int[MOST_STEPS + 1];
    }

    public int status() {
        return status;
    }

    // ---- trays

    public boolean tray(int tray, int sort, int many) {
        if (!isTray(tray) || sort < 0 || sort > 3 || many < 0 || many > LONGEST_TRAY) {
            return refused(CANNOT_BE);
        }
        trays[tray].lay(sort, many);
        return granted();
    }

    public boolean write(int tray, int place, long v) {
        int why = placeTrouble(tray, place);
        if (why != FINE) {
            return refused(why);
        }
        trays[tray].put(place, v);
        return granted();
    }

    public long read(int tray, int place) {
        int why = placeTrouble(tray, place);
        if (why != FINE) {
            return none(why);
        }
        status = FINE;
        return trays[tray].row[place];
    }

    public boolean pour(int from, int place, int to, int at, int many) {
        if (!isTray(from) || !isTray(to) || place < 0 || at < 0 || many < 0) {
            return refused(CANNOT_BE);
        }
        Tray source = trays[from];
        Tray goal = trays[to];
        if (source.isMissing() || goal.isMissing()) {
            return refused(MISSING);
        }
        if (source.sort != goal.sort) {
            return refused(UNLIKE_SORTS);
        }
        if (place > source.many - many || at > goal.many - many) {
            return refused(NO_PLACE);
        }
        System.arraycopy(source.row, place, goal.row, at, many);
        return granted();
    }

    // ---- people and wishes

    public int person(long name, int kin) {
        if (!People.canBeName(name) || kin < 0 || kin > GREATEST_KIN) {
            return none(CANNOT_BE);
        }
        if (people.many >= MOST_PEOPLE) {
            return none(TOO_MANY);
        }
        if (people.find(name) != NONE) {
            return none(THERE_ALREADY);
        }
        people.add(name, kin);
        worths.refresh();
        forget();
        return answer(people.many - 1);
    }

    public boolean sizes(int set) {
        if (set < 1 || set > ALL_SIZES) {
            return refused(CANNOT_BE);
        }
        people.sizes = set;
        forget();
        return granted();
    }

    public boolean must(int a, int b, boolean together) {
        if (!people.has(a) || !people.has(b) || a == b) {
            return refused(CANNOT_BE);
        }
        if (people.musts >= MOST_MUSTS) {
            return refused(TOO_MANY);
        }
        people.tie(a, b, together);
        forget();
        return granted();
    }

    public int feed(int a, int b, int c, int d, int e) {
        if (!reader.hasRoom(20)) {
            return NONE;
        }
        reader.append(a);
        reader.append(b);
        reader.append(c);
        reader.append(d);
        reader.append(e);
        return reader.fed;
    }

    public int wish(int person, int n) {
        if (!people.has(person) || n < 0 || n > reader.fed) {
            return none(CANNOT_BE);
        }
        boolean fine = reader.readText(n);
        reader.fed = 0;
        if (!fine) {
            return none(HAS_FAULT);
        }
        Wish old = wishes[person];
        wishes[person] = reader.draft;
        reader.draft = old;
        worths.forgetWish(person);
        worths.refresh();
        forget();
        return answer(wishes[person].sayings);
    }

    public int fault(int what) {
        if (what == 0) {
            return reader.faultKind;
        }
        return what == 1 ? reader.faultPlace : NONE;
    }

    public int worth(int person, int group) {
        if (!people.has(person) || !people.isGroupWith(group, person)) {
            return none(CANNOT_BE);
        }
        return answer(worths.plain(person, group));
    }

    public int bars(int person, int group) {
        if (!people.has(person) || !people.isGroupWith(group, person)) {
            return none(CANNOT_BE);
        }
        return answer(worths.isBarred(person, group) ? 1 : 0);
    }

    public int rather(int person, int group, int other) {
        if (!people.has(person) || !people.isGroupWith(group, person) || !people.isGroupWith(other, person)) {
            return none(CANNOT_BE);
        }
        return answer(worths.better(person, group, other) ? 1 : 0);
    }

    public int lawful(int group) {
        if (!people.isGroup(group)) {
            return none(CANNOT_BE);
        }
        return answer(people.allows(group, people.sizes, people.everyone()) ? 1 : 0);
    }

    // ---- told partings

    public int breaks(int tray, int kind) {
        int why = toldTrouble(tray, isKind(kind));
        if (why != FINE) {
            return none(why);
        }
        return answer(search.breaksOf(told, kind, ENDLESS));
    }

    public int first(int tray, int kind, int what) {
        int why = toldTrouble(tray, isKind(kind) && (what == 0 || what == 1));
        if (why != FINE) {
            return none(why);
        }
        if (search.breaksOf(told, kind, 1) == 0) {
            return none(NONE_SUCH);
        }
        return answer(what == 0 ? search.breaks.who : search.breaks.goal);
    }

    public boolean step(int tray, int kind) {
        int why = toldTrouble(tray, isKind(kind));
        if (why != FINE) {
            return refused(why);
        }
        if (search.breaksOf(told, kind, 1) == 0) {
            return refused(NONE_SUCH);
        }
        search.breaks.carryOut(told);
        tellTray(tray);
        return granted();
    }

    public int run(int tray, int kind, int most) {
        int why = toldTrouble(tray, isKind(kind) && most >= 1 && most <= MOST_STEPS);
        if (why != FINE) {
            return none(why);
        }
        int steps = walk(kind, most);
        tellTray(tray);
        return answer(steps);
    }

    public int ran(int what) {
        if (what < 0 || what > 2) {
            return none(CANNOT_BE);
        }
        if (ranEnd == NONE || what > 0 && ranEnd != ENDED_IN_RING) {
            return none(NONE_SUCH);
        }
        if (what == 0) {
            return answer(ranEnd);
        }
        return answer(what == 1 ? ringFrom : ringSteps);
    }

    // ---- all partings

    public int count(int kind) {
        if (!isKind(kind) && kind != NONE) {
            return none(CANNOT_BE);
        }
        peace.gather(kind);
        return answer(peace.many);
    }

    public int room(int kind, int what, int person) {
        if (!isKind(kind) || what < 0 || what > 2 || !people.has(person)) {
            return none(CANNOT_BE);
        }
        peace.gather(kind);
        if (peace.many == 0) {
            return none(NONE_SUCH);
        }
        return answer(Parting.roomIn(peace.keyOf(what), person));
    }

    public int sum(int kind, int what) {
        if (!isKind(kind) || what < 1 || what > 2) {
            return none(CANNOT_BE);
        }
        peace.gather(kind);
        if (peace.many == 0) {
            return none(NONE_SUCH);
        }
        return answer(what == 1 ? peace.bestSum : peace.bestLeast);
    }

    public int together(int kind, int a, int b) {
        if (!isKind(kind) || !people.has(a) || !people.has(b) || a == b) {
            return none(CANNOT_BE);
        }
        peace.gather(kind);
        return answer(peace.sharing(a, b));
    }

    public int knot(int kind) {
        if (!isKind(kind)) {
            return none(CANNOT_BE);
        }
        int set = search.smallestKnot(kind);
        return set == NONE ? none(NONE_SUCH) : answer(set);
    }

    public int near(int kind) {
        if (!isKind(kind)) {
            return none(CANNOT_BE);
        }
        search.seekNear(kind);
        return search.nearMany == NONE ? none(NONE_SUCH) : answer(search.nearMany);
    }

    public int nearRoom(int kind, int person) {
        if (!isKind(kind) || !people.has(person)) {
            return none(CANNOT_BE);
        }
        search.seekNear(kind);
        return search.nearMany == NONE ? none(NONE_SUCH) : answer(Parting.roomIn(search.nearKey, person));
    }

    public int bear(int kind) {
        if (!isKind(kind)) {
            return none(CANNOT_BE);
        }
        int least = search.leastToBear(kind);
        return least == ENDLESS ? none(NONE_SUCH) : answer(least);
    }

    public int mend(int kind, int what) {
        if (!isKind(kind) || what < 0 || what > 6) {
            return none(CANNOT_BE);
        }
        if (search.beginMends(kind)) {
            search.tryWords();
            search.trySizes();
            search.tryPeople();
        }
        int found = search.mends[what];
        return found == NONE ? none(NONE_SUCH) : answer(found);
    }

    public int sort(int sort) {
        if (sort < 0 || sort > 1) {
            return none(CANNOT_BE);
        }
        boolean holds = sort == 0 ? search.areAlike() : worths.areFriends();
        return answer(holds ? 1 : 0);
    }

    public int greedy(int person) {
        if (!people.has(person)) {
            return none(CANNOT_BE);
        }
        if (!search.areAlike() || !search.takeGreatest()) {
            return none(NONE_SUCH);
        }
        return answer(search.built.room[person]);
    }

    // ---- gain, weeks, goes

    public int gain(int kind, int person, int saying) {
        if (!isKind(kind) || !people.has(person) || saying < 0 || saying >= wishes[person].sayings) {
            return none(CANNOT_BE);
        }
        if (!search.weighGain(kind, person, saying)) {
            return none(NONE_SUCH);
        }
        return answer(search.gained);
    }

    public int weeks(int kind, int many) {
        if (!isKind(kind) || many < 1 || many > MOST_WEEKS) {
            return none(CANNOT_BE);
        }
        peace.gather(kind);
        return peace.planWeeks(many) ? answer(peace.many) : none(NONE_SUCH);
    }

    public int week(int k) {
        if (k < 0) {
            return none(CANNOT_BE);
        }
        return k >= peace.planned ? none(NONE_SUCH) : answer(peace.row[k]);
    }

    public int goes(int tray, int kind, int person) {
        int why = toldTrouble(tray, isKind(kind) && people.has(person));
        if (why != FINE) {
            return none(why);
        }
        int moved = search.settleWithout(told, kind, person);
        return moved == NONE ? none(NONE_SUCH) : answer(moved);
    }

    public int gone(int person) {
        if (!people.has(person)) {
            return none(CANNOT_BE);
        }
        int found = search.goneRoom[person];
        return found == NONE ? none(NONE_SUCH) : answer(found);
    }

    // ---- what the calls share

    private int answer(int value) {
        status = FINE;
        return value;
    }

    private int none(int why) {
        status = why;
        return NONE;
    }

    private boolean granted() {
        status = FINE;
        return true;
    }

    private boolean refused(int why) {
        status = why;
        return false;
    }

    private static boolean isTray(int tray) {
        return tray >= 0 && tray < MOST_TRAYS;
    }

    private static boolean isKind(int kind) {
        return kind >= ALONE && kind <= SWAP;
    }

    private int placeTrouble(int tray, int place) {
        if (!isTray(tray)) {
            return CANNOT_BE;
        }
        if (trays[tray].isMissing()) {
            return MISSING;
        }
        return trays[tray].has(place) ? FINE : NO_PLACE;
    }

    /** Fills told from the tray, if all is well with it. */
    private int toldTrouble(int tray, boolean restCanBe) {
        if (!isTray(tray) || !restCanBe) {
            return CANNOT_BE;
        }
        Tray from = trays[tray];
        if (from.isMissing()) {
            return MISSING;
        }
        if (from.many < people.many) {
            return NO_PLACE;
        }
        return told.takeFrom(from, people) ? FINE : CANNOT_BE;
    }

    private void tellTray(int tray) {
        for (int p = 0; p < people.many; p++) {
            trays[tray].put(p, told.room[p]);
        }
    }

    private int walk(int kind, int most) {
        trail[0] = told.key();
        for (int steps = 0; steps <= most; steps++) {
            if (search.breaksOf(told, kind, 1) == 0) {
                ranEnd = ENDED_IN_PEACE;
                return steps;
            }
            if (steps < most) {
                search.breaks.carryOut(told);
                int key = told.key();
                for (int earlier = 0; earlier <= steps; earlier++) {
                    if (trail[earlier] == key) {
                        ranEnd = ENDED_IN_RING;
                        ringFrom = earlier;
                        ringSteps = steps + 1 - earlier;
                        return steps + 1;
                    }
                }
                trail[steps + 1] = key;
            }
        }
        ranEnd = ENDED_BY_MOST;
        return most;
    }

    private void forget() {
        search.forget();
        peace.forget();
    }

    /** A row of numbers of one sort, or no row at all. */
    private static final class Tray {
        final long[] row = new long[LONGEST_TRAY];
        int sort = NONE;
        int many = 0;

        boolean isMissing() {
            return sort == NONE;
        }

        boolean has(int place) {
            return place >= 0 && place < many;
        }

        void lay(int newSort, int newMany) {
            sort = newSort;
            many = newMany;
            for (int i = 0; i < LONGEST_TRAY; i++) {
                row[i] = 0;
            }
        }

        void put(int place, long v) {
            if (has(place)) {
                row[place] = cut(v);
            }
        }

        private long cut(long v) {
            switch (sort) {
                case 0:
                    return (byte) v;
                case 1:
                    return (short) v;
                case 2:
                    return (int) v;
                default:
                    return v;
            }
        }
    }

    /** Who there is, and what the school demands of groups. */
    private static final class People {
        final long[] name = new long[MOST_PEOPLE];
        final int[] kin = new int[MOST_PEOPLE];
        /** For each person the others of its kin, as a set; likewise those it must be with, and those it must not. */
        final int[] alike = new int[MOST_PEOPLE];
        final int[] bound = new int[MOST_PEOPLE];
        final int[] apart = new int[MOST_PEOPLE];
        int many = 0;
        int musts = 0;
        int sizes = ALL_SIZES;

        static boolean canBeName(long name) {
            if (name <= 0 || name >= 1L << 40) {
                return false;
            }
            long rest = name;
            for (int i = 0; i < 8 && rest != 0; i++) {
                long letter = rest & 31;
                if (letter < 1 || letter > 26) {
                    return false;
                }
                rest >>= 5;
            }
            return !Reader.isKeyWord(name);
        }

        boolean has(int person) {
            return person >= 0 && person < many;
        }

        int find(long wanted) {
            for (int p = 0; p < many; p++) {
                if (name[p] == wanted) {
                    return p;
                }
            }
            return NONE;
        }

        void add(long newName, int newKin) {
            if (many >= MOST_PEOPLE) {
                return;
            }
            name[many] = newName;
            kin[many] = newKin;
            for (int p = 0; p < many; p++) {
                if (newKin != 0 && kin[p] == newKin) {
                    alike[p] |= 1 << many;
                    alike[many] |= 1 << p;
                }
            }
            many++;
        }

        void tie(int a, int b, boolean with) {
            int[] ties = with ? bound : apart;
            ties[a] |= 1 << b;
            ties[b] |= 1 << a;
            musts++;
        }

        int everyone() {
            return (1 << many) - 1;
        }

        boolean isGroup(int group) {
            return group > 0 && group <= everyone();
        }

        boolean isGroupWith(int group, int person) {
            return isGroup(group) && (group >> person & 1) == 1;
        }

        /** Whether a group is lawful if nobody but those of a set is there. */
        boolean allows(int group, int lawfulSizes, int set) {
            if (group == 0 || (lawfulSizes >> Integer.bitCount(group) - 1 & 1) == 0) {
                return false;
            }
            for (int p = 0; p < many; p++) {
                boolean inside = (group >> p & 1) == 1;
                if (inside && ((apart[p] & group) != 0 || (bound[p] & set & ~group) != 0)) {
                    return false;
                }
            }
            return true;
        }
    }

    /** A text that has been read: its sayings as postfix code. */
    private static final class Wish {
        static final int STACK = 32;
        /** Codes below this one are numbers of the text; then come the names of the people, then the rest. */
        static final int NAMES = 10_000;
        static final int SIZE = 10_010;
        static final int KIN = 10_011;
        static final int PLUS = 10_012;
        static final int MINUS = 10_013;
        static final int TIMES = 10_014;
        static final int LESS = 10_015;
        static final int MORE = 10_016;
        static final int SAME = 10_017;
        static final int AND = 10_018;
        static final int OR = 10_019;
        static final int NOT = 10_020;

        /** One for all wishes of an object, as only one is worked out at a time. */
        private final long[] stack;
        private final int[] code = new int[LONGEST_TEXT];
        private final int[] from = new int[MOST_SAYINGS + 1];
        private final int[] test = new int[MOST_SAYINGS];
        private int used = 0;
        int sayings = 0;

        Wish(long[] stack) {
            this.stack = stack;
        }

        void clear() {
            used = 0;
            sayings = 0;
        }

        void emit(int word) {
            if (used < LONGEST_TEXT) {
                code[used] = word;
                used++;
            }
        }

        /** What is emitted from here on is the test of the saying that is being read. */
        void beginTest() {
            if (sayings < MOST_SAYINGS) {
                test[sayings] = used;
            }
        }

        void endSaying() {
            if (sayings < MOST_SAYINGS) {
                sayings++;
                from[sayings] = used;
            }
        }

        boolean isBar(int saying) {
            return test[saying] == from[saying];
        }

        boolean holds(int saying, int group, int kin) {
            return test[saying] == from[saying + 1] || work(test[saying], from[saying + 1], group, kin) != 0;
        }

        long share(int saying, int group, int kin) {
            return holds(saying, group, kin) ? work(from[saying], test[saying], group, kin) : 0;
        }

        private long work(int begin, int end, int group, int kin) {
            int size = Integer.bitCount(group);
            int top = 0;
            for (int at = begin; at < end; at++) {
                int word = code[at];
                int last = top - 1 & STACK - 1;
                int left = top - 2 & STACK - 1;
                if (word < NAMES) {
                    stack[top & STACK - 1] = word;
                    top++;
                } else if (word < PLUS) {
                    stack[top & STACK - 1] = word == SIZE ? size : word == KIN ? kin : group >> word - NAMES & 1;
                    top++;
                } else if (word == NOT) {
                    stack[last] = 1 - stack[last];
                } else {
                    stack[left] = join(word, stack[left], stack[last]);
                    top--;
                }
            }
            return stack[0];
        }

        private static long join(int word, long left, long right) {
            switch (word) {
                case PLUS:
                    return left + right;
                case MINUS:
                    return left - right;
                case TIMES:
                    return left * right;
                case LESS:
                    return left < right ? 1 : 0;
                case MORE:
                    return left > right ? 1 : 0;
                case SAME:
                    return left == right ? 1 : 0;
                case AND:
                    return left & right;
                default:
                    return left | right;
            }
        }
    }

    /** The tape, and the way from a text on it to a wish, or to the first fault. */
    private static final class Reader {
        private static final long ADD = 1156;
        private static final long BAR = 2098;
        private static final long IF = 294;
        private static final long OR = 498;
        private static final long AND = 1476;
        private static final long NOT = 14836;
        private static final long SIZE = 632645;
        private static final long KIN = 11566;
        private static final long NO_WORD = 0;

        private static final int END = 0;
        private static final int BAD = 1;
        private static final int NUMBER = 2;
        private static final int WORD = 3;
        private static final int SIGN = 4;

        private static final int NO_TOKEN = 1;
        private static final int CANNOT_STAND = 2;
        private static final int UNKNOWN_WORD = 3;
        private static final int SAYING_TOO_MANY = 4;
        private static final int TOO_DEEP = 5;
        private static final int DEEPEST = 6;
        private static final int LONGEST_NAME = 8;
        private static final int MOST_DIGITS = 4;

        private final People people;
        private final byte[] tape = new byte[LONGEST_TEXT];
        /** The tokens of the text, up to its end or to the first place where none begins. */
        private final int[] sorts = new int[LONGEST_TEXT + 1];
        private final int[] places = new int[LONGEST_TEXT + 1];
        private final long[] values = new long[LONGEST_TEXT + 1];
        private int tokens = 0;
        /** The token that is looked at. */
        private int at = 0;
        private int token = END;
        private long value = 0;
        Wish draft;
        int fed = 0;
        int faultKind = NONE;
        int faultPlace = NONE;

        Reader(People people, Wish draft) {
            this.people = people;
            this.draft = draft;
        }

        static boolean isKeyWord(long word) {
            return word == ADD || word == BAR || word == IF || word == OR
                || word == AND || word == NOT || word == SIZE || word == KIN;
        }

        boolean hasRoom(int bytes) {
            return fed <= LONGEST_TEXT - bytes;
        }

        void append(int four) {
            for (int shift = 24; shift >= 0; shift -= 8) {
                if (fed < LONGEST_TEXT) {
                    tape[fed] = (byte) (four >> shift);
                    fed++;
                }
            }
        }

        /** Reads the first n bytes of the tape into the draft: whether there is no fault. */
        boolean readText(int n) {
            cutIntoTokens(Math.min(n, fed));
            faultKind = 0;
            faultPlace = NONE;
            draft.clear();
            at = NONE;
            advance();
            for (int i = 0; i <= MOST_SAYINGS && token != END && faultKind == 0; i++) {
                readSaying();
            }
            return faultKind == 0;
        }

        private void cutIntoTokens(int length) {
            int next = 0;
            tokens = 0;
            for (int i = 0; i < length && next < length; i++) {
                while (next < length && (tape[next] == 10 || tape[next] == 32)) {
                    next++;
                }
                if (next < length) {
                    int begin = next;
                    next = takeToken(begin, length);
                    places[tokens] = begin;
                    tokens++;
                    if (sorts[tokens - 1] == BAD) {
                        return;
                    }
                }
            }
            sorts[tokens] = END;
            places[tokens] = length;
        }

        /** Takes the token that begins at a place: the place behind it. */
        private int takeToken(int begin, int length) {
            byte b = tape[begin];
            if (b >= 'a' && b <= 'z') {
                return takeWord(begin, length);
            }
            if (b >= '0' && b <= '9') {
                return takeNumber(begin, length);
            }
            boolean sign = b == ';' || b == '<' || b == '>' || b == '=' || b == '+'
                || b == '-' || b == '*' || b == '(' || b == ')';
            sorts[tokens] = sign ? SIGN : BAD;
            values[tokens] = b;
            return begin + 1;
        }

        private int takeWord(int begin, int length) {
            long word = 0;
            int end = begin;
            while (end < length && tape[end] >= 'a' && tape[end] <= 'z') {
                word = word << 5 | tape[end] - 'a' + 1;
                end++;
            }
            sorts[tokens] = WORD;
            values[tokens] = end - begin > LONGEST_NAME ? NO_WORD : word;
            return end;
        }

        private int takeNumber(int begin, int length) {
            long number = 0;
            int end = begin;
            while (end < length && tape[end] >= '0' && tape[end] <= '9') {
                number = number * 10 + tape[end] - '0';
                end++;
            }
            sorts[tokens] = end - begin > MOST_DIGITS ? BAD : NUMBER;
            values[tokens] = number;
            return end;
        }

        private void advance() {
            if (faultKind == 0 && at < LONGEST_TEXT) {
                at++;
                token = sorts[at];
                value = values[at];
            }
        }

        /** A fault at the token that is looked at; no token is looked at from then on. */
        private void fail(int kind) {
            if (faultKind == 0) {
                faultKind = token == BAD ? NO_TOKEN : kind;
                faultPlace = places[at];
                token = BAD;
            }
        }

        private boolean isWord(long word) {
            return token == WORD && value == word;
        }

        private boolean isSign(char sign) {
            return token == SIGN && value == sign;
        }

        private void readSaying() {
            boolean bar = isWord(BAR);
            if (!bar && !isWord(ADD)) {
                fail(CANNOT_STAND);
                return;
            }
            if (draft.sayings >= MOST_SAYINGS) {
                fail(SAYING_TOO_MANY);
                return;
            }
            advance();
            if (!bar) {
                readSum(0);
            }
            draft.beginTest();
            if (bar) {
                readTest();
            } else if (isWord(IF)) {
                advance();
                readTest();
            }
            if (!isSign(';')) {
                fail(CANNOT_STAND);
            }
            advance();
            draft.endSaying();
        }

        /** An or waits till the ands behind it are done. */
        private void readTest() {
            boolean orWaits = false;
            readOne();
            for (int i = 0; i < LONGEST_TEXT && (isWord(OR) || isWord(AND)); i++) {
                boolean or = isWord(OR);
                if (or && orWaits) {
                    draft.emit(Wish.OR);
                }
                orWaits = orWaits || or;
                advance();
                readOne();
                if (!or) {
                    draft.emit(Wish.AND);
                }
            }
            if (orWaits) {
                draft.emit(Wish.OR);
            }
        }

        private void readOne() {
            boolean not = isWord(NOT);
            if (not) {
                advance();
            }
            readSum(0);
            int compares = isSign('<') ? Wish.LESS : isSign('>') ? Wish.MORE : Wish.SAME;
            if (compares == Wish.SAME && !isSign('=')) {
                fail(CANNOT_STAND);
            }
            advance();
            readSum(0);
            draft.emit(compares);
            if (not) {
                draft.emit(Wish.NOT);
            }
        }

        /** A plus or minus waits till the times behind it are done. */
        private void readSum(int depth) {
            int waits = NONE;
            readAtom(depth);
            for (int i = 0; i < LONGEST_TEXT && (isSign('+') || isSign('-') || isSign('*')); i++) {
                boolean times = isSign('*');
                if (!times && waits != NONE) {
                    draft.emit(waits);
                }
                if (!times) {
                    waits = isSign('+') ? Wish.PLUS : Wish.MINUS;
                }
                advance();
                readAtom(depth);
                if (times) {
                    draft.emit(Wish.TIMES);
                }
            }
            if (waits != NONE) {
                draft.emit(waits);
            }
        }

        private void readAtom(int depth) {
            int person = token == WORD ? people.find(value) : NONE;
            if (token == NUMBER) {
                draft.emit((int) value);
            } else if (person != NONE) {
                draft.emit(Wish.NAMES + person);
            } else if (isWord(SIZE)) {
                draft.emit(Wish.SIZE);
            } else if (isWord(KIN)) {
                draft.emit(Wish.KIN);
            } else if (token == WORD && !isKeyWord(value)) {
                fail(UNKNOWN_WORD);
            } else if (!isSign('(')) {
                fail(CANNOT_STAND);
            } else if (depth >= DEEPEST) {
                fail(TOO_DEEP);
            } else {
                advance();
                readSum(depth + 1);
                if (!isSign(')')) {
                    fail(CANNOT_STAND);
                }
            }
            advance();
        }
    }

    /** What every group is worth to everyone in it, worked out once for each wish. */
    private static final class Worths {
        private final People people;
        private final Wish[] wishes;
        /** All rows have a place for each group and person: the group times eight, and the person. */
        private final long[] total = new long[MOST_GROUPS * MOST_PEOPLE];
        private final int[] barring = new int[MOST_GROUPS * MOST_PEOPLE];
        final int[] value = new int[MOST_GROUPS * MOST_PEOPLE];
        private final int[] known = new int[MOST_PEOPLE];

        Worths(People people, Wish[] wishes) {
            this.people = people;
            this.wishes = wishes;
        }

        void forgetWish(int person) {
            known[person] = 0;
        }

        /** Works out what is not known yet: all groups of a new wish, and those with a new person. */
        void refresh() {
            int end = 1 << people.many;
            for (int p = 0; p < people.many; p++) {
                for (int group = known[p]; group < end; group++) {
                    if ((group >> p & 1) == 1) {
                        weigh(p, group);
                    }
                }
                known[p] = end;
            }
        }

        private void weigh(int person, int group) {
            Wish wish = wishes[person];
            int kin = Integer.bitCount(group & people.alike[person]);
            long sum = 0;
            int bars = 0;
            for (int s = 0; s < wish.sayings; s++) {
                if (!wish.isBar(s)) {
                    sum += wish.share(s, group, kin);
                } else if (wish.holds(s, group, kin)) {
                    bars |= 1 << s;
                }
            }
            int at = group << 3 | person;
            total[at] = sum;
            barring[at] = bars;
            value[at] = bars != 0 ? BARRED : cut(sum);
        }

        private static int cut(long sum) {
            return (int) Math.max(-GREATEST_WORTH, Math.min(GREATEST_WORTH, sum));
        }

        int plain(int person, int group) {
            return cut(total[group << 3 | person]);
        }

        boolean isBarred(int person, int group) {
            return barring[group << 3 | person] != 0;
        }

        int counted(int person, int group) {
            return isBarred(person, group) ? -GREATEST_WORTH : plain(person, group);
        }

        boolean better(int person, int group, int other) {
            return value[group << 3 | person] > value[other << 3 | person];
        }

        /** How much better a group is, if it is better at all. */
        int lead(int person, int group, int other) {
            int now = value[other << 3 | person];
            return now == BARRED ? ENDLESS : value[group << 3 | person] - now;
        }

        boolean anyBetter(int who, int group, int other) {
            for (int p = 0; p < MOST_PEOPLE; p++) {
                if ((who >> p & 1) == 1 && value[group << 3 | p] > value[other << 3 | p]) {
                    return true;
                }
            }
            return false;
        }

        boolean allBetter(int who, int group, int other) {
            for (int p = 0; p < MOST_PEOPLE; p++) {
                if ((who >> p & 1) == 1 && value[group << 3 | p] <= value[other << 3 | p]) {
                    return false;
                }
            }
            return true;
        }

        /** Till bringBack the values are those without a saying; what plain, isBarred and counted tell stays. */
        void leaveOut(int person, int saying) {
            Wish wish = wishes[person];
            boolean bar = wish.isBar(saying);
            for (int group = 1; group < 1 << people.many; group++) {
                if ((group >> person & 1) == 1) {
                    int at = group << 3 | person;
                    int kin = Integer.bitCount(group & people.alike[person]);
                    long share = bar ? 0 : wish.share(saying, group, kin);
                    value[at] = (barring[at] & ~(1 << saying)) != 0 ? BARRED : cut(total[at] - share);
                }
            }
        }

        void bringBack(int person) {
            for (int group = 1; group < 1 << people.many; group++) {
                int at = group << 3 | person;
                if ((group >> person & 1) == 1) {
                    value[at] = barring[at] != 0 ? BARRED : cut(total[at]);
                }
            }
        }

        boolean areFriends() {
            for (int group = 1; group < 1 << people.many; group++) {
                for (int p = 0; p < people.many; p++) {
                    if ((group >> p & 1) == 1 && !isFriendly(group, p)) {
                        return false;
                    }
                }
            }
            return true;
        }

        private boolean isFriendly(int group, int person) {
            if (isBarred(person, group)) {
                return false;
            }
            int twos = 0;
            for (int q = 0; q < people.many; q++) {
                if (q != person && (group >> q & 1) == 1) {
                    int two = 1 << person | 1 << q;
                    if (plain(person, two) != plain(q, two)) {
                        return false;
                    }
                    twos += plain(person, two);
                }
            }
            return plain(person, group) == twos;
        }

        boolean isAlike(int group) {
            int least = Integer.numberOfTrailingZeros(group) & 7;
            for (int p = 0; p < people.many; p++) {
                if ((group >> p & 1) == 1 && (isBarred(p, group) || plain(p, group) != plain(least, group))) {
                    return false;
                }
            }
            return true;
        }
    }

    /** Some people who alone are there, with some sizes, as a kind of break sees them. */
    private static final class World {
        final People people;
        final Worths worths;
        int set = 0;
        int sizes = 0;
        int kind = NONE;
        boolean fresh = false;
        /** Whether a group is lawful; the empty one, which a leaver may leave behind, counts so too. */
        final boolean[] stands = new boolean[MOST_GROUPS];
        /** For the kinds 0 to 3: who may come to a group, and who may leave it, whatever they think of it. */
        final int[] join = new int[MOST_GROUPS];
        final int[] leave = new int[MOST_GROUPS];
        /** For the core: four longs for each group, as a set of the groups that break it, as far as it has a say. */
        final long[] wants = new long[4 * MOST_GROUPS];
        private final boolean[] wantsKnown = new boolean[MOST_GROUPS];

        World(People people, Worths worths) {
            this.people = people;
            this.worths = worths;
            stands[0] = true;
        }

        void aim(int newSet, int newSizes, int newKind) {
            if (fresh && set == newSet && sizes == newSizes && kind == newKind) {
                return;
            }
            set = newSet;
            sizes = newSizes;
            kind = newKind;
            fresh = true;
            for (int group = 1; group <= set; group++) {
                wantsKnown[group] = false;
                stands[group] = (group & ~set) == 0 && people.allows(group, sizes, set);
            }
            if (kind >= ALONE && kind <= LEAVE) {
                for (int group = 0; group <= set; group++) {
                    if (stands[group]) {
                        join[group] = joiners(group);
                        leave[group] = leavers(group);
                    }
                }
            }
        }

        private int joiners(int group) {
            int found = 0;
            for (int p = 0; p < people.many; p++) {
                int bit = 1 << p;
                int grown = group | bit;
                boolean can = (set & ~group & bit) != 0 && stands[grown];
                if (can && (kind < ASK || !worths.anyBetter(group, group, grown))) {
                    found |= bit;
                }
            }
            return found;
        }

        private int leavers(int group) {
            int found = 0;
            for (int p = 0; p < people.many; p++) {
                int bit = 1 << p;
                int rest = group & ~bit;
                boolean can = (group & bit) != 0 && stands[rest];
                if (can && (kind != LEAVE || !worths.anyBetter(rest, group, rest))) {
                    found |= bit;
                }
            }
            return found;
        }

        void learnWants(int group) {
            if (wantsKnown[group]) {
                return;
            }
            wantsKnown[group] = true;
            int base = group << 2;
            for (int i = 0; i < 4; i++) {
                wants[base + i] = 0;
            }
            for (int goal = 1; goal <= set; goal++) {
                if (stands[goal] && stands[group & ~goal] && worths.allBetter(group & goal, goal, group)) {
                    wants[base + (goal >> 6)] |= 1L << (goal & 63);
                }
            }
        }

        /** Whether a group has no break that is its own affair, in whatever parting it stands. */
        boolean isQuiet(int group) {
            if (kind == CORE) {
                learnWants(group);
                for (int goal = 1; goal < group; goal++) {
                    if ((goal & ~group) == 0 && (wants[(group << 2) + (goal >> 6)] >>> (goal & 63) & 1) == 1) {
                        return false;
                    }
                }
                return true;
            }
            int could = kind >= ALONE && kind <= LEAVE ? leave[group] & join[0] : 0;
            for (int p = 0; p < people.many; p++) {
                if ((could >> p & 1) == 1 && worths.better(p, 1 << p, group)) {
                    return false;
                }
            }
            return true;
        }

        /** Whether all lawful groups are barred by nobody and worth the same to all in them. */
        boolean isAllAlike() {
            for (int group = 1; group <= set; group++) {
                if (stands[group] && !worths.isAlike(group)) {
                    return false;
                }
            }
            return true;
        }
    }

    /** People in groups, these numbered in the order of their least people. */
    private static final class Parting {
        final int[] group = new int[MOST_PEOPLE];
        final int[] room = new int[MOST_PEOPLE];
        private final int[] label = new int[MOST_PEOPLE];
        private final int[] fresh = new int[MOST_PEOPLE + 1];
        int many = 0;

        static int roomIn(int key, int person) {
            return key >> 3 * person & 7;
        }

        boolean takeFrom(Tray tray, People people) {
            for (int p = 0; p < people.many; p++) {
                long number = tray.row[p];
                if (number < 0 || number >= MOST_PEOPLE) {
                    return false;
                }
                label[p] = (int) number;
            }
            gatherLabels(people.everyone());
            for (int g = 0; g < many; g++) {
                if (!people.allows(group[g], people.sizes, people.everyone())) {
                    return false;
                }
            }
            return true;
        }

        /** Labels are 0 to 8; groups are numbered as they come. */
        private void gatherLabels(int set) {
            many = 0;
            for (int i = 0; i <= MOST_PEOPLE; i++) {
                fresh[i] = NONE;
            }
            for (int p = 0; p < MOST_PEOPLE; p++) {
                if ((set >> p & 1) == 1) {
                    int found = fresh[label[p]];
                    if (found == NONE) {
                        found = many;
                        fresh[label[p]] = found;
                        group[found] = 0;
                        many++;
                    }
                    group[found] |= 1 << p;
                    room[p] = found;
                }
            }
        }

        private int labelRooms() {
            int set = 0;
            for (int g = 0; g < many; g++) {
                set |= group[g];
            }
            for (int p = 0; p < MOST_PEOPLE; p++) {
                label[p] = room[p];
            }
            return set;
        }

        /** A set of people go to the group of a person, or to one of their own, if goal is NONE. */
        void move(int who, int goal) {
            int set = labelRooms();
            int target = goal == NONE ? MOST_PEOPLE : room[goal];
            for (int p = 0; p < MOST_PEOPLE; p++) {
                if ((who >> p & 1) == 1) {
                    label[p] = target;
                }
            }
            gatherLabels(set);
        }

        void swap(int a, int b) {
            int set = labelRooms();
            label[a] = room[b];
            label[b] = room[a];
            gatherLabels(set);
        }

        int groupOf(int person) {
            return group[room[person]];
        }

        int key() {
            int key = 0;
            for (int g = 0; g < many; g++) {
                for (int p = 0; p < MOST_PEOPLE; p++) {
                    key |= (group[g] >> p & 1) * g << 3 * p;
                }
            }
            return key;
        }
    }

    /** All partings of a world, in order. */
    private static final class Partings {
        private final World world;
        final Parting now = new Parting();
        private final int[] order = new int[MOST_PEOPLE];
        private final int[] choice = new int[MOST_PEOPLE];
        private final int[] opened = new int[MOST_PEOPLE + 1];
        /** Whether a group of people up to a person can grow by later ones to one that may stand. */
        private final boolean[] reach = new boolean[2 * MOST_GROUPS];
        private int many = 0;
        private boolean begun = false;

        Partings(World world) {
            this.world = world;
        }

        /** If quietOnly, partings are left out that have a break within one group. */
        void begin(boolean quietOnly) {
            many = 0;
            for (int p = 0; p < MOST_PEOPLE; p++) {
                if ((world.set >> p & 1) == 1) {
                    order[many] = p;
                    many++;
                }
            }
            for (int group = 0; group < MOST_GROUPS; group++) {
                reach[MOST_GROUPS + group] = group > 0 && group <= world.set && world.stands[group]
                    && (!quietOnly || world.isQuiet(group));
            }
            for (int p = MOST_PEOPLE - 1; p >= 0; p--) {
                boolean inside = (world.set >> p & 1) == 1;
                for (int group = 0; group < 1 << p; group++) {
                    reach[(1 << p) + group] = reach[(2 << p) + group] || inside && reach[(2 << p) + (group | 1 << p)];
                }
            }
            now.many = 0;
            begun = false;
        }

        /** Goes on to the next parting: whether there is one. */
        boolean next() {
            int level = begun ? many - 1 : 0;
            boolean back = begun;
            if (many == 0) {
                begun = true;
                return !back;
            }
            begun = true;
            for (int i = 0; i < FAR && level >= 0; i++) {
                if (back) {
                    takeBack(level);
                } else {
                    choice[level] = NONE;
                    opened[level] = now.many;
                }
                back = !placeNext(level);
                if (!back && level == many - 1) {
                    return true;
                }
                level += back ? -1 : 1;
            }
            return false;
        }

        private void takeBack(int level) {
            now.group[choice[level]] &= ~(1 << order[level]);
            now.many = opened[level];
        }

        private boolean placeNext(int level) {
            int person = order[level];
            for (int room = choice[level] + 1; room <= opened[level]; room++) {
                int before = room < opened[level] ? now.group[room] : 0;
                now.group[room] = before | 1 << person;
                now.many = Math.max(opened[level], room + 1);
                if (canGoOn(person)) {
                    choice[level] = room;
                    now.room[person] = room;
                    return true;
                }
                now.group[room] = before;
            }
            now.many = opened[level];
            return false;
        }

        private boolean canGoOn(int person) {
            for (int g = 0; g < now.many; g++) {
                if (!reach[(2 << person) + now.group[g]]) {
                    return false;
                }
            }
            return true;
        }
    }

    /** What breaks a parting. */
    private static final class Breaks {
        private final World world;
        private final Worths worths;
        int many = 0;
        int who = NONE;
        int goal = NONE;
        /** The greatest over all breaks of what the one who gains least by it gains. */
        int worst = 0;
        private int stopMany = 0;
        private int stopWorst = ENDLESS;
        private boolean weighing = false;

        Breaks(World world, Worths worths) {
            this.world = world;
            this.worths = worths;
        }

        /** Looks through the breaks in order, up to so many; if limit is not NONE, also till worst is not below it. */
        void look(Parting told, int most, int limit) {
            many = 0;
            worst = 0;
            stopMany = most;
            stopWorst = limit;
            weighing = limit != NONE;
            if (world.kind == CORE) {
                lookForCores(told);
            } else if (world.kind == SWAP) {
                lookForSwaps(told);
            } else if (world.kind >= ALONE) {
                lookForMoves(told);
            }
        }

        private boolean isEnough() {
            return many >= stopMany || weighing && worst >= stopWorst;
        }

        private void note(int first, int second, int strength) {
            if (many == 0) {
                who = first;
                goal = second;
            }
            many++;
            if (strength > worst) {
                worst = strength;
            }
        }

        private void lookForMoves(Parting told) {
            for (int p = 0; p < MOST_PEOPLE && !isEnough(); p++) {
                int bit = 1 << p;
                if ((world.set & bit) != 0 && (world.leave[told.groupOf(p)] & bit) != 0) {
                    for (int g = 0; world.kind != ALONE && g < told.many && !isEnough(); g++) {
                        lookAtMove(p, told.group[g], told.groupOf(p));
                    }
                    if (told.groupOf(p) != bit && !isEnough()) {
                        lookAtMove(p, 0, told.groupOf(p));
                    }
                }
            }
        }

        private void lookAtMove(int person, int group, int from) {
            int grown = group | 1 << person;
            if ((world.join[group] >> person & 1) == 1 && worths.better(person, grown, from)) {
                note(person, group, worths.lead(person, grown, from));
            }
        }

        private void lookForCores(Parting told) {
            for (int g = 0; g < told.many; g++) {
                world.learnWants(told.group[g]);
            }
            for (int part = 0; part < 4 && part << 6 <= world.set && !isEnough(); part++) {
                long found = told.many == 0 ? 0 : -1L;
                for (int g = 0; g < told.many; g++) {
                    found &= world.wants[(told.group[g] << 2) + part];
                }
                noteCores(told, part << 6, found);
            }
        }

        private void noteCores(Parting told, int base, long found) {
            if (found == 0) {
                return;
            }
            if (!weighing) {
                int least = base + Long.numberOfTrailingZeros(found);
                int before = many;
                note(least, least, 0);
                many = before + Long.bitCount(found);
                return;
            }
            for (int bit = 0; bit < 64 && !isEnough(); bit++) {
                if ((found >>> bit & 1) == 1) {
                    note(base + bit, base + bit, coreStrength(told, base + bit));
                }
            }
        }

        private int coreStrength(Parting told, int core) {
            int least = ENDLESS;
            for (int p = 0; p < MOST_PEOPLE; p++) {
                if ((core >> p & 1) == 1) {
                    least = Math.min(least, worths.lead(p, core, told.groupOf(p)));
                }
            }
            return least;
        }

        private void lookForSwaps(Parting told) {
            for (int p = 0; p < MOST_PEOPLE && !isEnough(); p++) {
                for (int q = p + 1; q < MOST_PEOPLE && !isEnough(); q++) {
                    int both = 1 << p | 1 << q;
                    if ((world.set & both) == both && told.room[p] != told.room[q]) {
                        lookAtSwap(told, p, q);
                    }
                }
            }
        }

        private void lookAtSwap(Parting told, int p, int q) {
            int both = 1 << p | 1 << q;
            int ofP = told.groupOf(p);
            int ofQ = told.groupOf(q);
            int forP = ofQ ^ both;
            int forQ = ofP ^ both;
            if (world.stands[forP] && world.stands[forQ]
                && worths.better(p, forP, ofP) && worths.better(q, forQ, ofQ)) {
                note(p, q, Math.min(worths.lead(p, forP, ofP), worths.lead(q, forQ, ofQ)));
            }
        }

        /** Does the first break that was found. */
        void carryOut(Parting told) {
            if (many == 0) {
                return;
            }
            if (world.kind == CORE) {
                told.move(who, NONE);
            } else if (world.kind == SWAP) {
                told.swap(who, goal);
            } else {
                told.move(1 << who, goal == 0 ? NONE : Integer.numberOfTrailingZeros(goal));
            }
        }
    }

    /** Looks through partings for what is asked of one kind. */
    private static final class Search {
        private static final int NOT_YET = -2;
        private static final int ALL_MENDS = 7;

        private final People people;
        private final Worths worths;
        private final World world;
        final Partings partings;
        final Breaks breaks;
        final Parting built = new Parting();
        final int[] mends = new int[ALL_MENDS];
        final int[] goneRoom = new int[MOST_PEOPLE];
        private int mendKind = NOT_YET;
        private int nearKind = NOT_YET;
        int nearMany = NONE;
        int nearKey = 0;
        int gained = 0;

        Search(People people, Worths worths) {
            World newWorld = new World(people, worths);
            this.people = people;
            this.worths = worths;
            world = newWorld;
            partings = new Partings(newWorld);
            breaks = new Breaks(newWorld, worths);
            for (int p = 0; p < MOST_PEOPLE; p++) {
                goneRoom[p] = NONE;
            }
        }

        void forget() {
            world.fresh = false;
            mendKind = NOT_YET;
            nearKind = NOT_YET;
        }

        int breaksOf(Parting told, int kind, int most) {
            world.aim(people.everyone(), people.sizes, kind);
            breaks.look(told, most, NONE);
            return breaks.many;
        }

        /** Makes ready for nextPeace. */
        void beginPeace(int set, int sizes, int kind) {
            world.aim(set, sizes, kind);
            partings.begin(true);
        }

        boolean nextPeace() {
            for (int i = 0; i < FAR && partings.next(); i++) {
                breaks.look(partings.now, 1, NONE);
                if (breaks.many == 0) {
                    return true;
                }
            }
            return false;
        }

        int smallestKnot(int kind) {
            int everyone = people.everyone();
            beginPeace(everyone, people.sizes, kind);
            if (nextPeace()) {
                return NONE;
            }
            for (int size = 1; size < people.many; size++) {
                for (int set = 1; set < everyone; set++) {
                    if (Integer.bitCount(set) == size) {
                        beginPeace(set, people.sizes, kind);
                        if (!nextPeace()) {
                            return set;
                        }
                    }
                }
            }
            return everyone;
        }

        void seekNear(int kind) {
            if (nearKind == kind) {
                return;
            }
            nearKind = kind;
            nearMany = NONE;
            nearKey = 0;
            int fewest = ENDLESS;
            world.aim(people.everyone(), people.sizes, kind);
            partings.begin(false);
            for (int i = 0; i < FAR && fewest > 0 && partings.next(); i++) {
                breaks.look(partings.now, fewest, NONE);
                if (breaks.many < fewest) {
                    fewest = breaks.many;
                    nearMany = fewest;
                    nearKey = partings.now.key();
                }
            }
        }

        int leastToBear(int kind) {
            int least = ENDLESS;
            world.aim(people.everyone(), people.sizes, kind);
            partings.begin(false);
            for (int i = 0; i < FAR && least > 0 && partings.next(); i++) {
                breaks.look(partings.now, ENDLESS, least);
                least = Math.min(least, breaks.worst);
            }
            return least;
        }

        /** Makes ready for the mends of a kind: whether they are to be looked for, by the three calls below. */
        boolean beginMends(int kind) {
            if (mendKind == kind) {
                return false;
            }
            mendKind = kind;
            beginPeace(people.everyone(), people.sizes, kind);
            boolean broken = !nextPeace();
            for (int what = 0; what < ALL_MENDS; what++) {
                boolean isCount = what == 0 || what == 3 || what == 5;
                mends[what] = broken && isCount ? 0 : NONE;
            }
            return broken;
        }

        void tryWords() {
            for (int p = 0; p < people.many; p++) {
                for (int s = 0; s < worths.wishes[p].sayings; s++) {
                    takeOut(p, s);
                    beginPeace(people.everyone(), people.sizes, mendKind);
                    boolean found = nextPeace();
                    putBack(p);
                    if (found && mends[0] == 0) {
                        mends[2] = s;
                    }
                    noteMend(found, 0, p);
                }
            }
        }

        void trySizes() {
            for (int size = 1; size <= people.many; size++) {
                int more = people.sizes | 1 << size - 1;
                if (more != people.sizes) {
                    beginPeace(people.everyone(), more, mendKind);
                    noteMend(nextPeace(), 3, size);
                }
            }
        }

        void tryPeople() {
            for (int p = 0; p < people.many; p++) {
                beginPeace(people.everyone() & ~(1 << p), people.sizes, mendKind);
                noteMend(nextPeace(), 5, p);
            }
        }

        private void noteMend(boolean found, int what, int which) {
            if (found && mends[what] == 0) {
                mends[what + 1] = which;
            }
            mends[what] += found ? 1 : 0;
        }

        /** Till putBack all searches are without a saying. */
        private void takeOut(int person, int saying) {
            worths.leaveOut(person, saying);
            world.fresh = false;
        }

        private void putBack(int person) {
            worths.bringBack(person);
            world.fresh = false;
        }

        /** Whether there is peace with the saying and without it; if so, gained tells. */
        boolean weighGain(int kind, int person, int saying) {
            beginPeace(people.everyone(), people.sizes, kind);
            if (!nextPeace()) {
                return false;
            }
            int with = worths.counted(person, partings.now.groupOf(person));
            takeOut(person, saying);
            beginPeace(people.everyone(), people.sizes, kind);
            boolean found = nextPeace();
            putBack(person);
            if (found) {
                gained = worths.counted(person, partings.now.groupOf(person)) - with;
            }
            return found;
        }

        boolean areAlike() {
            world.aim(people.everyone(), people.sizes, NONE);
            return world.isAllAlike();
        }

        /** The greedy parting comes to built: whether there is one. */
        boolean takeGreatest() {
            int left = people.everyone();
            for (int p = 0; p < MOST_PEOPLE; p++) {
                built.room[p] = 0;
            }
            built.many = 1;
            built.group[0] = left;
            for (int i = 0; i < MOST_PEOPLE && left != 0; i++) {
                int best = greatestWithin(left);
                if (best == 0) {
                    return false;
                }
                built.move(best, NONE);
                left &= ~best;
            }
            return true;
        }

        private int greatestWithin(int left) {
            int best = 0;
            int bestWorth = 0;
            for (int group = 1; group <= left; group++) {
                if ((group & ~left) == 0 && world.stands[group]) {
                    int worth = worths.plain(Integer.numberOfTrailingZeros(group) & 7, group);
                    if (best == 0 || worth > bestWorth) {
                        best = group;
                        bestWorth = worth;
                    }
                }
            }
            return best;
        }

        /** How few are moved if a person goes; NONE if those who stay find no peace. */
        int settleWithout(Parting told, int kind, int leaver) {
            int fewest = NONE;
            world.aim(people.everyone() & ~(1 << leaver), people.sizes, kind);
            partings.begin(true);
            for (int i = 0; i < FAR && fewest != 0 && partings.next(); i++) {
                int moved = movedFrom(told, 1 << leaver);
                if (fewest == NONE || moved < fewest) {
                    breaks.look(partings.now, 1, NONE);
                    if (breaks.many == 0) {
                        fewest = moved;
                        keepGone();
                    }
                }
            }
            return fewest;
        }

        private int movedFrom(Parting told, int leaver) {
            int moved = 0;
            for (int p = 0; p < people.many; p++) {
                boolean stays = (world.set >> p & 1) == 1;
                if (stays && (told.groupOf(p) & ~leaver) != partings.now.groupOf(p)) {
                    moved++;
                }
            }
            return moved;
        }

        private void keepGone() {
            for (int p = 0; p < MOST_PEOPLE; p++) {
                goneRoom[p] = (world.set >> p & 1) == 1 ? partings.now.room[p] : NONE;
            }
        }
    }

    /** All partings with peace of the kind asked for latest, the best of them, and weeks made of them. */
    private static final class Peace {
        private static final int NOT_YET = -2;

        private final People people;
        private final Worths worths;
        private final Search search;
        private final int[] keys = new int[MOST_PARTINGS];
        private int kind = NOT_YET;
        int many = 0;
        int bestSum = 0;
        int bestLeast = 0;
        private int sumKey = 0;
        private int leastKey = 0;
        /** Sets of pairs who share in one of the partings; those are left out that have another one within. */
        private final int[] slim = new int[MOST_PARTINGS];
        private int slims = 0;
        private int fewestPairs = 0;
        private int slimPairs = 0;
        final int[] row = new int[MOST_WEEKS];
        private final int[] draft = new int[MOST_WEEKS];
        int planned = 0;

        Peace(People people, Worths worths, Search search) {
            this.people = people;
            this.worths = worths;
            this.search = search;
        }

        void forget() {
            kind = NOT_YET;
        }

        void gather(int newKind) {
            if (kind == newKind) {
                return;
            }
            kind = newKind;
            many = 0;
            search.beginPeace(people.everyone(), people.sizes, kind);
            for (int i = 0; i < MOST_PARTINGS && search.nextPeace(); i++) {
                Parting found = search.partings.now;
                keys[many] = found.key();
                compare(found);
                many++;
            }
        }

        private void compare(Parting found) {
            int total = 0;
            int least = people.many == 0 ? 0 : ENDLESS;
            for (int p = 0; p < people.many; p++) {
                int worth = worths.counted(p, found.groupOf(p));
                total += worth;
                least = Math.min(least, worth);
            }
            if (many == 0 || total > bestSum) {
                bestSum = total;
                sumKey = keys[many];
            }
            if (many == 0 || least > bestLeast) {
                bestLeast = least;
                leastKey = keys[many];
            }
        }

        int keyOf(int what) {
            if (what == 0) {
                return keys[0];
            }
            return what == 1 ? sumKey : leastKey;
        }

        int sharing(int a, int b) {
            int found = 0;
            for (int i = 0; i < many; i++) {
                if (Parting.roomIn(keys[i], a) == Parting.roomIn(keys[i], b)) {
                    found++;
                }
            }
            return found;
        }

        /** The pairs who share, as a set; those who may share again are not counted. */
        private int pairsOf(int key) {
            int pairs = 0;
            int bit = 1;
            for (int p = 0; p < people.many; p++) {
                for (int q = p + 1; q < people.many; q++) {
                    boolean counts = (people.alike[p] >> q & 1) == 0;
                    if (counts && Parting.roomIn(key, p) == Parting.roomIn(key, q)) {
                        pairs |= bit;
                    }
                    bit <<= 1;
                }
            }
            return pairs;
        }

        /** Later partings have smaller groups, so the way from the last one on meets the least sets first. */
        private void learnPairs() {
            slims = 0;
            slimPairs = 0;
            fewestPairs = ENDLESS;
            for (int i = many - 1; i >= 0; i--) {
                int pairs = pairsOf(keys[i]);
                if (!hasSlimWithin(pairs)) {
                    slim[slims] = pairs;
                    slims++;
                    slimPairs |= pairs;
                    fewestPairs = Math.min(fewestPairs, Integer.bitCount(pairs));
                }
            }
        }

        private boolean hasSlimWithin(int pairs) {
            for (int i = 0; i < slims; i++) {
                if ((slim[i] & ~pairs) == 0) {
                    return true;
                }
            }
            return false;
        }

        /** Whether so many weeks more can be found; their order, and which they are, does not matter here. */
        private boolean canFill(int used, int weeksLeft, int from) {
            if (weeksLeft <= 0) {
                return true;
            }
            int free = Integer.bitCount(slimPairs & ~used);
            if (slims == 0 || (long) weeksLeft * fewestPairs > free) {
                return false;
            }
            for (int i = from; i < slims; i++) {
                if ((slim[i] & used) == 0 && canFill(used | slim[i], weeksLeft - 1, i)) {
                    return true;
                }
            }
            return false;
        }

        boolean planWeeks(int weeksAsked) {
            learnPairs();
            if (weeksAsked > MOST_WEEKS || !canFill(0, weeksAsked, 0)) {
                return false;
            }
            int used = 0;
            int from = 0;
            for (int w = 0; w < weeksAsked; w++) {
                from = firstThatFits(from, used, weeksAsked - w - 1);
                used |= pairsOf(keys[from]);
                draft[w] = from;
            }
            for (int w = 0; w < weeksAsked; w++) {
                row[w] = draft[w];
            }
            planned = weeksAsked;
            return true;
        }

        private int firstThatFits(int from, int used, int weeksLeft) {
            for (int i = from; i < many; i++) {
                int pairs = pairsOf(keys[i]);
                if ((pairs & used) == 0 && canFill(used | pairs, weeksLeft, 0)) {
                    return i;
                }
            }
            return 0;
        }
    }
}
