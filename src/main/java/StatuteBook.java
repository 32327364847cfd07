/**
 * Clauses of dated laws, what they grant to whom on which day and why, what an amendment changes,
 * statutes read from texts, a register of clauses, sheets of numbers and an image of it all.
 *
 * No call makes an object: every row is made with the book and used again.
 */
public final class StatuteBook {
    public static final int NONE = -1, BAD = -2, STATE = -3, FULL = -4;
    public static final long NO = -4611686018427387904L;

    private static final int NOTHING_HELD = -11, OUTSIDE = -12, OTHER_SORT = -13, BELOW_ZERO = -14;
    private static final int FAULT_AT_START = -100;

    private static final int MOST_CLAUSES = 12, MOST_FILED = 16, MOST_BYTES = 120, SHEETS = 4, MOST_CELLS = 40;
    private static final int MOST_NUMBER = 999, LAST_DAY = 999, MOST_GRANTED = 999, MOST_TESTED = 99, MOST_PART = 99;
    private static final int LAST_PROFILE = 25599999, LAST_ALONG = 3, ALL_MARKS = 31;

    private final Clauses now = new Clauses();
    private final Clauses marked = new Clauses();
    private final Register register = new Register();
    private final Draws draws = new Draws();
    private final Tape tape = new Tape();
    private final Reader reader = new Reader(now);
    private final Line line = new Line();
    private final Sheet[] sheets = {new Sheet(), new Sheet(), new Sheet(), new Sheet()};

    private boolean imaged = false;
    private final Clauses imageClauses = new Clauses();
    private final Register imageRegister = new Register();
    private int imageZ = 0;

    public StatuteBook() {
    }

    // ---- clauses

    public int clause() {
        return now.append();
    }

    public int test(int c, int how, int t, int low, int high) {
        if (!now.has(c) || !within(how, 0, Clauses.LAST_HOW)) return BAD;
        if (!within(t, 0, Clauses.testNeedsTrait(how) ? LAST_ALONG : 0)) return BAD;
        int most = how == Clauses.BY_MARKS ? ALL_MARKS : MOST_TESTED;
        if (!within(low, 0, most) || !within(high, 0, most)) return BAD;
        int before = now.at(c, Clauses.HOW);
        now.put(c, Clauses.HOW, how);
        now.put(c, Clauses.TEST_TRAIT, t);
        now.put(c, Clauses.LOW, low);
        now.put(c, Clauses.HIGH, high);
        return before;
    }

    public int grant(int c, int sort, int t, int a, int b) {
        if (!now.has(c) || !within(sort, 0, Clauses.LAST_SORT)) return BAD;
        if (!within(t, 0, Clauses.grantNeedsTrait(sort) ? LAST_ALONG : 0)) return BAD;
        if (!within(a, 0, MOST_GRANTED)) return BAD;
        if (!within(b, Clauses.leastPart(sort), Clauses.mostPart(sort))) return BAD;
        int before = now.at(c, Clauses.SORT);
        now.put(c, Clauses.SORT, sort);
        now.put(c, Clauses.GRANT_TRAIT, t);
        now.put(c, Clauses.A, a);
        now.put(c, Clauses.B, b);
        return before;
    }

    public int span(int c, int from, int to) {
        if (!now.has(c) || !isDay(from) || !isDay(to) || to < from) return BAD;
        now.put(c, Clauses.FROM, from);
        now.put(c, Clauses.TO, to);
        return 1;
    }

    public int except(int c, int d) {
        if (!now.has(c) || !within(d, NONE, c - 1)) return BAD;
        int before = now.at(c, Clauses.EXCEPTED);
        now.put(c, Clauses.EXCEPTED, d);
        return before;
    }

    public int of(int c, int what) {
        if (!now.has(c) || !within(what, 0, Clauses.FIELDS - 1)) return BAD;
        return now.at(c, what);
    }

    public int drop() {
        if (now.size() == 0) return STATE;
        now.cutTo(now.size() - 1);
        return now.size();
    }

    // ---- outcomes

    public int profile(int age, int income, int children, int place, int marks) {
        boolean asTold = within(age, 0, Traits.last(Traits.AGE))
                && within(income, 0, Traits.last(Traits.INCOME))
                && within(children, 0, Traits.last(Traits.CHILDREN))
                && within(place, 0, Traits.last(Traits.PLACE))
                && within(marks, 0, Traits.last(Traits.MARKS));
        return asTold ? Traits.together(age, income, children, place, marks) : BAD;
    }

    public int trait(int profile, int t) {
        if (!isProfile(profile) || !within(t, 0, Traits.MARKS)) return BAD;
        return Traits.told(profile, t);
    }

    public int outcome(int profile, int day) {
        if (!isProfile(profile) || !isDay(day)) return BAD;
        return now.total(profile, day);
    }

    public int reason(int profile, int day) {
        if (!isProfile(profile) || !isDay(day)) return BAD;
        return now.counting(now.holding(profile, day));
    }

    public int why(int profile, int day, int c, int what) {
        if (!isProfile(profile) || !isDay(day) || !now.has(c)) return BAD;
        int holding = now.holding(profile, day);
        switch (what) {
            case 0: return Clauses.isIn(now.counting(holding), c) ? now.worth(c, profile) : 0;
            case 1: return now.whyNot(c, day, holding);
            case 2: return now.leastException(c, now.standing(holding));
            default: return BAD;
        }
    }

    public int hold(int profile, int day, int what) {
        if (!isProfile(profile) || !isDay(day) || !within(what, 0, 1)) return BAD;
        int holding = now.holding(profile, day);
        return what == 0 ? holding : now.standing(holding);
    }

    // ---- along a trait

    public int best(int profile, int day, int t, int what) {
        if (!isAlong(profile, day, t) || !within(what, 0, 1)) return BAD;
        line.follow(now, profile, day, t);
        int v = line.leastOfMost();
        return what == 0 ? v : line.at(v);
    }

    public int jumps(int profile, int day, int t, int what) {
        if (!isAlong(profile, day, t)) return BAD;
        line.follow(now, profile, day, t);
        switch (what) {
            case 0: return line.jumpCount();
            case 1: return line.firstJump();
            case 2: return line.cliffCount();
            case 3: return line.highestCliff();
            case 4: return line.cliffHeight(line.highestCliff());
            default: return BAD;
        }
    }

    public int bends(int profile, int day, int t, int what) {
        if (!isAlong(profile, day, t)) return BAD;
        line.follow(now, profile, day, t);
        switch (what) {
            case 0: return line.bendCount();
            case 1: return line.firstBend();
            case 2: return line.longestLevel();
            default: return BAD;
        }
    }

    public int enough(int profile, int day, int t, int v) {
        if (!isAlong(profile, day, t) || v < 0) return BAD;
        line.follow(now, profile, day, t);
        return line.leastReaching(v);
    }

    public long share(int profile, int day, int n) {
        if (!isProfile(profile) || !isDay(day) || !within(n, 1, 9)) return NO + BAD;
        return Bits.ofDouble((double) now.total(profile, day) / n);
    }

    public int mean(int day, int n) {
        if (!isDay(day) || !within(n, 1, 20)) return BAD;
        int before = draws.z;
        float sum = 0.0f;
        for (int i = 0; i < n; i++) {
            int profile = draws.nextProfile();
            sum = sum + (float) now.total(profile, day) / (1 + Traits.told(profile, Traits.CHILDREN));
        }
        draws.z = before;
        return Bits.ofFloat(sum);
    }

    // ---- days, amendments

    public int until(int profile, int day) {
        if (!isProfile(profile) || !isDay(day)) return BAD;
        int total = now.total(profile, day);
        int next = now.nextEdge(day);
        // Each clause has two edges, so this many steps pass them all.
        for (int i = 0; i < 2 * MOST_CLAUSES && next <= LAST_DAY; i++) {
            if (now.total(profile, next) != total) return next;
            next = now.nextEdge(next);
        }
        return NONE;
    }

    public int mark() {
        marked.become(now);
        return now.size();
    }

    public int touched(int profile, int day) {
        if (!isProfile(profile) || !isDay(day)) return BAD;
        return now.total(profile, day) - marked.total(profile, day);
    }

    public int touches(int profile, int day, int t, int what) {
        if (!isAlong(profile, day, t)) return BAD;
        line.follow(now, profile, day, t);
        line.lessen(marked, profile, day, t);
        switch (what) {
            case 0: return line.otherThanZeroCount();
            case 1: return line.firstOtherThanZero();
            case 2: return line.farthestFromZero();
            case 3: return line.belowZeroCount();
            default: return BAD;
        }
    }

    public int drawn(int day, int n) {
        if (!isDay(day) || !within(n, 1, 50)) return BAD;
        int found = 0;
        for (int i = 0; i < n; i++) {
            int profile = draws.nextProfile();
            if (now.total(profile, day) != marked.total(profile, day)) found++;
        }
        return found;
    }

    // ---- the register

    public int file(int c) {
        if (!now.has(c)) return BAD;
        return register.keep(now, c);
    }

    public int filed(int c, int what) {
        if (!now.has(c) || !within(what, 0, 1)) return BAD;
        int place = register.find(now, c);
        return what == 0 ? place : register.timesAt(place);
    }

    public int alike() {
        int found = 0;
        for (int c = 0; c < now.size(); c++) {
            if (now.isSaidAgain(c)) found++;
        }
        return found;
    }

    public int forget() {
        int kept = register.size();
        register.empty();
        return kept;
    }

    // ---- texts

    public int feed(int bytes, int n) {
        if (!within(n, 1, 4)) return BAD;
        if (tape.size() + n > MOST_BYTES) return FULL;
        for (int i = n - 1; i >= 0; i--) {
            tape.append(bytes >>> 8 * i & 255);
        }
        return tape.size();
    }

    public int wipe() {
        int had = tape.size();
        tape.empty();
        return had;
    }

    public int text() {
        int before = now.size();
        boolean readWhole = reader.readText(tape);
        tape.empty();
        if (readWhole) return now.size() - before;
        now.cutTo(before);
        return FAULT_AT_START - reader.place();
    }

    // ---- sheets, the image

    public int seed(int v) {
        int before = draws.z;
        draws.z = v;
        return before;
    }

    public int sheet(int s, int sort, int n) {
        if (!isSheet(s) || !within(sort, Sheet.MISSING, Sheet.LAST_SORT)) return BAD;
        if (sort == Sheet.MISSING) {
            sheets[s].lose();
            return 1;
        }
        if (n > MOST_CELLS) return BAD;
        if (n < 0) return BELOW_ZERO;
        sheets[s].begin(sort, n);
        return 1;
    }

    public int write(int s, int i, int v) {
        if (!isSheet(s)) return BAD;
        if (sheets[s].isMissing()) return NOTHING_HELD;
        if (!within(i, 0, sheets[s].size() - 1)) return OUTSIDE;
        sheets[s].put(i, v);
        return 1;
    }

    public long item(int s, int i) {
        if (!isSheet(s)) return NO + BAD;
        if (sheets[s].isMissing()) return NO + NOTHING_HELD;
        if (!within(i, 0, sheets[s].size() - 1)) return NO + OUTSIDE;
        return sheets[s].told(i);
    }

    public int copy(int s, int i, int t, int j, int n) {
        if (!isSheet(s) || !isSheet(t)) return BAD;
        Sheet source = sheets[s];
        Sheet target = sheets[t];
        if (source.isMissing() || target.isMissing()) return NOTHING_HELD;
        if (source.sort() != target.sort()) return OTHER_SORT;
        if (!source.hasRun(i, n) || !target.hasRun(j, n)) return OUTSIDE;
        target.takeRun(j, source, i, n);
        return n;
    }

    public int lay(int profile, int day, int t, int s) {
        if (!isAlong(profile, day, t) || !isSheet(s)) return BAD;
        if (sheets[s].isMissing()) return NOTHING_HELD;
        line.follow(now, profile, day, t);
        int n = Math.min(line.size(), sheets[s].size());
        for (int v = 0; v < n; v++) {
            sheets[s].put(v, line.at(v));
        }
        return n;
    }

    public int image() {
        imageClauses.become(now);
        imageRegister.become(register);
        imageZ = draws.z;
        imaged = true;
        return now.size();
    }

    public int back() {
        if (!imaged) return STATE;
        now.become(imageClauses);
        register.become(imageRegister);
        draws.z = imageZ;
        return now.size();
    }

    public int count(int what) {
        switch (what) {
            case 0: return now.size();
            case 1: return register.size();
            case 2: return tape.size();
            case 3: return draws.z;
            default: return BAD;
        }
    }

    // ---- what a number may be

    private static boolean within(int v, int least, int most) {
        return v >= least && v <= most;
    }

    private static boolean isProfile(int profile) {
        return within(profile, 0, LAST_PROFILE);
    }

    private static boolean isDay(int day) {
        return within(day, 0, LAST_DAY);
    }

    private static boolean isAlong(int profile, int day, int t) {
        return isProfile(profile) && isDay(day) && within(t, 0, LAST_ALONG);
    }

    private static boolean isSheet(int s) {
        return within(s, 0, SHEETS - 1);
    }

    /** Traits by number, and how a profile tells them all as one number. */
    private static final class Traits {
        static final int AGE = 0, INCOME = 1, CHILDREN = 2, PLACE = 3, MARKS = 4;
        private static final int INCOMES = 100, CHILDRENS = 10000, PLACES = 100000, MARKSES = 800000;

        private Traits() {
        }

        static int last(int t) {
            switch (t) {
                case AGE: return 99;
                case INCOME: return 99;
                case CHILDREN: return 9;
                case PLACE: return 7;
                default: return ALL_MARKS;
            }
        }

        static int told(int profile, int t) {
            switch (t) {
                case AGE: return profile % 100;
                case INCOME: return profile / INCOMES % 100;
                case CHILDREN: return profile / CHILDRENS % 10;
                case PLACE: return profile / PLACES % 8;
                default: return profile / MARKSES;
            }
        }

        static int together(int age, int income, int children, int place, int marks) {
            return age + INCOMES * income + CHILDRENS * children + PLACES * place + MARKSES * marks;
        }

        static int changed(int profile, int t, int v) {
            return profile + (v - told(profile, t)) * weight(t);
        }

        private static int weight(int t) {
            switch (t) {
                case AGE: return 1;
                case INCOME: return INCOMES;
                case CHILDREN: return CHILDRENS;
                case PLACE: return PLACES;
                default: return MARKSES;
            }
        }
    }

    /** Clauses, a row of fields each, numbered as the call of(c, what) asks for them. Sets of clauses are bits. */
    private static final class Clauses {
        static final int HOW = 0, TEST_TRAIT = 1, LOW = 2, HIGH = 3;
        static final int SORT = 4, GRANT_TRAIT = 5, A = 6, B = 7;
        static final int FROM = 8, TO = 9, EXCEPTED = 10, FIELDS = 11;
        /** The fields ahead of FROM are what a clause says. */
        static final int SAID = 8;

        static final int ALWAYS = 0, INSIDE = 1, NOT_INSIDE = 2, BY_MARKS = 3, TIMES = 4, AGE_AND_INCOME = 5, LAST_HOW = 5;
        static final int AT_ONCE = 0, FOR_EACH = 1, LESS_EACH = 2, NOTHING = 3, CAPPED = 4, LAST_SORT = 4;

        private final int[] cells = new int[MOST_CLAUSES * FIELDS];
        private int size = 0;

        static boolean testNeedsTrait(int how) {
            return how == INSIDE || how == NOT_INSIDE || how == TIMES;
        }

        static boolean grantNeedsTrait(int sort) {
            return sort == FOR_EACH || sort == LESS_EACH || sort == CAPPED;
        }

        static int leastPart(int sort) {
            return sort == FOR_EACH ? 1 : 0;
        }

        static int mostPart(int sort) {
            return sort == FOR_EACH || sort == LESS_EACH ? MOST_PART : 0;
        }

        static boolean isIn(int set, int c) {
            return (set >> c & 1) == 1;
        }

        int size() {
            return size;
        }

        boolean has(int c) {
            return c >= 0 && c < size;
        }

        int at(int c, int field) {
            return cells[c * FIELDS + field];
        }

        void put(int c, int field, int v) {
            cells[c * FIELDS + field] = v;
        }

        int append() {
            if (size >= MOST_CLAUSES) return FULL;
            int c = size;
            size++;
            for (int field = 0; field < FIELDS; field++) {
                put(c, field, 0);
            }
            put(c, TO, LAST_DAY);
            put(c, EXCEPTED, NONE);
            return c;
        }

        void cutTo(int n) {
            size = n;
        }

        void become(Clauses other) {
            size = other.size;
            System.arraycopy(other.cells, 0, cells, 0, cells.length);
        }

        boolean isSaidAgain(int c) {
            for (int d = 0; d < size; d++) {
                if (d != c && saysSame(c, d)) return true;
            }
            return false;
        }

        private boolean saysSame(int c, int d) {
            for (int field = 0; field < SAID; field++) {
                if (at(c, field) != at(d, field)) return false;
            }
            return true;
        }

        int holding(int profile, int day) {
            int set = 0;
            for (int c = 0; c < size; c++) {
                if (spanHas(c, day) && testIsSo(c, profile)) set |= 1 << c;
            }
            return set;
        }

        private boolean spanHas(int c, int day) {
            return day >= at(c, FROM) && day <= at(c, TO);
        }

        private boolean testIsSo(int c, int profile) {
            int low = at(c, LOW);
            int high = at(c, HIGH);
            int tested = Traits.told(profile, at(c, TEST_TRAIT));
            switch (at(c, HOW)) {
                case ALWAYS: return true;
                case INSIDE: return within(tested, low, high);
                case NOT_INSIDE: return !within(tested, low, high);
                case BY_MARKS: return marksAreSo(Traits.told(profile, Traits.MARKS), low, high);
                case TIMES: return low * tested >= high;
                case AGE_AND_INCOME:
                    return within(Traits.told(profile, Traits.AGE) + Traits.told(profile, Traits.INCOME), low, high);
                default: return false;
            }
        }

        private static boolean marksAreSo(int marks, int wanted, int unwanted) {
            return (marks & wanted) == wanted && (marks & unwanted) == 0;
        }

        /** An exception has the greater number, so going down each is settled ahead of what it strikes. */
        int standing(int holding) {
            int set = 0;
            int struck = 0;
            for (int c = size - 1; c >= 0; c--) {
                if (isIn(holding, c) && !isIn(struck, c)) {
                    set |= 1 << c;
                    if (at(c, EXCEPTED) != NONE) struck |= 1 << at(c, EXCEPTED);
                }
            }
            return set;
        }

        int counting(int holding) {
            int standing = standing(holding);
            int set = 0;
            for (int c = 0; c < size; c++) {
                int excepted = at(c, EXCEPTED);
                if (isIn(standing, c) && (excepted == NONE || isIn(holding, excepted))) set |= 1 << c;
            }
            return set;
        }

        int total(int profile, int day) {
            int counting = counting(holding(profile, day));
            int sum = 0;
            for (int c = 0; c < size; c++) {
                if (isIn(counting, c)) sum += worth(c, profile);
            }
            return sum;
        }

        int worth(int c, int profile) {
            int a = at(c, A);
            int b = at(c, B);
            int there = Traits.told(profile, at(c, GRANT_TRAIT));
            switch (at(c, SORT)) {
                case AT_ONCE: return a;
                case FOR_EACH: return b < 1 ? 0 : there / b * a;
                case LESS_EACH: return Math.max(0, a - b * there);
                case CAPPED: return Math.min(a, there);
                default: return 0;
            }
        }

        int whyNot(int c, int day, int holding) {
            if (!spanHas(c, day)) return 1;
            if (!isIn(holding, c)) return 2;
            if (!isIn(standing(holding), c)) return 3;
            return isIn(counting(holding), c) ? 0 : 4;
        }

        int leastException(int c, int standing) {
            for (int e = c + 1; e < size; e++) {
                if (at(e, EXCEPTED) == c && isIn(standing, e)) return e;
            }
            return NONE;
        }

        /** The first day behind a day on which a span begins or is over, or one behind the last: no outcome changes between. */
        int nextEdge(int day) {
            int next = LAST_DAY + 1;
            for (int c = 0; c < size; c++) {
                int begins = at(c, FROM);
                int over = at(c, TO) + 1;
                if (begins > day) next = Math.min(next, begins);
                if (over > day) next = Math.min(next, over);
            }
            return next;
        }
    }

    /** What somebody gets with each number of one trait, from 0 on. */
    private static final class Line {
        private final int[] values = new int[100];
        private int size = 0;

        void follow(Clauses clauses, int profile, int day, int t) {
            size = Traits.last(t) + 1;
            for (int v = 0; v < size; v++) {
                values[v] = clauses.total(Traits.changed(profile, t, v), day);
            }
        }

        /** Behind follow() along the same trait the line tells by how much its clauses bring more than these. */
        void lessen(Clauses clauses, int profile, int day, int t) {
            for (int v = 0; v < size; v++) {
                values[v] -= clauses.total(Traits.changed(profile, t, v), day);
            }
        }

        int size() {
            return size;
        }

        int at(int v) {
            return values[v];
        }

        int leastOfMost() {
            int most = 0;
            for (int v = 1; v < size; v++) {
                if (values[v] > values[most]) most = v;
            }
            return most;
        }

        int leastReaching(int wanted) {
            for (int v = 0; v < size; v++) {
                if (values[v] >= wanted) return v;
            }
            return NONE;
        }

        private boolean isJump(int v) {
            return values[v] != values[v - 1];
        }

        int jumpCount() {
            int found = 0;
            for (int v = 1; v < size; v++) {
                if (isJump(v)) found++;
            }
            return found;
        }

        int firstJump() {
            for (int v = 1; v < size; v++) {
                if (isJump(v)) return v;
            }
            return NONE;
        }

        int cliffCount() {
            int found = 0;
            for (int v = 1; v < size; v++) {
                if (cliffHeight(v) > 0) found++;
            }
            return found;
        }

        int highestCliff() {
            int highest = NONE;
            for (int v = 1; v < size; v++) {
                if (cliffHeight(v) > cliffHeight(highest)) highest = v;
            }
            return highest;
        }

        /** 0 where there is no cliff, or no number ahead of this one. */
        int cliffHeight(int v) {
            if (v < 1 || v >= size) return 0;
            return Math.max(0, values[v - 1] - values[v]);
        }

        private boolean isBend(int v) {
            return values[v] - values[v - 1] != values[v - 1] - values[v - 2];
        }

        int bendCount() {
            int found = 0;
            for (int v = 2; v < size; v++) {
                if (isBend(v)) found++;
            }
            return found;
        }

        int firstBend() {
            for (int v = 2; v < size; v++) {
                if (isBend(v)) return v;
            }
            return NONE;
        }

        int longestLevel() {
            int longest = 1;
            int row = 1;
            for (int v = 1; v < size; v++) {
                row = isJump(v) ? 1 : row + 1;
                longest = Math.max(longest, row);
            }
            return longest;
        }

        int otherThanZeroCount() {
            int found = 0;
            for (int v = 0; v < size; v++) {
                if (values[v] != 0) found++;
            }
            return found;
        }

        int firstOtherThanZero() {
            for (int v = 0; v < size; v++) {
                if (values[v] != 0) return v;
            }
            return NONE;
        }

        int farthestFromZero() {
            int farthest = 0;
            for (int v = 0; v < size; v++) {
                farthest = Math.max(farthest, Math.abs(values[v]));
            }
            return farthest;
        }

        int belowZeroCount() {
            int found = 0;
            for (int v = 0; v < size; v++) {
                if (values[v] < 0) found++;
            }
            return found;
        }
    }

    /** What clauses say, each once, with how often it was filed. */
    private static final class Register {
        private final int[] cells = new int[MOST_FILED * Clauses.SAID];
        private final int[] times = new int[MOST_FILED];
        private int size = 0;

        int size() {
            return size;
        }

        void empty() {
            size = 0;
        }

        void become(Register other) {
            size = other.size;
            System.arraycopy(other.cells, 0, cells, 0, cells.length);
            System.arraycopy(other.times, 0, times, 0, times.length);
        }

        int find(Clauses clauses, int c) {
            for (int place = 0; place < size; place++) {
                if (saysSame(place, clauses, c)) return place;
            }
            return NONE;
        }

        private boolean saysSame(int place, Clauses clauses, int c) {
            for (int field = 0; field < Clauses.SAID; field++) {
                if (cells[place * Clauses.SAID + field] != clauses.at(c, field)) return false;
            }
            return true;
        }

        int timesAt(int place) {
            return place >= 0 && place < size ? times[place] : 0;
        }

        int keep(Clauses clauses, int c) {
            int place = find(clauses, c);
            if (place == NONE) {
                if (size >= MOST_FILED) return FULL;
                place = size;
                size++;
                times[place] = 0;
                for (int field = 0; field < Clauses.SAID; field++) {
                    cells[place * Clauses.SAID + field] = clauses.at(c, field);
                }
            }
            times[place]++;
            return place;
        }
    }

    /** The draws, by their z. */
    private static final class Draws {
        int z = 1;

        int nextProfile() {
            int age = nextRest(100);
            int income = nextRest(100);
            int children = nextRest(10);
            int place = nextRest(8);
            int marks = nextRest(32);
            return Traits.together(age, income, children, place, marks);
        }

        private int nextRest(int divisor) {
            z = z * 1103515245 + 12345;
            return divisor < 1 ? 0 : (z >>> 16) % divisor;
        }
    }

    /** Bytes of a text, 0 to 255 each. */
    private static final class Tape {
        private final int[] bytes = new int[MOST_BYTES];
        private int size = 0;

        int size() {
            return size;
        }

        static boolean isLetter(int value) {
            return value >= 'a' && value <= 'z';
        }

        static boolean isDigit(int value) {
            return value >= '0' && value <= '9';
        }

        int at(int place) {
            return place >= 0 && place < size ? bytes[place] : 0;
        }

        int behindBlanks(int from) {
            int place = from;
            while (place < size && at(place) == ' ') place++;
            return place;
        }

        int behindLetters(int from) {
            int place = from;
            while (place < size && isLetter(at(place))) place++;
            return place;
        }

        int behindDigits(int from) {
            int place = from;
            while (place < size && isDigit(at(place))) place++;
            return place;
        }

        /** A number too great, however many digits it has, is told as one that can stand nowhere. */
        int numberBetween(int start, int behind) {
            int number = 0;
            for (int place = start; place < behind; place++) {
                number = Math.min(MOST_NUMBER + 1, 10 * number + at(place) - '0');
            }
            return number;
        }

        boolean hasBetween(int start, int behind, String word) {
            if (behind - start != word.length()) return false;
            for (int i = 0; i < word.length(); i++) {
                if (at(start + i) != word.charAt(i)) return false;
            }
            return true;
        }

        void append(int value) {
            if (size >= MOST_BYTES) return;
            bytes[size] = value;
            size++;
        }

        void empty() {
            size = 0;
        }
    }

    /** The tokens of a tape, cut ahead of reading. What a word or a number says is its value. */
    private static final class Tokens {
        static final int END = 0, WORD = 1, NUMBER = 2, SIGN = 3, UNKNOWN = 4;

        /** Words of traits have the number of their trait, and words of grants, from PAY on, that of their sort. */
        static final int AGE = 0, INCOME = 1, CHILDREN = 2, PLACE = 3, PAY = 4, PER = 5, LESS = 6, NOTHING = 7, CAP = 8;
        static final int IF = 9, THEN = 10, ALWAYS = 11, NOT = 12, MARKS = 13, FROM = 14, TO = 15, EXCEPT = 16, LAST_WORD = 16;

        private static final int MOST_TOKENS = MOST_BYTES + 1;

        private final int[] kinds = new int[MOST_TOKENS];
        private final int[] starts = new int[MOST_TOKENS];
        private final int[] values = new int[MOST_TOKENS];
        private int size = 0;

        /** Behind the last one there is nothing but the end. */
        int kindAt(int i) {
            return i >= 0 && i < size ? kinds[i] : END;
        }

        int startAt(int i) {
            return i >= 0 && i < size ? starts[i] : 0;
        }

        int valueAt(int i) {
            return i >= 0 && i < size ? values[i] : 0;
        }

        void cut(Tape tape) {
            size = 0;
            int start = tape.behindBlanks(0);
            for (int i = 0; i < MOST_BYTES && start < tape.size(); i++) {
                int behind = start + 1;
                if (Tape.isLetter(tape.at(start))) {
                    behind = tape.behindLetters(start);
                    add(WORD, start, wordBetween(tape, start, behind));
                } else if (Tape.isDigit(tape.at(start))) {
                    behind = tape.behindDigits(start);
                    add(NUMBER, start, tape.numberBetween(start, behind));
                } else {
                    add(tape.at(start) == ';' ? SIGN : UNKNOWN, start, 0);
                }
                start = tape.behindBlanks(behind);
            }
            add(END, tape.size(), 0);
        }

        private void add(int kind, int start, int value) {
            if (size >= MOST_TOKENS) return;
            kinds[size] = kind;
            starts[size] = start;
            values[size] = value;
            size++;
        }

        private static int wordBetween(Tape tape, int start, int behind) {
            for (int word = 0; word <= LAST_WORD; word++) {
                if (tape.hasBetween(start, behind, spelled(word))) return word;
            }
            return NONE;
        }

        private static String spelled(int word) {
            switch (word) {
                case AGE: return "age";
                case INCOME: return "income";
                case CHILDREN: return "children";
                case PLACE: return "place";
                case PAY: return "pay";
                case PER: return "per";
                case LESS: return "less";
                case NOTHING: return "nothing";
                case CAP: return "cap";
                case IF: return "if";
                case THEN: return "then";
                case ALWAYS: return "always";
                case NOT: return "not";
                case MARKS: return "marks";
                case FROM: return "from";
                case TO: return "to";
                default: return "except";
            }
        }
    }

    /**
     * Reads the tape as a text and appends a clause for each law. Every part answers whether it could
     * be read; if not, the token that can't stand there is still the one looked at.
     */
    private static final class Reader {
        private final Clauses clauses;
        private final Tokens tokens = new Tokens();
        private int looked = 0;
        private int c = 0;

        Reader(Clauses clauses) {
            this.clauses = clauses;
        }

        /** Where the token begins that is looked at: the fault, if readText() answered no. */
        int place() {
            return tokens.startAt(looked);
        }

        boolean readText(Tape tape) {
            tokens.cut(tape);
            looked = 0;
            for (int laws = 0; laws <= MOST_CLAUSES; laws++) {
                if (!readLaw()) return false;
                if (tokens.kindAt(looked) == Tokens.END) return true;
                if (tokens.kindAt(looked) != Tokens.SIGN) return false;
                looked++;
            }
            return false;
        }

        private boolean readLaw() {
            if (!isWord(Tokens.IF, Tokens.IF)) return false;
            c = clauses.append();
            if (c == FULL) return false;
            looked++;
            return readTest() && takeWord(Tokens.THEN) && readGrant() && readSpan() && readException();
        }

        private boolean readTest() {
            if (takeWord(Tokens.ALWAYS)) return true;
            if (takeWord(Tokens.MARKS)) return readLowAndHigh(Clauses.BY_MARKS, ALL_MARKS);
            if (!takeTrait(Clauses.TEST_TRAIT)) return false;
            return readLowAndHigh(takeWord(Tokens.NOT) ? Clauses.NOT_INSIDE : Clauses.INSIDE, MOST_TESTED);
        }

        private boolean readLowAndHigh(int how, int most) {
            clauses.put(c, Clauses.HOW, how);
            return takeNumber(Clauses.LOW, 0, most) && takeNumber(Clauses.HIGH, 0, most);
        }

        private boolean readGrant() {
            if (!isWord(Tokens.PAY, Tokens.CAP)) return false;
            int sort = tokens.valueAt(looked) - Tokens.PAY;
            clauses.put(c, Clauses.SORT, sort);
            looked++;
            if (sort == Clauses.NOTHING) return true;
            if (Clauses.grantNeedsTrait(sort) && !takeTrait(Clauses.GRANT_TRAIT)) return false;
            if (!takeNumber(Clauses.A, 0, MOST_GRANTED)) return false;
            return Clauses.mostPart(sort) == 0
                    || takeNumber(Clauses.B, Clauses.leastPart(sort), Clauses.mostPart(sort));
        }

        private boolean readSpan() {
            if (!takeWord(Tokens.FROM)) return true;
            return takeNumber(Clauses.FROM, 0, LAST_DAY) && takeWord(Tokens.TO)
                    && takeNumber(Clauses.TO, clauses.at(c, Clauses.FROM), LAST_DAY);
        }

        private boolean readException() {
            if (!takeWord(Tokens.EXCEPT)) return true;
            return takeNumber(Clauses.EXCEPTED, 0, c - 1);
        }

        private boolean takeTrait(int field) {
            if (!isWord(Tokens.AGE, Tokens.PLACE)) return false;
            clauses.put(c, field, tokens.valueAt(looked) - Tokens.AGE);
            looked++;
            return true;
        }

        private boolean takeNumber(int field, int least, int most) {
            int value = tokens.valueAt(looked);
            if (tokens.kindAt(looked) != Tokens.NUMBER || !within(value, least, most)) return false;
            clauses.put(c, field, value);
            looked++;
            return true;
        }

        private boolean takeWord(int word) {
            if (!isWord(word, word)) return false;
            looked++;
            return true;
        }

        private boolean isWord(int first, int last) {
            return tokens.kindAt(looked) == Tokens.WORD && within(tokens.valueAt(looked), first, last);
        }
    }

    /** A row of numbers of one sort, or missing. A double here is always half of an int: the int is kept. */
    private static final class Sheet {
        static final int MISSING = -1, DOUBLES = 0, YES_OR_NO = 1, LAST_SORT = 2;

        private final int[] cells = new int[MOST_CELLS];
        private int sort = MISSING;
        private int size = 0;

        boolean isMissing() {
            return sort == MISSING;
        }

        int sort() {
            return sort;
        }

        int size() {
            return size;
        }

        void lose() {
            sort = MISSING;
            size = 0;
        }

        void begin(int newSort, int n) {
            sort = newSort;
            size = n;
            for (int i = 0; i < n; i++) {
                cells[i] = 0;
            }
        }

        void put(int i, int v) {
            cells[i] = sort == YES_OR_NO && v != 0 ? 1 : v;
        }

        long told(int i) {
            return sort == DOUBLES ? Bits.ofDouble(cells[i] / 2.0) : cells[i];
        }

        boolean hasRun(int i, int n) {
            return i >= 0 && n >= 0 && i <= size - n;
        }

        void takeRun(int j, Sheet source, int i, int n) {
            System.arraycopy(source.cells, i, cells, j, n);
        }
    }

    /** The bits of numbers, reckoned, as the language left to this file has no call that tells them. */
    private static final class Bits {
        private static final int NO_STEPS = 1023;

        private Bits() {
        }

        /** Of 0.0 and of numbers from 2^-40 to 2^40 either way: halving and doubling them loses nothing. */
        static long ofDouble(double d) {
            if (d == 0.0) return 0L;
            long sign = d < 0.0 ? Long.MIN_VALUE : 0L;
            double m = d < 0.0 ? -d : d;
            long exponent = NO_STEPS;
            for (int i = 0; i < 40 && m >= 2.0; i++) {
                m = m / 2.0;
                exponent++;
            }
            for (int i = 0; i < 40 && m < 1.0; i++) {
                m = m * 2.0;
                exponent--;
            }
            return sign | exponent << 52 | (long) ((m - 1.0) * 4503599627370496.0);
        }

        /** Of 0.0f and of numbers above it, as far as ofDouble() goes: a float's bits stand among its double's. */
        static int ofFloat(float f) {
            if (f == 0.0f) return 0;
            long bits = ofDouble(f);
            long exponent = (bits >>> 52) - NO_STEPS + 127;
            return (int) (exponent << 23 | bits >>> 29 & 0x7FFFFF);
        }
    }
}
