import java.nio.charset.StandardCharsets;

/** Each promise of the document by ordinary inputs, its edges and wrong inputs; answers are reckoned by hand. */
public final class PromisesTest {
    private static final int LOWEST = Integer.MIN_VALUE, HIGHEST = Integer.MAX_VALUE;
    private static final int LAST_PROFILE = 25599999;
    private static final long NO = -4611686018427387904L;
    private static int wrong = 0;

    public static void main(String[] args) {
        newObject();
        clauseAndDrop();
        tests();
        testRefusals();
        grants();
        grantRefusals();
        spans();
        exceptions();
        fieldsOfAClause();
        profiles();
        outcomesAndReasons();
        whys();
        holds();
        bests();
        jumpsAndCliffs();
        bendsAndLevels();
        enoughs();
        shares();
        means();
        untils();
        marksAndTouched();
        touches();
        drawns();
        registers();
        alikes();
        feeding();
        texts();
        textFaults();
        textRoom();
        seeds();
        sheets();
        copies();
        lays();
        images();
        counts();
        System.out.println(wrong == 0 ? "all promises hold" : wrong + " answers are not as due");
        if (wrong != 0) System.exit(1);
    }

    private static void due(int promise, String what, long got, long want) {
        if (got != want) {
            wrong++;
            System.out.println("promise " + promise + ": " + what + " answered " + got + ", due is " + want);
        }
    }

    private static void bad(int promise, String what, long... answers) {
        for (int i = 0; i < answers.length; i++) due(promise, what + " (wrong input " + i + ")", answers[i], -2);
    }

    private static StatuteBook bookOf(String text) {
        StatuteBook b = new StatuteBook();
        if (read(b, text) < 1) throw new IllegalStateException("can't be read: " + text);
        return b;
    }

    private static int read(StatuteBook b, String text) {
        byte[] bytes = text.getBytes(StandardCharsets.ISO_8859_1);
        for (int i = 0; i < bytes.length; i += 2) {
            if (i + 1 < bytes.length) b.feed(bytes[i] << 8 | bytes[i + 1] & 255, 2);
            else b.feed(bytes[i], 1);
        }
        return b.text();
    }

    private static void newObject() {
        StatuteBook b = new StatuteBook();
        due(1, "clauses", b.count(0), 0);
        due(1, "filed", b.count(1), 0);
        due(1, "bytes", b.count(2), 0);
        due(1, "z", b.count(3), 1);
        due(1, "outcome", b.outcome(LAST_PROFILE, 999), 0);
        due(1, "touched", b.touched(0, 0), 0);
        due(1, "no image", b.back(), -3);
        for (int s = 0; s < 4; s++) due(1, "missing sheet", b.write(s, 0, 0), -11);
    }

    private static void clauseAndDrop() {
        StatuteBook b = new StatuteBook();
        due(8, "drop of none", b.drop(), -3);
        for (int c = 0; c < 12; c++) due(2, "clause", b.clause(), c);
        due(2, "a 13th", b.clause(), -4);
        due(2, "still twelve", b.count(0), 12);
        b.test(11, 1, 2, 3, 4);
        b.grant(11, 1, 2, 5, 6);
        b.span(11, 7, 8);
        b.except(11, 4);
        due(8, "drop", b.drop(), 11);
        bad(8, "a dropped clause", b.of(11, 0), b.file(11), b.span(11, 0, 9));
        due(2, "clause anew", b.clause(), 11);
        int[] first = {0, 0, 0, 0, 0, 0, 0, 0, 0, 999, -1};
        for (int what = 0; what <= 10; what++) due(2, "as at first: " + what, b.of(11, what), first[what]);
        for (int left = 11; left >= 0; left--) due(8, "drop", b.drop(), left);
        due(8, "drop of none", b.drop(), -3);
    }

    private static int testedBy(int how, int t, int low, int high, int profile) {
        StatuteBook b = new StatuteBook();
        b.clause();
        due(3, "test", b.test(0, how, t, low, high), 0);
        return b.hold(profile, 0, 0);
    }

    private static void tests() {
        StatuteBook b = new StatuteBook();
        int p = b.profile(30, 40, 5, 6, 0b10101);
        due(3, "always", testedBy(0, 0, 99, 0, p), 1);
        int[] told = {30, 40, 5, 6};
        for (int t = 0; t < 4; t++) {
            due(3, "is low", testedBy(1, t, told[t], 99, p), 1);
            due(3, "is high", testedBy(1, t, 0, told[t], p), 1);
            due(3, "below low", testedBy(1, t, told[t] + 1, 99, p), 0);
            due(3, "above high", testedBy(1, t, 0, told[t] - 1, p), 0);
            due(3, "isn't low", testedBy(2, t, told[t], 99, p), 0);
            due(3, "isn't high", testedBy(2, t, 0, told[t], p), 0);
            due(3, "isn't, below low", testedBy(2, t, told[t] + 1, 99, p), 1);
            due(3, "isn't, above high", testedBy(2, t, 0, told[t] - 1, p), 1);
        }
        due(3, "an empty range", testedBy(1, 0, 31, 29, p), 0);
        due(3, "not in an empty range", testedBy(2, 0, 31, 29, p), 1);
        due(3, "marks there", testedBy(3, 0, 0b10001, 0b01010, p), 1);
        due(3, "a mark is missing", testedBy(3, 0, 0b10010, 0, p), 0);
        due(3, "a mark too much", testedBy(3, 0, 0, 0b01100, p), 0);
        due(3, "no marks asked", testedBy(3, 0, 0, 0, p), 1);
        due(3, "a mark wanted and not", testedBy(3, 0, 1, 1, p), 0);
        due(3, "twice is as much", testedBy(4, 1, 2, 80, p), 1);
        due(3, "twice is less", testedBy(4, 1, 2, 81, p), 0);
        due(3, "no times, 0", testedBy(4, 1, 0, 0, p), 1);
        due(3, "no times, 1", testedBy(4, 1, 0, 1, p), 0);
        due(3, "together low", testedBy(5, 0, 70, 99, p), 1);
        due(3, "together high", testedBy(5, 0, 0, 70, p), 1);
        due(3, "together less", testedBy(5, 0, 71, 99, p), 0);
        due(3, "together more", testedBy(5, 0, 0, 69, p), 0);
        due(3, "together above 99", testedBy(5, 0, 0, 99, b.profile(50, 50, 0, 0, 0)), 0);
    }

    private static void testRefusals() {
        StatuteBook b = new StatuteBook();
        bad(3, "no clause", b.test(0, 0, 0, 0, 0));
        b.clause();
        due(3, "how it was", b.test(0, 5, 0, 1, 2), 0);
        bad(3, "test", b.test(1, 0, 0, 0, 0), b.test(-1, 0, 0, 0, 0), b.test(0, -1, 0, 0, 0), b.test(0, 6, 0, 0, 0),
                b.test(0, 0, 1, 0, 0), b.test(0, 3, 4, 0, 0), b.test(0, 5, 1, 0, 0), b.test(0, 1, 4, 0, 0),
                b.test(0, 2, -1, 0, 0), b.test(0, 4, 4, 0, 0), b.test(0, 0, 0, -1, 0), b.test(0, 0, 0, 0, 100),
                b.test(0, 1, 0, 100, 0), b.test(0, 1, 0, 0, -1), b.test(0, 3, 0, 32, 0), b.test(0, 3, 0, 0, 32),
                b.test(LOWEST, LOWEST, LOWEST, LOWEST, LOWEST), b.test(HIGHEST, 0, HIGHEST, HIGHEST, HIGHEST));
        due(3, "nothing changed", b.of(0, 0) * 100 + b.of(0, 2) * 10 + b.of(0, 3), 512);
        due(3, "how it was", b.test(0, 3, 0, 31, 31), 5);
        due(3, "how it was", b.test(0, 4, 3, 99, 99), 3);
    }

    private static int grantedBy(int sort, int t, int a, int b, int profile) {
        StatuteBook book = new StatuteBook();
        book.clause();
        due(4, "grant", book.grant(0, sort, t, a, b), 0);
        return book.outcome(profile, 0);
    }

    private static void grants() {
        StatuteBook b = new StatuteBook();
        int p = b.profile(30, 41, 5, 6, 31);
        due(4, "at once", grantedBy(0, 0, 999, 0, p), 999);
        due(4, "for each four", grantedBy(1, 1, 7, 4, p), 70);
        due(4, "for each", grantedBy(1, 3, 7, 1, p), 42);
        due(4, "for each, too few", grantedBy(1, 2, 999, 6, p), 0);
        due(4, "the most of all", grantedBy(1, 0, 999, 1, b.profile(99, 0, 0, 0, 0)), 98901);
        due(4, "less for each", grantedBy(2, 2, 100, 7, p), 65);
        due(4, "less, just 0", grantedBy(2, 2, 35, 7, p), 0);
        due(4, "less, 0 at least", grantedBy(2, 0, 999, 99, p), 0);
        due(4, "less by nothing", grantedBy(2, 0, 999, 0, p), 999);
        due(4, "nothing", grantedBy(3, 0, 999, 0, p), 0);
        due(4, "no more than the trait", grantedBy(4, 0, 31, 0, p), 30);
        due(4, "no more than a", grantedBy(4, 0, 29, 0, p), 29);
    }

    private static void grantRefusals() {
        StatuteBook b = new StatuteBook();
        bad(4, "no clause", b.grant(0, 0, 0, 0, 0));
        b.clause();
        due(4, "of which sort it was", b.grant(0, 2, 3, 500, 0), 0);
        bad(4, "grant", b.grant(1, 0, 0, 0, 0), b.grant(-1, 0, 0, 0, 0), b.grant(0, -1, 0, 0, 0), b.grant(0, 5, 0, 0, 0),
                b.grant(0, 0, 1, 0, 0), b.grant(0, 3, 1, 0, 0), b.grant(0, 1, 4, 0, 1), b.grant(0, 2, -1, 0, 1),
                b.grant(0, 4, 4, 0, 0), b.grant(0, 0, 0, -1, 0), b.grant(0, 0, 0, 1000, 0), b.grant(0, 0, 0, 0, 1),
                b.grant(0, 3, 0, 0, 1), b.grant(0, 4, 0, 0, 1), b.grant(0, 1, 0, 0, 0), b.grant(0, 1, 0, 0, 100),
                b.grant(0, 2, 0, 0, 100), b.grant(0, 2, 0, 0, -1), b.grant(0, 3, 0, 1000, 0),
                b.grant(LOWEST, LOWEST, LOWEST, LOWEST, LOWEST), b.grant(0, HIGHEST, HIGHEST, HIGHEST, HIGHEST));
        due(4, "nothing changed", b.of(0, 4) * 1000 + b.of(0, 6), 2500);
        due(4, "of which sort it was", b.grant(0, 4, 3, 0, 0), 2);
        due(4, "of which sort it was", b.grant(0, 1, 3, 0, 99), 4);
    }

    private static void spans() {
        StatuteBook b = bookOf("if always then pay 7");
        due(5, "span", b.span(0, 10, 12), 1);
        int[] got = {0, 7, 7, 7, 0};
        for (int day = 9; day <= 13; day++) due(5, "day " + day, b.outcome(0, day), got[day - 9]);
        due(5, "a day alone", b.span(0, 999, 999), 1);
        due(5, "on it", b.outcome(0, 999), 7);
        due(5, "ahead of it", b.outcome(0, 998), 0);
        bad(5, "span", b.span(1, 0, 0), b.span(-1, 0, 0), b.span(0, -1, 5), b.span(0, 0, 1000), b.span(0, 9, 8),
                b.span(0, 1000, 1000), b.span(LOWEST, LOWEST, HIGHEST));
        due(5, "nothing changed", b.of(0, 8) + b.of(0, 9), 1998);
    }

    private static void exceptions() {
        StatuteBook b = bookOf("if always then pay 1;if always then pay 2;if always then pay 4");
        due(6, "none", b.outcome(0, 0), 7);
        due(6, "to none it was", b.except(1, 0), -1);
        due(6, "one", b.outcome(0, 0), 6);
        due(6, "to none it was", b.except(2, 1), -1);
        due(6, "an exception's exception", b.outcome(0, 0), 5);
        due(6, "to 1 it was", b.except(2, 0), 1);
        due(6, "two to one", b.outcome(0, 0), 6);
        bad(6, "except", b.except(0, 0), b.except(2, 2), b.except(2, 3), b.except(2, -2), b.except(3, 0), b.except(-1, -1),
                b.except(HIGHEST, LOWEST), b.except(2, LOWEST));
        due(6, "to 0 it was", b.except(2, -1), 0);
        due(6, "to none it is", b.except(2, -1), -1);
    }

    private static void fieldsOfAClause() {
        StatuteBook b = new StatuteBook();
        b.clause();
        b.clause();
        b.test(1, 1, 3, 4, 5);
        b.grant(1, 2, 1, 500, 60);
        b.span(1, 7, 8);
        b.except(1, 0);
        int[] want = {1, 3, 4, 5, 2, 1, 500, 60, 7, 8, 0};
        for (int what = 0; what <= 10; what++) due(7, "what " + what, b.of(1, what), want[what]);
        due(7, "to none", b.of(0, 10), -1);
        bad(7, "of", b.of(1, -1), b.of(1, 11), b.of(2, 0), b.of(-1, 0), b.of(LOWEST, HIGHEST));
    }

    private static void profiles() {
        StatuteBook b = new StatuteBook();
        due(9, "least", b.profile(0, 0, 0, 0, 0), 0);
        due(9, "most", b.profile(99, 99, 9, 7, 31), LAST_PROFILE);
        due(9, "each apart", b.profile(1, 2, 3, 4, 5), 1 + 200 + 30000 + 400000 + 4000000);
        bad(9, "profile", b.profile(-1, 0, 0, 0, 0), b.profile(100, 0, 0, 0, 0), b.profile(0, -1, 0, 0, 0),
                b.profile(0, 100, 0, 0, 0), b.profile(0, 0, -1, 0, 0), b.profile(0, 0, 10, 0, 0),
                b.profile(0, 0, 0, -1, 0), b.profile(0, 0, 0, 8, 0), b.profile(0, 0, 0, 0, -1), b.profile(0, 0, 0, 0, 32),
                b.profile(HIGHEST, HIGHEST, HIGHEST, HIGHEST, HIGHEST));
        int[] want = {98, 97, 8, 6, 30};
        int p = b.profile(98, 97, 8, 6, 30);
        for (int t = 0; t < 5; t++) due(10, "trait " + t, b.trait(p, t), want[t]);
        int[] most = {99, 99, 9, 7, 31};
        for (int t = 0; t < 5; t++) due(10, "most of trait " + t, b.trait(LAST_PROFILE, t), most[t]);
        bad(10, "trait", b.trait(0, 5), b.trait(0, -1), b.trait(-1, 0), b.trait(LAST_PROFILE + 1, 0), b.trait(LOWEST, HIGHEST));
    }

    /** Clause 1 is an exception to 0 (age 20 to 40), 2 is one to 1. */
    private static StatuteBook ladder() {
        return bookOf("if age 20 40 then pay 10 from 5 to 9;if income 0 50 then pay 200 except 0;if place 1 1 then pay 300 except 1");
    }

    private static void outcomesAndReasons() {
        StatuteBook b = ladder();
        int poor = b.profile(30, 50, 0, 0, 0), rich = b.profile(30, 51, 0, 0, 0), there = b.profile(30, 50, 0, 1, 0);
        int richThere = b.profile(30, 51, 0, 1, 0), young = b.profile(19, 50, 0, 0, 0);
        int[] who = {poor, rich, there, richThere, young};
        int[] outcome = {200, 10, 310, 10, 0};
        int[] reason = {2, 1, 5, 1, 0};
        for (int i = 0; i < who.length; i++) {
            due(11, "outcome " + i, b.outcome(who[i], 5), outcome[i]);
            due(12, "reason " + i, b.reason(who[i], 5), reason[i]);
        }
        due(11, "0 doesn't hold", b.outcome(poor, 4), 0);
        due(11, "1 holds, and 2 counts", b.outcome(there, 10), 300);
        due(12, "1 holds, and 2 counts", b.reason(there, 10), 4);
        bad(11, "outcome", b.outcome(-1, 0), b.outcome(LAST_PROFILE + 1, 0), b.outcome(0, -1), b.outcome(0, 1000), b.outcome(LOWEST, HIGHEST));
        bad(12, "reason", b.reason(-1, 0), b.reason(LAST_PROFILE + 1, 0), b.reason(0, -1), b.reason(0, 1000), b.reason(HIGHEST, LOWEST));
        StatuteBook full = new StatuteBook();
        for (int c = 0; c < 12; c++) {
            full.clause();
            full.grant(c, 1, 0, 999, 1);
        }
        due(11, "the most of all", full.outcome(99, 0), 12 * 98901);
        due(12, "all", full.reason(99, 0), 4095);
    }

    private static void whys() {
        StatuteBook b = ladder();
        int there = b.profile(30, 50, 0, 1, 0), richThere = b.profile(30, 51, 0, 1, 0), poor = b.profile(30, 50, 0, 0, 0);
        due(13, "brings", b.why(there, 5, 0, 0), 10);
        due(13, "brings nothing, struck", b.why(there, 5, 1, 0), 0);
        due(13, "brings", b.why(there, 5, 2, 0), 300);
        due(13, "stands without counting", b.why(richThere, 5, 2, 0), 0);
        due(13, "counts", b.why(there, 5, 0, 1), 0);
        due(13, "the day", b.why(there, 4, 0, 1), 1);
        due(13, "the day first, its test neither", b.why(b.profile(0, 0, 0, 0, 0), 4, 0, 1), 1);
        due(13, "the test", b.why(richThere, 5, 1, 1), 2);
        due(13, "an exception", b.why(there, 5, 1, 1), 3);
        due(13, "to one that doesn't hold", b.why(richThere, 5, 2, 1), 4);
        due(13, "an exception ahead of that", b.why(there, 4, 1, 1), 3);
        due(13, "to one that doesn't hold", b.why(poor, 4, 1, 1), 4);
        due(13, "least exception", b.why(there, 5, 1, 2), 2);
        due(13, "none stands", b.why(there, 5, 0, 2), -1);
        due(13, "it needn't hold itself", b.why(richThere, 5, 1, 2), 2);
        due(13, "no exceptions", b.why(there, 5, 2, 2), -1);
        b.except(2, 0);
        due(13, "least of two", b.why(there, 5, 0, 2), 1);
        due(13, "the other alone", b.why(richThere, 5, 0, 2), 2);
        bad(13, "why", b.why(-1, 0, 0, 0), b.why(LAST_PROFILE + 1, 0, 0, 0), b.why(0, -1, 0, 0), b.why(0, 1000, 0, 0),
                b.why(0, 0, 3, 0), b.why(0, 0, -1, 0), b.why(0, 0, 0, -1), b.why(0, 0, 0, 3), b.why(LOWEST, LOWEST, HIGHEST, HIGHEST));
    }

    private static void holds() {
        StatuteBook b = ladder();
        int there = b.profile(30, 50, 0, 1, 0);
        due(14, "hold", b.hold(there, 5, 0), 7);
        due(14, "stand", b.hold(there, 5, 1), 5);
        due(14, "hold", b.hold(there, 4, 0), 6);
        due(14, "stand without counting", b.hold(b.profile(30, 51, 0, 1, 0), 5, 1), 5);
        bad(14, "hold", b.hold(there, 5, 2), b.hold(there, 5, -1), b.hold(-1, 5, 0), b.hold(there, 1000, 0), b.hold(LOWEST, LOWEST, 0));
    }

    private static void bests() {
        StatuteBook b = bookOf("if age 20 40 then pay 10;if income 30 99 then less income 90 1;if children 9 9 then pay 5");
        due(15, "age", b.best(99, 0, 0, 0), 20);
        due(15, "outcome then", b.best(99, 0, 0, 1), 10);
        due(15, "income", b.best(25, 0, 1, 0), 30);
        due(15, "outcome then", b.best(25, 0, 1, 1), 70);
        due(15, "children", b.best(0, 0, 2, 0), 9);
        due(15, "place, the least of all", b.best(25, 0, 3, 0), 0);
        due(15, "outcome then", b.best(25, 0, 3, 1), 10);
        StatuteBook second = bookOf("if place 1 1 then pay 1");
        due(15, "just behind 0", second.best(0, 0, 3, 0), 1);
        due(15, "outcome then", second.best(0, 0, 3, 1), 1);
        bad(15, "best", b.best(-1, 0, 0, 0), b.best(0, 1000, 0, 0), b.best(0, 0, 4, 0), b.best(0, 0, -1, 0),
                b.best(0, 0, 0, 2), b.best(0, 0, 0, -1), b.best(HIGHEST, HIGHEST, HIGHEST, HIGHEST));
    }

    private static void jumpsAndCliffs() {
        StatuteBook b = bookOf("if age 20 40 then pay 10;if age 50 60 then pay 10;if age 70 99 then pay 3");
        int[] age = {5, 20, 2, 41, 10};
        int[] place = {0, -1, 0, -1, 0};
        for (int what = 0; what < 5; what++) {
            due(16, "age, what " + what, b.jumps(17, 0, 0, what), age[what]);
            due(16, "place, what " + what, b.jumps(25, 0, 3, what), place[what]);
        }
        StatuteBook up = bookOf("if children 9 9 then pay 1");
        int[] children = {1, 9, 0, -1, 0};
        for (int what = 0; what < 5; what++) due(16, "children, what " + what, up.jumps(0, 0, 2, what), children[what]);
        StatuteBook down = bookOf("if income 0 0 then pay 1;if income 0 98 then pay 2");
        int[] income = {2, 1, 2, 99, 2};
        for (int what = 0; what < 5; what++) due(16, "income, what " + what, down.jumps(0, 0, 1, what), income[what]);
        StatuteBook steep = bookOf("if place 0 0 then pay 3");
        int[] steps = {1, 1, 1, 1, 3};
        for (int what = 0; what < 5; what++) due(16, "just behind 0, what " + what, steep.jumps(0, 0, 3, what), steps[what]);
        bad(16, "jumps", b.jumps(-1, 0, 0, 0), b.jumps(0, -1, 0, 0), b.jumps(0, 0, 4, 0), b.jumps(0, 0, 0, 5), b.jumps(0, 0, 0, -1),
                b.jumps(LOWEST, HIGHEST, LOWEST, HIGHEST));
    }

    private static void bendsAndLevels() {
        StatuteBook b = bookOf("if always then per age 2 1;if age 10 99 then pay 5");
        due(17, "at the jump and behind it", b.bends(0, 0, 0, 0), 2);
        due(17, "first", b.bends(0, 0, 0, 1), 10);
        due(17, "no level", b.bends(0, 0, 0, 2), 1);
        due(17, "none", b.bends(0, 0, 1, 0), 0);
        due(17, "none", b.bends(0, 0, 1, 1), -1);
        due(17, "all level", b.bends(0, 0, 1, 2), 100);
        due(17, "all level, place", b.bends(0, 0, 3, 2), 8);
        StatuteBook edge = bookOf("if children 0 0 then pay 1;if children 9 9 then pay 1");
        due(17, "at 2 and at 9", edge.bends(0, 0, 2, 0), 2);
        due(17, "at 2", edge.bends(0, 0, 2, 1), 2);
        due(17, "1 to 8", edge.bends(0, 0, 2, 2), 8);
        StatuteBook late = bookOf("if children 3 9 then pay 1");
        due(17, "the longer row is the last", late.bends(0, 0, 2, 2), 7);
        bad(17, "bends", b.bends(-1, 0, 0, 0), b.bends(0, -1, 0, 0), b.bends(0, 0, 4, 0), b.bends(0, 0, 0, 3), b.bends(0, 0, 0, -1),
                b.bends(HIGHEST, HIGHEST, HIGHEST, HIGHEST));
    }

    private static void enoughs() {
        StatuteBook b = bookOf("if always then per income 3 7");
        due(18, "just", b.enough(9999, 0, 1, 42), 98);
        due(18, "more", b.enough(9999, 0, 1, 40), 98);
        due(18, "a step less", b.enough(9999, 0, 1, 39), 91);
        due(18, "nothing", b.enough(9999, 0, 1, 0), 0);
        due(18, "too much", b.enough(9999, 0, 1, 43), -1);
        due(18, "far too much", b.enough(9999, 0, 1, HIGHEST), -1);
        due(18, "along another", b.enough(9999, 0, 3, 42), 0);
        bad(18, "enough", b.enough(0, 0, 0, -1), b.enough(0, 0, 4, 0), b.enough(0, 0, -1, 0), b.enough(0, 1000, 0, 0), b.enough(-1, 0, 0, 0),
                b.enough(0, 0, 0, LOWEST));
    }

    private static void shares() {
        StatuteBook b = new StatuteBook();
        for (int n = 1; n <= 9; n++) {
            b = bookOf("if always then per age 999 1;if income 1 1 then pay 1");
            for (int age = 0; age <= 99; age++) {
                due(19, "share", b.share(age, 0, n), Double.doubleToLongBits((double) (999 * age) / n));
            }
            due(19, "share of 1", b.share(100, 0, n), Double.doubleToLongBits(1.0 / n));
        }
        due(19, "n", b.share(0, 0, 0), NO - 2);
        due(19, "n", b.share(0, 0, 10), NO - 2);
        due(19, "profile", b.share(-1, 0, 1), NO - 2);
        due(19, "day", b.share(0, 1000, 1), NO - 2);
        due(19, "all", b.share(LOWEST, LOWEST, LOWEST), NO - 2);
    }

    private static int drawnProfile(int[] z) {
        int[] by = {100, 100, 10, 8, 32}, weight = {1, 100, 10000, 100000, 800000};
        int p = 0;
        for (int t = 0; t < 5; t++) {
            z[0] = z[0] * 1103515245 + 12345;
            p += (z[0] >>> 16) % by[t] * weight[t];
        }
        return p;
    }

    private static void means() {
        StatuteBook b = new StatuteBook();
        for (int seed : new int[] {1, 0, -1, LOWEST, HIGHEST, 77}) {
            b = bookOf("if always then per age 7 3;if income 0 60 then less children 999 99");
            b.seed(seed);
            int[] z = {seed};
            float sum = 0.0f;
            for (int n = 1; n <= 20; n++) {
                int p = drawnProfile(z);
                sum += (float) b.outcome(p, 3) / (1 + b.trait(p, 2));
                due(20, "mean of " + n, b.mean(3, n), Float.floatToIntBits(sum));
                due(20, "z as it is", b.count(3), seed);
            }
        }
        due(20, "of nothing", new StatuteBook().mean(0, 20), 0);
        bad(20, "mean", b.mean(-1, 1), b.mean(1000, 1), b.mean(0, 0), b.mean(0, 21), b.mean(LOWEST, HIGHEST));
    }

    private static void untils() {
        StatuteBook b = bookOf("if always then pay 7 from 10 to 20;if always then pay 7 from 21 to 30;if always then nothing from 5 to 40");
        due(21, "it begins", b.until(0, 0), 10);
        due(21, "it begins on the day behind", b.until(0, 9), 10);
        due(21, "one for the other", b.until(0, 10), 31);
        due(21, "it is over", b.until(0, 30), 31);
        due(21, "never", b.until(0, 31), -1);
        due(21, "no day behind", b.until(0, 999), -1);
        b.span(1, 999, 999);
        due(21, "the last day", b.until(0, 500), 999);
        StatuteBook many = new StatuteBook();
        for (int c = 0; c < 12; c++) {
            many.clause();
            many.span(c, 10 + c, 30 + 2 * c);
        }
        many.span(11, 100, 110);
        due(21, "days that bring nothing", many.until(0, 0), -1);
        many.grant(11, 0, 0, 1, 0);
        due(21, "behind days that bring nothing", many.until(0, 0), 100);
        many.grant(10, 0, 0, 1, 0);
        many.span(10, 5, 99);
        due(21, "behind days that bring nothing", many.until(0, 5), 111);
        due(21, "no clauses", new StatuteBook().until(0, 0), -1);
        bad(21, "until", b.until(-1, 0), b.until(LAST_PROFILE + 1, 0), b.until(0, -1), b.until(0, 1000), b.until(HIGHEST, HIGHEST));
    }

    private static void marksAndTouched() {
        StatuteBook b = bookOf("if age 0 9 then pay 7");
        due(23, "no mark", b.touched(0, 0), 7);
        due(22, "mark", b.mark(), 1);
        due(23, "as it was", b.touched(0, 0), 0);
        b.grant(0, 0, 0, 2, 0);
        due(23, "less", b.touched(9, 0), -5);
        due(23, "nothing either way", b.touched(10, 0), 0);
        b.span(0, 5, 5);
        due(23, "out of the span now", b.touched(0, 4), -7);
        b.clause();
        b.grant(1, 0, 0, 100, 0);
        due(23, "more", b.touched(10, 0), 100);
        due(22, "mark", b.mark(), 2);
        due(23, "as it was", b.touched(0, 5), 0);
        b.except(1, 0);
        due(23, "by an exception", b.touched(0, 5), -2);
        b.drop();
        b.drop();
        due(23, "less by all", b.touched(0, 5), -102);
        due(22, "mark of none", b.mark(), 0);
        due(23, "none either way", b.touched(0, 5), 0);
        bad(23, "touched", b.touched(-1, 0), b.touched(LAST_PROFILE + 1, 0), b.touched(0, -1), b.touched(0, 1000), b.touched(LOWEST, LOWEST));
    }

    private static void touches() {
        StatuteBook b = bookOf("if age 10 19 then pay 50;if age 30 39 then pay 9");
        b.mark();
        b.grant(0, 0, 0, 20, 0);
        b.grant(1, 0, 0, 29, 0);
        int[] age = {20, 10, 30, 10};
        int[] place = {0, -1, 0, 0};
        for (int what = 0; what < 4; what++) {
            due(24, "age, what " + what, b.touches(0, 0, 0, what), age[what]);
            due(24, "place, what " + what, b.touches(0, 0, 3, what), place[what]);
        }
        due(24, "all places", b.touches(10, 0, 3, 0), 8);
        due(24, "all have more", b.touches(30, 0, 3, 3), 0);
        due(24, "more by", b.touches(30, 0, 3, 2), 20);
        StatuteBook zero = bookOf("if place 0 0 then pay 3");
        int[] gained = {1, 0, 3, 0}, lost = {1, 0, 3, 1};
        for (int what = 0; what < 4; what++) due(24, "none was marked, what " + what, zero.touches(7, 0, 3, what), gained[what]);
        zero.mark();
        zero.drop();
        for (int what = 0; what < 4; what++) due(24, "none is left, what " + what, zero.touches(7, 0, 3, what), lost[what]);
        bad(24, "touches", b.touches(-1, 0, 0, 0), b.touches(0, 1000, 0, 0), b.touches(0, 0, 4, 0), b.touches(0, 0, -1, 0),
                b.touches(0, 0, 0, 4), b.touches(0, 0, 0, -1), b.touches(LOWEST, HIGHEST, HIGHEST, LOWEST));
    }

    private static void drawns() {
        StatuteBook b = bookOf("if age 0 49 then pay 5");
        int[] z = {-9};
        b.seed(-9);
        bad(25, "drawn", b.drawn(-1, 1), b.drawn(1000, 1), b.drawn(0, 0), b.drawn(0, 51), b.drawn(HIGHEST, LOWEST));
        due(25, "nothing was drawn", b.count(3), -9);
        for (int n = 1; n <= 50; n += 7) {
            int young = 0;
            for (int i = 0; i < n; i++) young += drawnProfile(z) % 100 <= 49 ? 1 : 0;
            due(25, "drawn " + n, b.drawn(0, n), young);
            due(25, "z", b.count(3), z[0]);
        }
        StatuteBook few = bookOf("if place 7 7 then pay 5;if marks 24 0 then pay 5");
        few.seed(z[0]);
        for (int k = 0; k < 5; k++) {
            int met = 0;
            for (int i = 0; i < 50; i++) {
                int p = drawnProfile(z);
                met += p / 100000 % 8 == 7 || p / 800000 >= 24 ? 1 : 0;
            }
            due(25, "drawn by place and marks", few.drawn(0, 50), met);
        }
        b.mark();
        due(25, "none is touched", b.drawn(0, 50), 0);
    }

    private static void registers() {
        StatuteBook b = new StatuteBook();
        bad(26, "no clause", b.file(0));
        bad(27, "no clause", b.filed(0, 0));
        for (int c = 0; c < 12; c++) b.clause();
        due(27, "nowhere", b.filed(0, 0), -1);
        due(27, "never", b.filed(0, 1), 0);
        due(26, "first", b.file(0), 0);
        b.span(1, 5, 6);
        b.except(1, 0);
        due(26, "spans and exceptions aren't said", b.file(1), 0);
        due(27, "twice", b.filed(7, 1), 2);
        int[][] others = {{1, 0, 0, 0}, {1, 1, 0, 0}, {1, 0, 1, 0}, {1, 0, 0, 1}};
        for (int i = 0; i < 4; i++) {
            b.test(2, others[i][0], others[i][1], others[i][2], others[i][3]);
            due(27, "nowhere yet", b.filed(2, 0), -1);
            due(26, "another test", b.file(2), 1 + i);
        }
        int[][] grants = {{1, 0, 0, 1}, {1, 1, 0, 1}, {1, 0, 1, 1}, {1, 0, 0, 2}};
        for (int i = 0; i < 4; i++) {
            b.grant(3, grants[i][0], grants[i][1], grants[i][2], grants[i][3]);
            due(26, "another grant", b.file(3), 5 + i);
        }
        for (int i = 9; i < 16; i++) {
            b.grant(4, 0, 0, i, 0);
            due(26, "more", b.file(4), i);
        }
        b.grant(4, 0, 0, 900, 0);
        due(26, "a 17th", b.file(4), -4);
        due(26, "nothing changed", b.count(1), 16);
        due(26, "one that is there", b.file(3), 8);
        due(27, "its place", b.filed(3, 0), 8);
        due(27, "twice", b.filed(3, 1), 2);
        bad(26, "file", b.file(12), b.file(-1), b.file(LOWEST), b.file(HIGHEST));
        bad(27, "filed", b.filed(12, 0), b.filed(-1, 0), b.filed(0, 2), b.filed(0, -1), b.filed(LOWEST, HIGHEST));
        due(29, "forget", b.forget(), 16);
        due(29, "nothing kept", b.forget(), 0);
        due(29, "nowhere", b.filed(3, 0), -1);
        due(29, "never", b.filed(3, 1), 0);
        b.test(3, 3, 0, 1, 1);
        due(29, "anew", b.file(3), 0);
        due(29, "its place", b.filed(3, 0), 0);
        b.test(3, 0, 0, 1, 1);
        due(29, "another how", b.filed(3, 0), -1);
        b.test(3, 3, 0, 1, 1);
        due(29, "once", b.filed(3, 1), 1);
    }

    private static void alikes() {
        StatuteBook b = new StatuteBook();
        due(28, "none", b.alike(), 0);
        b.clause();
        due(28, "one", b.alike(), 0);
        b.clause();
        due(28, "two", b.alike(), 2);
        b.clause();
        b.span(2, 1, 1);
        b.except(2, 0);
        due(28, "three", b.alike(), 3);
        b.grant(0, 3, 0, 0, 0);
        due(28, "two of three", b.alike(), 2);
        b.test(1, 0, 0, 0, 1);
        due(28, "words that don't matter are said, too", b.alike(), 0);
        b.clause();
        b.grant(3, 3, 0, 0, 0);
        due(28, "two of four", b.alike(), 2);
        b.test(3, 0, 0, 0, 1);
        b.grant(3, 0, 0, 0, 0);
        b.test(0, 0, 0, 0, 0);
        b.grant(0, 0, 0, 0, 0);
        due(28, "two and two", b.alike(), 4);
        int[][] tests = {{0, 0, 0, 0}, {3, 0, 0, 0}, {1, 0, 0, 0}, {1, 1, 0, 0}, {1, 0, 1, 0}, {1, 0, 0, 1}};
        int[][] grants = {{0, 0, 0, 0}, {3, 0, 0, 0}, {2, 0, 0, 0}, {2, 1, 0, 0}, {2, 0, 1, 0}, {2, 0, 0, 1}};
        StatuteBook apart = new StatuteBook();
        for (int c = 0; c < 6; c++) {
            apart.clause();
            apart.test(c, tests[c][0], tests[c][1], tests[c][2], tests[c][3]);
        }
        due(28, "each test is another one", apart.alike(), 0);
        for (int c = 0; c < 6; c++) {
            apart.test(c, 0, 0, 0, 0);
            apart.grant(c, grants[c][0], grants[c][1], grants[c][2], grants[c][3]);
        }
        due(28, "each grant is another one", apart.alike(), 0);
    }

    private static void feeding() {
        StatuteBook b = new StatuteBook();
        bad(30, "feed", b.feed(0, 0), b.feed(0, 5), b.feed(0, -1), b.feed(0, LOWEST), b.feed(0, HIGHEST));
        for (int i = 1; i <= 39; i++) due(30, "feed", b.feed(0, 3), 3 * i);
        due(30, "full", b.feed(0, 4), -4);
        due(30, "nothing came", b.count(2), 117);
        bad(30, "bad ahead of full", b.feed(0, 5));
        due(30, "120", b.feed(0, 3), 120);
        due(30, "full", b.feed(0, 1), -4);
        due(31, "wipe", b.wipe(), 120);
        due(31, "wiped", b.wipe(), 0);
        due(31, "wiped", b.count(2), 0);
        b.feed('x' << 16 | 'i' << 8 | 'f', 2);
        b.feed(0x20616c77, 4);
        b.feed(0x786179 << 8 | 's', 3);
        due(30, "the lowest bytes, the highest first", b.feed(-1 << 8 | ' ', 1), 10);
        due(30, "all that was read could stand", b.text(), -110);
    }

    private static void dueClause(StatuteBook b, String text, int... want) {
        int c = b.count(0);
        due(32, text, read(b, text), 1);
        for (int what = 0; what <= 10; what++) due(32, text + ", what " + what, b.of(c, what), want[what]);
        if (c > 8) b.drop();
    }

    private static void texts() {
        StatuteBook b = new StatuteBook();
        dueClause(b, "if always then pay 999", 0, 0, 0, 0, 0, 0, 999, 0, 0, 999, -1);
        dueClause(b, "if age 0 99 then nothing", 1, 0, 0, 99, 3, 0, 0, 0, 0, 999, -1);
        dueClause(b, "if income 99 0 then per age 1 99", 1, 1, 99, 0, 1, 0, 1, 99, 0, 999, -1);
        dueClause(b, "if children 1 2 then per income 0 1", 1, 2, 1, 2, 1, 1, 0, 1, 0, 999, -1);
        dueClause(b, "if place 3 4 then less children 999 0", 1, 3, 3, 4, 2, 2, 999, 0, 0, 999, -1);
        dueClause(b, "if age not 5 6 then less place 1 99", 2, 0, 5, 6, 2, 3, 1, 99, 0, 999, -1);
        dueClause(b, "if marks 31 0 then cap age 999", 3, 0, 31, 0, 4, 0, 999, 0, 0, 999, -1);
        dueClause(b, "if income not 1 2 then cap income 0 from 0 to 0", 2, 1, 1, 2, 4, 1, 0, 0, 0, 0, -1);
        dueClause(b, "if children not 1 2 then cap place 7 from 999 to 999 except 0", 2, 2, 1, 2, 4, 3, 7, 0, 999, 999, 0);
        dueClause(b, "if place not 1 2 then pay 7 except 8", 2, 3, 1, 2, 0, 0, 7, 0, 0, 999, 8);
        dueClause(b, "  if   age1  02then pay0000000000000000000000007from5to   6except3 ", 1, 0, 1, 2, 0, 0, 7, 0, 5, 6, 3);
        due(32, "the tape is empty then", b.count(2), 0);
        StatuteBook three = new StatuteBook();
        due(32, "three", read(three, "if always then pay 1;if always then pay 2 except 0 ; if always then pay 4 except 1"), 3);
        due(32, "all so", three.outcome(0, 0), 5);
        due(32, "more", read(three, "if always then nothing except 0"), 1);
        due(32, "all so", three.outcome(0, 0), 4);
    }

    private static void dueFault(String text, int place) {
        StatuteBook b = bookOf("if always then pay 5;if always then pay 6 except 0");
        b.clause();
        b.drop();
        due(32, "'" + text + "'", read(b, text), -100 - place);
        due(32, "'" + text + "': the tape is empty then", b.count(2), 0);
        due(32, "'" + text + "': nothing comes of it", b.count(0) * 100 + b.outcome(0, 0), 206);
    }

    private static void textFaults() {
        String[] faults = {"|", " |", "   |", "if|", "if |", "|then", "|iff", "|ifz always then pay 1", "|of always then pay 1", "|i f", "|5", "|;", "|IF", "|If always then pay 1",
            "if |if", "if |then", "if |alwaysthen pay 1", "if always|", "if always |pay", "if always |always", "if always |1 2 then",
            "if |not age 1 2", "if age |then", "if age not |not", "if age 1|", "if age 1 |then", "if age |100 2", "if age 1 |100",
            "if age 99 |1000", "if age 1 2 |3 then", "if age |-1 2", "if age 1|,2", "if marks |not 1 2", "if marks |32 0", "if marks 0 |32",
            "if marks 31 31 |pay", "if |mark 1 2", "if age 1 2 |not", "if always then|", "if always then |paid 1", "if always then |may 1", "if always then pay|",
            "if always then pay |age", "if always then pay |1000", "if always then pay |99999999999999999999", "if always then pay 1 |2",
            "if always then nothing |1", "if always then cap |1", "if always then cap age|", "if always then cap|", "if always then cap |from 1 to 2", "if always then per |;", "if always then cap |marks 1",
            "if always then cap age 1 |1", "if always then cap age |1000", "if always then per |5 5", "if always then per |marks 5 5",
            "if always then per age 5|", "if always then per age 5 |0", "if always then per age 5 |100", "if always then per age |1000 5",
            "if always then less age 5 |100", "if always then less |always 5 5", "if always then less age 5|", "if always then pay 1 from|",
            "if always then pay 1 |to 5", "if always then pay 1 from |1000 to 1", "if always then pay 1 from 5|",
            "if always then pay 1 from 5 |6", "if always then pay 1 from 5 to|", "if always then pay 1 from 5 to |4",
            "if always then pay 1 from 5 to |1000", "if always then pay 1 from 5 to 5 |from", "if always then pay 1 except|",
            "if always then pay 1 except |2", "if always then pay 1 except |age", "if always then pay 1 except 1 |from 1 to 2",
            "if always then pay 1 except 1 |except 1", "if always then pay 1;|", "if always then pay 1; |", "if always then pay 1;|;",
            "if always then pay 1 |if always then pay 2", "if always then pay 1;if always then pay 1 except 2;if always then pay 1 except |4",
            "if always then pay 1|\u0000", "if always then pay 1|\t", "if always then pay 1|\u00ff", "if always then pay 1|.",
            "if always then pay 1|{", "if always then pay 1|`", "if always then pay 1|/", "if always then pay 1|:", "if always then pay |A"};
        for (String marked : faults) {
            int place = marked.indexOf('|');
            dueFault(marked.substring(0, place) + marked.substring(place + 1), place);
        }
        StatuteBook b = new StatuteBook();
        due(32, "no clause by then", read(b, "if always then pay 1 except 0"), -128);
        due(32, "not itself", read(b, "if always then pay 1;if always then pay 1 except 1"), -149);
    }

    private static void textRoom() {
        StatuteBook b = new StatuteBook();
        for (int c = 0; c < 11; c++) b.clause();
        due(32, "no room for the second", read(b, "if always then pay 1; if always then pay 2"), -122);
        due(32, "nothing comes of it", b.count(0), 11);
        due(32, "it ends too early", read(b, "if always then pay 1;"), -121);
        due(32, "room for one", read(b, "if always then pay 1 except 10"), 1);
        due(32, "no room", read(b, " if always then pay 1"), -101);
        due(32, "no room, no if", read(b, " "), -101);
        due(32, "twelve are left", b.count(0), 12);
        StatuteBook most = new StatuteBook();
        due(32, "five laws", read(most, "if always then pay 1;if always then pay 1;if always then pay 1;if always then pay 1;if always then nothing"), 5);
    }

    private static void seeds() {
        StatuteBook b = new StatuteBook();
        due(33, "at first", b.seed(LOWEST), 1);
        due(33, "it was", b.seed(-2), LOWEST);
        due(33, "it was", b.seed(0), -2);
        due(33, "z", b.count(3), 0);
    }

    private static void sheets() {
        StatuteBook b = new StatuteBook();
        bad(34, "sheet", b.sheet(-1, 0, 1), b.sheet(4, 0, 1), b.sheet(0, -2, 1), b.sheet(0, 3, 1), b.sheet(0, 0, 41),
                b.sheet(4, 0, -1), b.sheet(0, 3, -1), b.sheet(LOWEST, LOWEST, LOWEST), b.sheet(0, 0, HIGHEST));
        due(34, "below 0", b.sheet(0, 0, -1), -14);
        due(34, "below 0", b.sheet(3, 2, LOWEST), -14);
        due(34, "still missing", b.item(0, 0), NO - 11);
        int[] values = {5, 1, 2, 4, 8, -1, 0, 3, -3, 7, 1000, LOWEST, HIGHEST, LOWEST + 1};
        for (int s = 0; s < 3; s++) {
            due(34, "sheet", b.sheet(s, s, 40), 1);
            due(34, "all 0 or no", b.item(s, 39), 0);
            for (int i = 0; i < values.length; i++) {
                due(35, "write", b.write(s, i, values[i]), 1);
                long want = s == 0 ? Double.doubleToLongBits(values[i] / 2.0) : s == 1 ? values[i] != 0 ? 1 : 0 : values[i];
                due(36, "item", b.item(s, i), want);
            }
            due(35, "written over", b.write(s, 1, 0), 1);
            due(36, "written over", b.item(s, 1), 0);
            due(35, "outside", b.write(s, 40, 1), -12);
            due(35, "outside", b.write(s, -1, 1), -12);
            due(36, "outside", b.item(s, 40), NO - 12);
            due(36, "outside", b.item(s, LOWEST), NO - 12);
        }
        due(34, "anew", b.sheet(1, 2, 10), 1);
        for (int i = 0; i < 10; i++) due(34, "all 0", b.item(1, i), 0);
        due(34, "of no numbers", b.sheet(1, 1, 0), 1);
        due(35, "none there", b.write(1, 0, 0), -12);
        due(34, "missing, n doesn't matter", b.sheet(1, -1, 41), 1);
        due(34, "missing, n doesn't matter", b.sheet(0, -1, -1), 1);
        due(35, "missing", b.write(1, 99, 0), -11);
        due(36, "missing", b.item(0, 0), NO - 11);
        bad(35, "write", b.write(-1, 0, 0), b.write(4, 0, 0), b.write(LOWEST, LOWEST, 0), b.write(HIGHEST, HIGHEST, 0));
        due(36, "no such sheet", b.item(-1, 0), NO - 2);
        due(36, "no such sheet", b.item(4, 0), NO - 2);
    }

    private static void dueRow(StatuteBook b, int s, int... want) {
        for (int i = 0; i < want.length; i++) due(37, "sheet " + s + ", number " + i, b.item(s, i), want[i]);
    }

    private static void copies() {
        StatuteBook b = new StatuteBook();
        b.sheet(0, 2, 5);
        b.sheet(1, 2, 3);
        b.sheet(2, 1, 5);
        for (int i = 0; i < 5; i++) b.write(0, i, i + 1);
        due(37, "to another", b.copy(0, 1, 1, 0, 3), 3);
        dueRow(b, 1, 2, 3, 4);
        due(37, "onto itself, up", b.copy(0, 0, 0, 1, 4), 4);
        dueRow(b, 0, 1, 1, 2, 3, 4);
        due(37, "onto itself, down", b.copy(0, 1, 0, 0, 4), 4);
        dueRow(b, 0, 1, 2, 3, 4, 4);
        due(37, "none", b.copy(0, 5, 1, 3, 0), 0);
        due(37, "unlike sorts", b.copy(0, 0, 2, 0, 1), -13);
        due(37, "unlike sorts ahead of outside", b.copy(2, -1, 0, 9, -1), -13);
        due(37, "missing", b.copy(0, 0, 3, 0, 1), -11);
        due(37, "missing", b.copy(3, 0, 0, -1, 1), -11);
        due(37, "missing, both", b.copy(3, 0, 3, 0, 0), -11);
        bad(37, "copy", b.copy(-1, 0, 0, 0, 0), b.copy(4, 0, 3, 0, 0), b.copy(0, 0, 4, 0, 0), b.copy(3, 0, -1, 0, 0));
        int[][] outside = {{-1, 0, 1}, {0, -1, 1}, {0, 0, -1}, {3, 0, 3}, {0, 1, 3}, {6, 0, 0}, {0, 4, 0}, {0, 0, 4},
            {HIGHEST, 0, HIGHEST}, {0, HIGHEST, 2}, {LOWEST, 0, 1}, {0, LOWEST, 1}, {0, 0, LOWEST}, {0, 0, HIGHEST}, {1, 1, HIGHEST}};
        for (int[] o : outside) due(37, "outside", b.copy(0, o[0], 1, o[1], o[2]), -12);
        dueRow(b, 1, 2, 3, 4);
    }

    private static void lays() {
        StatuteBook b = bookOf("if children 2 9 then per children 3 1");
        for (int s = 0; s < 3; s++) {
            b.sheet(s, s, 12);
            b.write(s, 11, 5);
            due(38, "the trait ends", b.lay(9 * 10000, 0, 2, s), 10);
            for (int v = 0; v < 10; v++) {
                int outcome = v < 2 ? 0 : 3 * v;
                long want = s == 0 ? Double.doubleToLongBits(outcome / 2.0) : s == 1 ? outcome > 0 ? 1 : 0 : outcome;
                due(38, "number " + v, b.item(s, v), want);
            }
            due(38, "behind it", b.item(s, 11), s == 0 ? Double.doubleToLongBits(2.5) : s == 1 ? 1 : 5);
        }
        StatuteBook all = bookOf("if always then per age 3 1;if always then pay 1");
        all.sheet(0, 2, 40);
        due(38, "the sheet ends", all.lay(99, 0, 0, 0), 40);
        for (int v = 0; v < 40; v++) due(38, "number " + v, all.item(0, v), 3 * v + 1);
        for (int i = 0; i < 40; i++) all.write(0, i, -1);
        due(38, "places", all.lay(99, 0, 3, 0), 8);
        for (int v = 0; v < 40; v++) due(38, "number " + v, all.item(0, v), v < 8 ? 298 : -1);
        due(38, "places", b.lay(0, 0, 3, 2), 8);
        b.sheet(2, 2, 0);
        due(38, "none", b.lay(0, 0, 0, 2), 0);
        due(38, "missing", b.lay(0, 0, 0, 3), -11);
        bad(38, "lay", b.lay(-1, 0, 0, 0), b.lay(0, 1000, 0, 0), b.lay(0, 0, 4, 0), b.lay(0, 0, -1, 0), b.lay(0, 0, 0, 4),
                b.lay(0, 0, 0, -1), b.lay(0, 0, 4, 3), b.lay(LOWEST, LOWEST, LOWEST, LOWEST));
    }

    private static void images() {
        StatuteBook b = bookOf("if always then pay 5;if always then pay 6 from 5 to 6 except 0");
        due(40, "none", b.back(), -3);
        b.file(0);
        b.file(0);
        b.seed(44);
        b.mark();
        b.sheet(0, 2, 1);
        due(39, "image", b.image(), 2);
        b.grant(0, 0, 0, 100, 0);
        b.drop();
        b.clause();
        b.clause();
        b.forget();
        b.clause();
        b.test(3, 5, 0, 6, 7);
        b.grant(3, 2, 3, 8, 9);
        b.file(3);
        b.file(0);
        b.seed(45);
        b.mark();
        b.write(0, 0, 8);
        b.feed(32, 1);
        for (int round = 0; round < 2; round++) {
            due(40, "back", b.back(), 2);
            due(40, "clauses", b.outcome(0, 0), 5);
            due(40, "clauses", b.outcome(0, 5), 6);
            due(40, "register", b.count(1), 1);
            due(40, "register", b.filed(0, 0), 0);
            due(40, "register", b.filed(0, 1), 2);
            due(40, "z", b.count(3), 44);
            due(40, "what was marked stays", b.touched(0, 0), -95);
            due(40, "sheets stay", b.item(0, 0), 8);
            due(40, "the tape stays", b.count(2), 1);
            b.drop();
            b.drop();
            b.forget();
            b.seed(9);
        }
        due(39, "image of nothing", b.image(), 0);
        b.clause();
        due(40, "back to nothing", b.back(), 0);
        due(40, "back to nothing", b.count(0) + b.count(1) + b.count(3), 9);
    }

    private static void counts() {
        StatuteBook b = bookOf("if always then pay 5;if always then pay 6");
        b.file(1);
        b.feed(0, 4);
        b.seed(-4);
        int[] want = {2, 1, 4, -4};
        for (int what = 0; what < 4; what++) due(41, "what " + what, b.count(what), want[what]);
        bad(41, "count", b.count(-1), b.count(4), b.count(LOWEST), b.count(HIGHEST));
    }
}
