/** The boundary sentences of the document about plans, runs, secrets and faces (promises 20 to 32). */
public final class PlanEdgesTest {
    private static final int BAD = -1, STATE = -2, FULL = -3, NONE = -4;
    private static final int MIN = Integer.MIN_VALUE, MAX = Integer.MAX_VALUE;
    private static final Checks c = new Checks();
    private static final Twins lived = new Twins(c, Pasts::lived);

    public static void main(String[] args) {
        planBits();
        planOfThePast();
        planUpToWeek9();
        bestOf();
        bestOfThePast();
        saveOf();
        saveOfThePast();
        runTakesAll();
        runByOrder();
        holdsTo99();
        coverBounds();
        coverTo99();
        rateBounds();
        rateTo9();
        giftBounds();
        giftToWhom();
        toldBounds();
        toldOf();
        whisperBounds();
        whisperOf();
        noteBounds();
        noteBehind();
        notedSix();
        forgetBounds();
        forgetKeepsTheFirst();
        fitsBounds();
        fitsUpToWeek9();
        fitsFromNowOn();
        fitsOfThePast();
        c.finish();
    }

    private static final int[] NOT_0_OR_1 = {-1, 2, MIN, MAX};
    private static final int[] NO_ONE = {-1, 3, 4, MIN, MAX};

    private static void planBits() {
        c.at("plan: a set of INCIDENTS (bits). BAD");
        BlushBank six = Checks.told("plain 0;" + "trip 0 0 1 1;".repeat(6));
        c.due("plan(0)", six.plan(0), 0);
        c.due("plan(63)", six.plan(63), 0);
        c.due("plan(64)", six.plan(64), BAD);
        BlushBank one = Checks.told("plain 0;trip 0 0 1 1;");
        c.due("plan(1)", one.plan(1), 0);
        c.due("plan(2)", one.plan(2), BAD);
        BlushBank none = Checks.told("plain 0;");
        c.due("plan(0)", none.plan(0), 0);
        c.due("plan(1)", none.plan(1), BAD);
        int[] wrong = {-1, 16, 26, 64, MIN, MAX};
        for (int set : wrong) {
            lived.still("plan(" + set + ")", y -> y.plan(set), BAD);
        }
    }

    private static void planOfThePast() {
        c.at("plan: STATE: a PLAN that is unlike what is DEPOSITED in WEEKS that are behind");
        // Behind are 0 (not), 1 (deposited), 2 (not); 3 is to come.
        for (int set = 0; set < 16; set++) {
            int now = set;
            lived.still("plan(" + set + ")", y -> y.plan(now), (set & 7) == 2 ? 0 : STATE);
        }
        lived.still("plan(16), BAD ahead of STATE", y -> y.plan(16), BAD);
        BlushBank x = Checks.told("plain 0;trip 0 4 1 1;");
        x.go(4);
        c.due("plan(1), of this WEEK", x.plan(1), 0);
        x.go(1);
        c.due("plan(1), behind", x.plan(1), STATE);
        c.due("plan(0)", x.plan(0), 0);
        c.due("plan(2)", x.plan(2), BAD);
    }

    private static void planUpToWeek9() {
        c.at("plans (up to WEEK 9, that one too): how often somebody is BRAZEN by a PLAN");
        // In hand 18 fade to 16 in week 1 and to 5 in week 9; at the bank they stay 18.
        BlushBank x = Checks.told("plain 0;plain 0;trip 0 0 9 9;asked 0 9 6;asked 1 9 1;interest 0;");
        c.due("plan(0)", x.plan(0), 2);
        c.due("plan(1)", x.plan(1), 1);
        x.deposit(0, true);
        c.due("plan(0), all others not", x.plan(0), 2);
        c.due("rule(6)", x.rule(6), 1);
        x.go(9);
        c.due("plan(1), in WEEK 9", x.plan(1), 1);
        x.go(1);
        c.due("plan(1), in WEEK 10", x.plan(1), 0);
        c.due("one(1, 3)", x.one(1, 3), 1);
        c.due("plan(1), not those that were", x.plan(1), 0);
    }

    private static void bestOf() {
        c.at("best: least often, of several that with fewest INCIDENTS, of these the least by bits. BAD");
        for (int what : NOT_0_OR_1) {
            lived.still("best(" + what + ")", y -> y.best(what), BAD);
        }
        // 18 in hand are 5 in week 9, 9 are nothing: 6 to 9 want one of the two at the bank, 10 to 18 both.
        BlushBank x = ask9(5);
        c.due("best(0), by none", x.best(0), 0);
        c.due("best(1)", x.best(1), 0);
        x = ask9(6);
        c.due("best(0), of two the least", x.best(0), 2);
        c.due("best(1)", x.best(1), 0);
        x = ask9(9);
        c.due("best(0)", x.best(0), 2);
        x = ask9(10);
        c.due("best(0), both", x.best(0), 6);
        x = ask9(18);
        c.due("best(0), both", x.best(0), 6);
        c.due("best(1)", x.best(1), 0);
        x = ask9(19);
        c.due("best(0), as often by each", x.best(0), 0);
        c.due("best(1)", x.best(1), 1);
        x.deposit(1, true);
        x.deposit(2, true);
        c.due("best(0), not what is deposited", x.best(0), 0);
        c.due("rule(6)", x.rule(6), 6);
        x = ask9(9);
        x.deposit(2, true);
        c.due("best(0), not another of as many that is deposited", x.best(0), 2);
        c.due("best(0), all that there are", all6(18).best(0), 63);
        c.due("best(0), all that there are are too few", all6(19).best(0), 0);
    }

    /** Of one 0 are incidents 1 and 2, of 9 each; so much is asked for in week 9. */
    private static BlushBank ask9(int asks) {
        return Checks.told("plain 0;plain 0;trip 1 0 1 1;trip 0 0 5 4;trip 0 0 4 5;asked 0 9 " + asks
            + ";interest 0;");
    }

    /** Six incidents of 3 each, of which nothing is in hand any more when so much is asked for. */
    private static BlushBank all6(int asks) {
        return Checks.told("plain 0;" + "trip 0 0 1 2;".repeat(6) + "asked 0 9 " + asks + ";interest 0;");
    }

    private static void bestOfThePast() {
        c.at("best: INCIDENTS of WEEKS that are behind are DEPOSITED as they are");
        lived.still("best(0)", y -> y.best(0), 2);
        lived.still("best(1)", y -> y.best(1), 0);
        BlushBank x = ask9(12);
        x.go(1);
        c.due("best(0)", x.best(0), 0);
        c.due("best(1)", x.best(1), 1);
        x.go(9);
        c.due("best(1), behind WEEK 9", x.best(1), 0);
    }

    private static void saveOf() {
        c.at("save: the fewest INCIDENTS so that a ONE is never BRAZEN: the least set of so many. BAD; NONE: by none");
        for (int p : NO_ONE) {
            lived.still("save(" + p + ")", y -> y.save(p), BAD);
        }
        int[][] rows = {{5, 0}, {6, 2}, {9, 2}, {10, 6}, {18, 6}, {19, NONE}};
        for (int[] r : rows) {
            BlushBank x = ask9(r[0]);
            c.due("save(0) for " + r[0], x.save(0), r[1]);
            c.due("save(1) for " + r[0], x.save(1), 0);
            x.deposit(0, true);
            x.deposit(2, true);
            c.due("save(0), whatever is deposited", x.save(0), r[1]);
            c.due("rule(6)", x.rule(6), 5);
        }
        c.due("save(0), all that there are", all6(18).save(0), 63);
        c.due("save(0), all that there are are too few", all6(19).save(0), NONE);
    }

    private static void saveOfThePast() {
        c.at("save: up to WEEK 9, from now on, what is behind as it is");
        lived.still("save(0), he was brazen before", y -> y.save(0), 2);
        lived.still("save(2)", y -> y.save(2), 2);
        BlushBank x = ask9(12);
        x.deposit(1, true);
        x.deposit(2, true);
        x.go(1);
        c.due("save(0)", x.save(0), 6);
        x = ask9(12);
        x.go(1);
        c.due("save(0)", x.save(0), NONE);
        x.go(8);
        c.due("save(0), in WEEK 9", x.save(0), NONE);
        x.go(1);
        c.due("save(0), in WEEK 10", x.save(0), 0);
    }

    /** At the bank 10, 18, 0, 7, and so much cover. */
    private static BlushBank counter(int cover) {
        BlushBank x = Checks.told("plain 3;plain 0;bride 0;plain 0;trip 0 0 5 5;trip 1 0 9 9;trip 3 0 3 4;interest 0;");
        for (int i = 0; i < 3; i++) {
            x.deposit(i, true);
        }
        x.go(1);
        x.law(1, cover);
        return x;
    }

    private static void runTakesAll() {
        c.at("a RUN: takes all of it, if COVER has so much; run: what 0 to 2. BAD");
        int[][] rows = {{0, 35, 0, 4}, {6, 35, 6, 4}, {7, 28, 0, 12}, {9, 28, 2, 12}, {10, 25, 0, 5}, {16, 25, 6, 5},
            {17, 18, 0, 13}, {27, 18, 10, 13}, {28, 7, 0, 7}, {34, 7, 6, 7}, {35, 0, 0, 15}, {99, 0, 64, 15}};
        for (int[] r : rows) {
            Twins with = new Twins(c, () -> counter(r[0]));
            for (int w = 0; w < 3; w++) {
                int what = w;
                with.still("run(" + w + ") by cover " + r[0], y -> y.run(what), r[w + 1]);
            }
        }
        int[] wrong = {-1, 3, MIN, MAX};
        for (int w : wrong) {
            lived.still("run(" + w + ")", y -> y.run(w), BAD);
        }
    }

    private static void runByOrder() {
        c.at("a RUN: by order, again and again, till nobody can");
        // 18 first: then 10 are not there any more.
        BlushBank x = Checks.told("plain 0;plain 0;trip 1 0 5 5;trip 0 0 9 9;interest 0;");
        x.deposit(0, true);
        x.deposit(1, true);
        x.go(1);
        x.law(1, 18);
        c.due("run(0)", x.run(0), 10);
        c.due("run(1)", x.run(1), 0);
        c.due("run(2)", x.run(2), 1);
        x.law(1, 17);
        c.due("run(0)", x.run(0), 18);
        c.due("run(2)", x.run(2), 2);
        c.due("run(2), who never had something there", Checks.told("plain 5;plain 6;").run(2), 3);
    }

    private static void holdsTo99() {
        c.at("holds: the least COVER (0 to 99) by which a RUN now does not leave THE BANK BROKEN. NONE: by none");
        new Twins(c, () -> counter(0)).still("holds()", y -> y.holds(), 35);
        new Twins(c, () -> counter(99)).still("holds()", y -> y.holds(), 35);
        c.due("holds(), nothing there", Checks.told("plain 5;").holds(), 0);
        lived.still("holds()", y -> y.holds(), 54);
        BlushBank x = Checks.told("bishop 0;bishop 0;bishop 0;trip 0 0 9 9;trip 1 0 9 9;trip 2 0 6 8;interest 0;");
        for (int i = 0; i < 3; i++) {
            x.deposit(i, true);
        }
        x.go(1);
        c.due("holds() of 100", x.holds(), NONE);
        x.draw(2, 1);
        c.due("holds() of 99", x.holds(), 99);
        c.due("rule(4)", x.rule(4), 20);
    }

    private static void coverBounds() {
        c.at("cover: n WEEKS (0 to 20). BAD");
        int[] wrong = {-1, 21, MIN, MAX};
        for (int n : wrong) {
            lived.still("cover(" + n + ")", y -> y.cover(n), BAD);
        }
        lived.still("cover(0)", y -> y.cover(0), 0);
        lived.still("cover(20)", y -> y.cover(20), 0);
        Twins bride = new Twins(c, () -> Checks.told("bride 0;asked 0 0 5;asked 0 9 30;"));
        bride.still("cover(0), in no WEEK", y -> y.cover(0), 0);
        bride.still("cover(1)", y -> y.cover(1), 5);
        bride.still("cover(9), not yet WEEK 9", y -> y.cover(9), 5);
        bride.still("cover(10)", y -> y.cover(10), 26);
        bride.still("cover(20)", y -> y.cover(20), 26);
    }

    private static void coverTo99() {
        c.at("cover: the least COVER (0 to 99) by which nobody is BRAZEN. NONE: by none");
        String most = "bride 0;asked 0 0 30;asked 0 0 30;asked 0 0 30;asked 0 0 ";
        c.due("cover(1) of 99", Checks.told(most + "9;").cover(1), 99);
        c.due("cover(1) of 100", Checks.told(most + "10;").cover(1), NONE);
        c.due("cover(1) of what no cover helps", Checks.told("plain 0;asked 0 0 1;").cover(1), NONE);
        c.due("cover(1) of nothing asked for", Checks.told("plain 0;asked 0 0 0;").cover(1), 0);
        BlushBank x = Checks.told("bride 0;plain 0;asked 0 0 7;asked 1 3 1;");
        c.due("cover(3)", x.cover(3), 7);
        c.due("cover(4), nobody of all", x.cover(4), NONE);
        x.go(4);
        c.due("cover(20), from now on", x.cover(20), 0);
        c.due("rule(4)", x.rule(4), 17);
    }

    private static void rateBounds() {
        c.at("rate: n WEEKS (0 to 20). BAD");
        int[] wrong = {-1, 21, MIN, MAX};
        for (int n : wrong) {
            lived.still("rate(" + n + ")", y -> y.rate(n), BAD);
        }
        lived.still("rate(0)", y -> y.rate(0), 0);
        lived.still("rate(20)", y -> y.rate(20), 0);
        BlushBank x = grown(11);
        c.due("rate(1), not yet asked", x.rate(1), 0);
        c.due("rate(2)", x.rate(2), 1);
        c.due("rate(20)", x.rate(20), 1);
    }

    /** 10 at the bank, when they have grown once so much is asked for. */
    private static BlushBank grown(int asks) {
        BlushBank x = Checks.told("plain 0;trip 0 0 5 5;asked 0 1 " + asks + ";cover 50;interest 4;");
        x.deposit(0, true);
        return x;
    }

    private static void rateTo9() {
        c.at("rate: the least INTEREST (0 to 9) by which it is so. NONE: by none");
        for (int asks = 10; asks <= 20; asks++) {
            int n = asks;
            Twins with = new Twins(c, () -> grown(n));
            with.still("rate(2) for " + asks, y -> y.rate(2), asks == 20 ? NONE : asks - 10);
        }
    }

    private static void giftBounds() {
        c.at("gift: v BLUSH (0 to 99), what 0, 1. BAD");
        int[] wrong = {-1, 100, MIN, MAX};
        for (int v : wrong) {
            lived.still("gift(" + v + ", 0)", y -> y.gift(v, 0), BAD);
        }
        for (int what : NOT_0_OR_1) {
            lived.still("gift(1, " + what + ")", y -> y.gift(1, what), BAD);
        }
        lived.still("gift(99, 0), nobody is brazen", y -> y.gift(99, 0), NONE);
        Twins poor = new Twins(c, () -> Checks.told("plain 0;asked 0 0 30;asked 0 0 30;asked 0 0 30;asked 0 0 9;"
            + "asked 0 0 1;"));
        poor.still("gift(0, 0)", y -> y.gift(0, 0), NONE);
        poor.still("gift(0, 1)", y -> y.gift(0, 1), NONE);
        poor.still("gift(1, 0)", y -> y.gift(1, 0), 0);
        poor.still("gift(1, 1)", y -> y.gift(1, 1), 4);
        poor.still("gift(98, 1)", y -> y.gift(98, 1), 1);
        poor.still("gift(99, 1)", y -> y.gift(99, 1), 1);
    }

    private static void giftToWhom() {
        c.at("gift: least often up to WEEK 9, less often than now, of several the first. NONE: by none");
        BlushBank x = Checks.told("plain 0;plain 0;plain 0;asked 2 0 5;asked 1 0 5;asked 1 9 1;asked 2 9 1;");
        c.due("gift(4, 0)", x.gift(4, 0), NONE);
        c.due("gift(4, 1)", x.gift(4, 1), NONE);
        c.due("gift(5, 0), of several the first", x.gift(5, 0), 1);
        c.due("gift(5, 1)", x.gift(5, 1), 3);
        c.due("gift(99, 1)", x.gift(99, 1), 2);
        c.due("gift(99, 0)", x.gift(99, 0), 1);
        x.go(1);
        c.due("gift(9, 0), what was behind is behind", x.gift(9, 0), 1);
        c.due("gift(9, 1)", x.gift(9, 1), 1);
        x.go(8);
        c.due("gift(1, 0), WEEK 9 too", x.gift(1, 0), 1);
        c.due("gift(1, 1)", x.gift(1, 1), 1);
        x.go(1);
        c.due("gift(1, 0), behind WEEK 9", x.gift(1, 0), NONE);
        c.due("gift(1, 0), the last", Checks.told("plain 0;plain 0;plain 0;plain 0;asked 3 0 1;").gift(1, 0), 3);
    }

    /** Told of, one 0 draws in week 9 what one 1, a bride, is asked for then. */
    private static BlushBank rivals() {
        BlushBank x = Checks.told("plain 0;bride 0;plain 0;trip 0 9 1 8;asked 0 9 10;asked 1 9 10;cover 1;interest 0;");
        x.deposit(0, true);
        return x;
    }

    private static void toldBounds() {
        c.at("told: what 0, 1. BAD");
        for (int what : NOT_0_OR_1) {
            lived.still("told(0, " + what + ")", y -> y.told(0, what), BAD);
        }
        for (int p : NO_ONE) {
            lived.still("told(" + p + ", 0)", y -> y.told(p, 0), BAD);
            lived.still("told(" + p + ", 1)", y -> y.told(p, 1), BAD);
        }
        lived.still("told(0, 0)", y -> y.told(0, 0), 0);
        lived.still("told(2, 1)", y -> y.told(2, 1), 0);
    }

    private static void toldOf() {
        c.at("told: PEOPLE who are BRAZEN more often up to WEEK 9 (what 0), less often (1; bits)");
        Twins two = new Twins(c, PlanEdgesTest::rivals);
        two.still("told(0, 0), WEEK 9 too", y -> y.told(0, 0), 2);
        two.still("told(0, 1)", y -> y.told(0, 1), 1);
        two.still("told(1, 0), no INCIDENT of his", y -> y.told(1, 0), 0);
        two.still("told(1, 1)", y -> y.told(1, 1), 0);
        BlushBank x = rivals();
        x.go(9);
        c.due("told(0, 0), in WEEK 9", x.told(0, 0), 2);
        x.go(1);
        c.due("told(0, 0), in WEEK 10", x.told(0, 0), 0);
        c.due("told(0, 1)", x.told(0, 1), 0);
        x = Checks.told("plain 0;trip 0 0 1 9;asked 0 0 11;");
        c.due("told(0, 1), seen by 9 already", x.told(0, 1), 0);
        x = Checks.told("plain 0;trip 0 0 1 8;asked 0 1 9;asked 0 0 2;asked 0 0 2;");
        x.go(1);
        c.due("told(0, 1), behind is behind", x.told(0, 1), 0);
        c.due("told(0, 0)", x.told(0, 0), 0);
        x = Checks.told("plain 0;plain 0;plain 0;plain 0;trip 3 0 1 8;asked 3 0 10;");
        c.due("told(3, 1), the last of four", x.told(3, 1), 8);
        c.due("told(3, 0)", x.told(3, 0), 0);
    }

    private static void whisperBounds() {
        c.at("whisper: what 0, 1. BAD; NONE: by none");
        for (int what : NOT_0_OR_1) {
            lived.still("whisper(" + what + ")", y -> y.whisper(what), BAD);
        }
        lived.still("whisper(0), nobody is brazen", y -> y.whisper(0), NONE);
        lived.still("whisper(1)", y -> y.whisper(1), NONE);
        Twins two = new Twins(c, PlanEdgesTest::rivals);
        two.still("whisper(0), as often as now", y -> y.whisper(0), NONE);
        two.still("whisper(1)", y -> y.whisper(1), NONE);
    }

    private static void whisperOf() {
        c.at("whisper: all together least often up to WEEK 9, less often than now, of several the first");
        BlushBank x = Checks.told("plain 0;plain 0;plain 0;plain 0;trip 3 9 1 8;trip 2 9 0 8;trip 1 9 1 8;"
            + "asked 2 9 10;asked 1 9 10;asked 3 9 10;");
        c.due("whisper(0), WEEK 9 too", x.whisper(0), 1);
        c.due("whisper(1)", x.whisper(1), 2);
        x.go(9);
        c.due("whisper(0), in WEEK 9", x.whisper(0), 1);
        x.go(1);
        c.due("whisper(0), in WEEK 10", x.whisper(0), NONE);
        x = Checks.told("plain 0;plain 0;trip 0 5 1 8;trip 1 5 1 8;asked 0 5 10;asked 1 5 5;asked 1 5 5;asked 1 6 9;");
        c.due("whisper(0), of as many the first", x.whisper(0), 0);
        c.due("whisper(1)", x.whisper(1), 2);
        c.due("trip(0, 3)", x.trip(0, 3), 8);
        x.go(6);
        c.due("whisper(0), behind", x.whisper(0), NONE);
    }

    private static void noteBounds() {
        c.at("note: a ONE, a WEEK (0 to 9). BAD");
        BlushBank x = Checks.told("plain 0;plain 0;");
        c.due("note(0, 0, true)", x.note(0, 0, true), 1);
        c.due("note(1, 9, false)", x.note(1, 9, false), 2);
        c.due("count(2)", x.count(2), 2);
        int[] wrong = {-1, 10, MIN, MAX};
        for (int w : wrong) {
            lived.still("note(0, " + w + ", true)", y -> y.note(0, w, true), BAD);
        }
        for (int p : NO_ONE) {
            lived.still("note(" + p + ", 9, true)", y -> y.note(p, 9, true), BAD);
        }
    }

    private static void noteBehind() {
        c.at("note: STATE: that WEEK is behind");
        for (int w = 0; w < 3; w++) {
            int week = w;
            lived.still("note(0, " + w + ", true)", y -> y.note(0, week, true), STATE);
        }
        lived.still("note(3, 0, true), BAD ahead of STATE", y -> y.note(3, 0, true), BAD);
        lived.still("note(0, -1, true), BAD ahead of STATE", y -> y.note(0, -1, true), BAD);
        c.due("note(0, 3, true), this WEEK", Pasts.lived().note(0, 3, true), 4);
        BlushBank x = Pasts.inWeek(9);
        c.due("note(0, 9, true), in WEEK 9", x.note(0, 9, true), 1);
        x.go(1);
        c.due("note(0, 9, true), in WEEK 10", x.note(0, 9, true), STATE);
        c.due("note(0, 10, true), in WEEK 10", x.note(0, 10, true), BAD);
        c.due("count(2)", x.count(2), 1);
    }

    /** Six are noted, in week 3. */
    private static BlushBank full() {
        BlushBank x = Pasts.lived();
        x.note(0, 3, false);
        x.note(0, 3, false);
        x.note(2, 4, true);
        return x;
    }

    private static void notedSix() {
        c.at("NOTED (6). note: FULL");
        BlushBank x = Checks.told("plain 0;");
        for (int n = 1; n <= 6; n++) {
            c.due("note(0, 5, true)", x.note(0, 5, true), n);
        }
        c.due("note(0, 5, true), the 7th", x.note(0, 5, true), FULL);
        c.due("forget(5)", x.forget(5), 6);
        c.due("note(0, 5, true), one is free again", x.note(0, 5, true), 6);
        Twins six = new Twins(c, PlanEdgesTest::full);
        six.still("note(0, 9, true)", y -> y.note(0, 9, true), FULL);
        six.still("note(0, 2, true), STATE ahead of FULL", y -> y.note(0, 2, true), STATE);
        six.still("note(0, 10, true), BAD ahead of FULL", y -> y.note(0, 10, true), BAD);
        six.still("note(3, 9, true), BAD ahead of FULL", y -> y.note(3, 9, true), BAD);
    }

    private static void forgetBounds() {
        c.at("forget: NOTED are the first n alone: how many there were. BAD");
        int[] wrong = {-1, 4, 6, 7, MIN, MAX};
        for (int n : wrong) {
            lived.still("forget(" + n + ") of 3", y -> y.forget(n), BAD);
        }
        lived.still("forget(3) of 3", y -> y.forget(3), 3);
        Twins six = new Twins(c, PlanEdgesTest::full);
        six.still("forget(6) of 6", y -> y.forget(6), 6);
        six.still("forget(7) of 6", y -> y.forget(7), BAD);
        BlushBank x = full();
        c.due("forget(0)", x.forget(0), 6);
        c.due("count(2)", x.count(2), 0);
        c.due("forget(0), there are none", x.forget(0), 0);
        c.due("forget(1), there are none", x.forget(1), BAD);
    }

    private static void forgetKeepsTheFirst() {
        c.at("forget: the first n");
        BlushBank x = Checks.told("plain 0;asked 0 2 1;");
        x.note(0, 2, true);
        x.note(0, 3, false);
        x.note(0, 3, true);
        c.due("fits(0)", x.fits(0), 0);
        c.due("forget(2)", x.forget(2), 3);
        c.due("fits(0)", x.fits(0), 1);
        c.due("note(0, 2, false)", x.note(0, 2, false), 3);
        c.due("fits(0), both can not be", x.fits(0), 0);
        c.due("forget(1)", x.forget(1), 3);
        c.due("fits(0)", x.fits(0), 1);
    }

    private static void fitsBounds() {
        c.at("fits: what 0 to 3. BAD; NONE (1 to 3): there is none");
        int[] wrong = {-1, 4, MIN, MAX};
        for (int w : wrong) {
            lived.still("fits(" + w + ")", y -> y.fits(w), BAD);
        }
        Twins none = new Twins(c, () -> {
            BlushBank y = Checks.told("plain 0;trip 0 0 1 1;");
            y.note(0, 0, true);
            return y;
        });
        none.still("fits(0)", y -> y.fits(0), 0);
        for (int w = 1; w < 4; w++) {
            int what = w;
            none.still("fits(" + w + ")", y -> y.fits(what), NONE);
        }
        none.still("fits(4), BAD ahead of NONE", y -> y.fits(4), BAD);
        BlushBank x = Checks.told("plain 0;" + "trip 0 0 1 1;".repeat(6));
        int[] want = {64, 0, 0, 0};
        for (int w = 0; w < 4; w++) {
            c.due("fits(" + w + "), nothing is NOTED", x.fits(w), want[w]);
        }
    }

    private static void fitsUpToWeek9() {
        c.at("a PLAN FITS, if from now on, up to WEEK 9 (that one too), all is as NOTED");
        // 9 in hand are nothing in week 9, at the bank they are 9.
        BlushBank x = Checks.told("plain 0;plain 0;trip 1 0 1 1;trip 0 0 5 4;asked 0 9 9;interest 0;");
        x.note(0, 9, false);
        int[] deposited = {2, 2, 2, 0};
        for (int w = 0; w < 4; w++) {
            c.due("fits(" + w + "), he was not", x.fits(w), deposited[w]);
        }
        x.forget(0);
        x.note(0, 9, true);
        int[] not = {2, 0, 0, 2};
        for (int w = 0; w < 4; w++) {
            c.due("fits(" + w + "), he was", x.fits(w), not[w]);
        }
        x.note(1, 9, false);
        c.due("fits(0), another one", x.fits(0), 2);
        x.note(1, 8, true);
        c.due("fits(0), all of them", x.fits(0), 0);
        x = Checks.told("plain 0;asked 0 9 1;asked 0 9 1;");
        x.note(0, 9, true);
        c.due("fits(0), brazen twice is brazen", x.fits(0), 1);
    }

    private static void fitsFromNowOn() {
        c.at("what is NOTED of WEEKS that are behind counts no more");
        BlushBank x = Checks.told("plain 0;trip 0 9 1 1;");
        x.note(0, 4, true);
        c.due("fits(0)", x.fits(0), 0);
        x.go(4);
        c.due("fits(0), this WEEK", x.fits(0), 0);
        x.go(1);
        c.due("fits(0), behind", x.fits(0), 2);
        c.due("count(2), it is NOTED still", x.count(2), 1);
        x.note(0, 9, true);
        x.go(4);
        c.due("fits(0), in WEEK 9", x.fits(0), 0);
        c.due("fits(1)", x.fits(1), NONE);
        x.go(1);
        c.due("fits(0), in WEEK 10", x.fits(0), 1);
        c.due("fits(1)", x.fits(1), 0);
    }

    private static void fitsOfThePast() {
        c.at("INCIDENTS of WEEKS that are behind are DEPOSITED as they are");
        int[] want = {2, 2, 2, 5};
        for (int w = 0; w < 4; w++) {
            int what = w;
            lived.still("fits(" + w + ")", y -> y.fits(what), want[w]);
        }
        BlushBank x = Checks.told("plain 0;trip 0 4 1 1;");
        x.go(4);
        c.due("fits(0), of this WEEK", x.fits(0), 2);
        x.go(1);
        c.due("fits(0), behind", x.fits(0), 1);
        c.due("fits(2)", x.fits(2), 0);
        c.due("fits(3)", x.fits(3), 1);
    }
}
