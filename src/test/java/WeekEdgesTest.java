/** The boundary sentences of the document about a week, and of the calls by which weeks go (promises 10 to 19, 33). */
public final class WeekEdgesTest {
    private static final int BAD = -1, STATE = -2, FULL = -3, NONE = -4;
    private static final int MIN = Integer.MIN_VALUE, MAX = Integer.MAX_VALUE;
    private static final Checks c = new Checks();
    private static final Twins lived = new Twins(c, Pasts::lived);

    public static void main(String[] args) {
        blushOfAnIncident();
        incidentsAheadOfOccasions();
        whereAnIncidentGoes();
        occasionsByOrder();
        outOfHandFirst();
        asFarAsCoverHasIt();
        brideOutOfCoverAlone();
        notEnoughGivesNothing();
        askedForNothing();
        fadesByATenth();
        growsByInterest();
        growsTo999();
        lostAtTheBank();
        lostInHand();
        coverTo99();
        depositsMakeNoCover();
        depositOf();
        depositBehind();
        giveBounds();
        giveRefusals();
        drawBounds();
        drawRefusals();
        rumourOf();
        lawBounds();
        teachBounds();
        goBounds();
        goTo99();
        aheadBounds();
        aheadAnswers();
        firstOfTwenty();
        modestOfTen();
        driftBounds();
        driftBySeed();
        driftTo999();
        c.finish();
    }

    private static void blushOfAnIncident() {
        c.at("BLUSH: SIZE and SEEN BY, summed; a bishop's is twice that, a widow's half of that (down)");
        int[][] sums = {{0, 0}, {0, 1}, {1, 0}, {4, 5}, {9, 8}, {9, 9}};
        for (int[] s : sums) {
            int sum = s[0] + s[1];
            int[] want = {sum, 2 * sum, sum, sum / 2};
            BlushBank x = Checks.told("plain 0;trip 0 0 " + s[0] + " " + s[1] + ";");
            for (int kind = 0; kind < 4; kind++) {
                x.teach(0, kind);
                c.due("trip(0, 5) of kind " + kind + " of " + sum, x.trip(0, 5), want[kind]);
                int hand = want[kind] - (want[kind] + 9) / 10;
                c.due("ahead(0, 1, 0) of kind " + kind + " of " + sum, x.ahead(0, 1, 0), hand);
            }
        }
    }

    private static void incidentsAheadOfOccasions() {
        c.at("a WEEK, in this order: INCIDENTS of it, OCCASIONS of it, behind all what fades and grows");
        BlushBank x = Checks.told("asked 0 0 5;trip 0 0 5 0;plain 0;");
        c.due("go(1)", x.go(1), 0);
        c.due("one(0, 1)", x.one(0, 1), 0);
        x = Checks.told("plain 10;asked 0 0 10;asked 0 1 1;");
        c.due("go(1), nothing has faded yet", x.go(1), 0);
        x = Checks.told("plain 0;trip 0 0 5 5;asked 0 0 11;interest 9;");
        x.deposit(0, true);
        c.due("go(1), nothing has grown yet", x.go(1), 1);
        x = Checks.told("bride 0;asked 0 0 8;cover 7;");
        c.due("go(1), cover has not grown yet", x.go(1), 1);
        x = Checks.told("plain 0;trip 0 1 5 0;asked 0 0 1;asked 0 2 1;");
        c.due("go(1), of another week", x.go(1), 1);
        c.due("go(1)", x.go(1), 0);
        c.due("one(0, 1)", x.one(0, 1), 4);
    }

    private static void whereAnIncidentGoes() {
        c.at("their BLUSH more, at THE BANK where it is DEPOSITED, else in hand");
        BlushBank x = Checks.told("plain 1;plain 2;trip 0 0 3 4;trip 1 0 1 1;trip 0 0 9 9;interest 0;");
        x.deposit(0, true);
        c.due("go(1)", x.go(1), 0);
        c.due("one(0, 1)", x.one(0, 1), 17);
        c.due("one(0, 2)", x.one(0, 2), 7);
        c.due("one(1, 1)", x.one(1, 1), 3);
        c.due("one(1, 2)", x.one(1, 2), 0);
    }

    private static void occasionsByOrder() {
        c.at("OCCASIONS of it, by order");
        BlushBank x = Checks.told("plain 5;asked 0 0 3;asked 0 0 3;asked 0 0 2;");
        c.due("go(1), the second alone is not met", x.go(1), 1);
        c.due("one(0, 1)", x.one(0, 1), 0);
        x = Checks.told("bride 0;bride 0;asked 1 0 6;asked 0 0 5;cover 10;");
        c.due("go(1)", x.go(1), 1);
        c.due("one(0, 3), who is asked later", x.one(0, 3), 1);
        c.due("one(1, 3)", x.one(1, 3), 0);
    }

    private static void outOfHandFirst() {
        c.at("first out of hand, then out of what he has at THE BANK");
        BlushBank x = Checks.told("plain 10;trip 0 0 5 5;asked 0 0 10;interest 0;");
        x.deposit(0, true);
        c.due("ahead(0, 1, 0), all of the hand", x.ahead(0, 1, 0), 0);
        c.due("ahead(0, 1, 1), nothing of the bank", x.ahead(0, 1, 1), 10);
        c.due("ahead(0, 1, 3), nothing of cover", x.ahead(0, 1, 3), 21);
        x = Checks.told("plain 10;trip 0 0 5 5;asked 0 0 11;interest 0;");
        x.deposit(0, true);
        c.due("ahead(0, 1, 0)", x.ahead(0, 1, 0), 0);
        c.due("ahead(0, 1, 1), one of the bank", x.ahead(0, 1, 1), 9);
        c.due("ahead(0, 1, 3), one of cover", x.ahead(0, 1, 3), 20);
        x = Checks.told("plain 10;trip 0 0 5 5;asked 0 0 20;interest 0;");
        x.deposit(0, true);
        c.due("ahead(0, 1, 1), all that there is", x.ahead(0, 1, 1), 0);
        c.due("ahead(0, 1, 2)", x.ahead(0, 1, 2), 0);
        x = Checks.told("plain 10;trip 0 0 5 5;asked 0 0 21;interest 0;");
        x.deposit(0, true);
        c.due("ahead(0, 1, 2), one more than there is", x.ahead(0, 1, 2), 1);
    }

    /** One of a kind has 10 at the bank when 10 are asked for; so much is brazen, at the bank and of cover behind it. */
    private static void asked10(String kind, int deposited, int cover, int... want) {
        BlushBank x = Checks.told(kind + " 0;trip 0 0 0 0;trip 0 0 " + deposited / 2 + " " + (deposited + 1) / 2
            + ";asked 0 0 10;interest 0;cover " + cover + ";");
        x.deposit(1, true);
        String name = kind + " with " + deposited + ", cover " + cover;
        c.due("ahead(0, 1, 2) of a " + name, x.ahead(0, 1, 2), want[0]);
        c.due("ahead(0, 1, 1) of a " + name, x.ahead(0, 1, 1), want[1]);
        c.due("ahead(0, 1, 3) of a " + name, x.ahead(0, 1, 3), want[2]);
    }

    private static void asFarAsCoverHasIt() {
        c.at("as far as COVER has it: COVER is less by as much, at THE BANK he has less");
        asked10("plain", 10, 11, 0, 0, 2);
        asked10("plain", 10, 10, 0, 0, 1);
        asked10("plain", 10, 9, 1, 10, 10);
        asked10("plain", 18, 10, 0, 8, 1);
        asked10("plain", 18, 9, 1, 18, 10);
        asked10("plain", 10, 0, 1, 10, 1);
        asked10("plain", 9, 99, 1, 9, 99);
    }

    private static void brideOutOfCoverAlone() {
        c.at("a bride, when she has nothing left there, out of COVER alone, too");
        asked10("bride", 0, 10, 0, 0, 1);
        asked10("bride", 0, 9, 1, 0, 10);
        asked10("bride", 4, 10, 0, 0, 1);
        asked10("bride", 4, 9, 1, 4, 10);
        asked10("bride", 10, 10, 0, 0, 1);
        asked10("bride", 18, 10, 0, 8, 1);
        asked10("bride", 18, 9, 1, 18, 10);
        asked10("plain", 0, 99, 1, 0, 99);
        BlushBank x = Checks.told("bishop 0;widow 0;asked 0 0 1;asked 1 0 1;cover 99;");
        c.due("go(1), nobody but a bride", x.go(1), 2);
        x = Checks.told("bride 2;trip 0 0 1 2;asked 0 0 9;cover 7;");
        x.deposit(0, true);
        c.due("ahead(0, 1, 2), hand 2, bank 3, cover alone 4", x.ahead(0, 1, 2), 0);
        c.due("ahead(0, 1, 3)", x.ahead(0, 1, 3), 1);
    }

    private static void notEnoughGivesNothing() {
        c.at("is it not enough for all that it asks for, nothing is given at all: he is BRAZEN once more");
        BlushBank x = Checks.told("bride 2;trip 0 0 1 2;asked 0 0 10;cover 7;interest 0;");
        x.deposit(0, true);
        c.due("go(1)", x.go(1), 1);
        c.due("one(0, 1), but it fades", x.one(0, 1), 1);
        c.due("one(0, 2)", x.one(0, 2), 3);
        c.due("rule(4)", x.rule(4), 8);
        c.due("one(0, 3)", x.one(0, 3), 1);
        x = Checks.told("plain 1;asked 0 0 2;asked 0 0 2;asked 0 1 2;");
        c.due("go(2)", x.go(2), 3);
        c.due("one(0, 3), once for each occasion", x.one(0, 3), 3);
    }

    private static void askedForNothing() {
        c.at("asks for so much BLUSH (0 to 30)");
        BlushBank x = Checks.told("plain 0;asked 0 0 0;cover 0;");
        c.due("go(1), 0 are always there", x.go(1), 0);
        x = Checks.told("plain 30;asked 0 0 30;");
        c.due("go(1)", x.go(1), 0);
        x = Checks.told("plain 29;asked 0 0 30;");
        c.due("go(1)", x.go(1), 1);
    }

    private static void fadesByATenth() {
        c.at("what each has in hand fades by a tenth (up)");
        int[] hand = {0, 1, 9, 10, 11, 19, 20, 21, 90, 91, 99};
        int[] then = {0, 0, 8, 9, 9, 17, 18, 18, 81, 81, 89};
        for (int i = 0; i < hand.length; i++) {
            BlushBank x = Checks.told("plain 50;widow " + hand[i] + ";");
            x.go(1);
            c.due("one(1, 1) of " + hand[i], x.one(1, 1), then[i]);
            c.due("one(0, 1)", x.one(0, 1), 45);
        }
    }

    private static void growsByInterest() {
        c.at("what he has at THE BANK grows by INTEREST, in tenths of it (down)");
        int[][] rows = {
            {0, 9, 0}, {1, 9, 1}, {2, 9, 3}, {9, 1, 9}, {10, 1, 11}, {18, 1, 19}, {9, 9, 17}, {10, 9, 19}, {18, 9, 34},
            {18, 0, 18}, {18, 5, 27}, {15, 5, 22}
        };
        for (int[] r : rows) {
            BlushBank x = Checks.told("plain 0;trip 0 0 " + r[0] / 2 + " " + (r[0] + 1) / 2 + ";interest " + r[1] + ";");
            x.deposit(0, true);
            x.go(1);
            c.due("one(0, 2), " + r[0] + " by " + r[1] + " tenths", x.one(0, 2), r[2]);
        }
    }

    /** One 0 of the rich ones with so much at the bank. */
    private static BlushBank atBank(int left) {
        BlushBank x = Pasts.rich(999 - left);
        c.due("one(0, 2)", x.one(0, 2), left);
        return x;
    }

    private static void growsTo999() {
        c.at("grows by INTEREST (999 at most)");
        int[][] rows = {{908, 1, 998}, {909, 1, 999}, {910, 1, 999}, {525, 9, 997}, {526, 9, 999}, {527, 9, 999},
            {999, 9, 999}, {999, 0, 999}, {998, 0, 998}};
        for (int[] r : rows) {
            BlushBank x = atBank(r[0]);
            x.law(0, r[1]);
            c.due("ahead(0, 1, 1), " + r[0] + " by " + r[1] + " tenths", x.ahead(0, 1, 1), r[2]);
            x.go(1);
            c.due("one(0, 2), " + r[0] + " by " + r[1] + " tenths", x.one(0, 2), r[2]);
        }
    }

    private static void lostAtTheBank() {
        c.at("what is more than 999 at THE BANK is lost");
        int[][] rows = {{962, 998}, {963, 999}, {964, 999}, {999, 999}};
        for (int[] r : rows) {
            BlushBank x = atBank(r[0]);
            x.deposit(2, true);
            x.go(3);
            c.due("one(0, 2), " + r[0] + " and 36", x.one(0, 2), r[1]);
        }
    }

    private static void lostInHand() {
        c.at("what is more than 999 in hand is lost");
        // 997 and 999 fade to 897, 899 and to 807, 809: too little. So the hand is filled again in week 8.
        int[][] rows = {{962, 898}, {963, 899}, {964, 899}, {999, 899}};
        for (int[] r : rows) {
            BlushBank x = Pasts.rich(0);
            x.go(2);
            fillHand(x, r[0]);
            c.due("one(0, 1)", x.one(0, 1), r[0]);
            c.due("ahead(0, 1, 0), " + r[0] + " and 36", x.ahead(0, 1, 0), r[1]);
            x.go(1);
            c.due("one(0, 1), " + r[0] + " and 36", x.one(0, 1), r[1]);
        }
    }

    private static void fillHand(BlushBank x, int upTo) {
        for (int i = 0; i < 11; i++) {
            x.law(1, 99);
            x.draw(0, Math.min(99, upTo - x.one(0, 1)));
        }
        x.law(1, 99);
    }

    private static void coverTo99() {
        c.at("COVER grows by 1 (99 at most). WEEK is 1 more");
        BlushBank x = Checks.told("plain 0;cover 97;");
        int[] want = {98, 99, 99, 99};
        for (int w = 0; w < 4; w++) {
            x.go(1);
            c.due("rule(4)", x.rule(4), want[w]);
            c.due("rule(5)", x.rule(5), w + 1);
        }
        x.law(1, 0);
        x.go(1);
        c.due("rule(4)", x.rule(4), 1);
    }

    private static void depositsMakeNoCover() {
        c.at("what is DEPOSITED makes COVER no more: only what is drawn leaves it");
        BlushBank x = Checks.told("bishop 0;trip 0 0 9 9;cover 5;");
        x.deposit(0, true);
        c.due("rule(4)", x.rule(4), 5);
        x.go(1);
        c.due("rule(4)", x.rule(4), 6);
        c.due("draw(0, 6)", x.draw(0, 6), 0);
        c.due("rule(4)", x.rule(4), 0);
    }

    private static void depositOf() {
        c.at("deposit: an INCIDENT is DEPOSITED, or not: whether it was. BAD");
        String six = "plain 0;" + "trip 0 5 1 1;".repeat(6);
        BlushBank x = Checks.told(six);
        for (int i = 0; i < 6; i++) {
            c.due("deposit(" + i + ", false)", x.deposit(i, false), 0);
            c.due("deposit(" + i + ", true)", x.deposit(i, true), 0);
            c.due("deposit(" + i + ", true)", x.deposit(i, true), 1);
            c.due("rule(6)", x.rule(6), (2 << i) - 1);
        }
        c.due("deposit(6, true)", x.deposit(6, true), BAD);
        c.due("deposit(5, false)", x.deposit(5, false), 1);
        c.due("deposit(0, false)", x.deposit(0, false), 1);
        c.due("rule(6)", x.rule(6), 30);
        int[] wrong = {-1, 4, 5, 6, 32, 35, MIN, MAX};
        for (int i : wrong) {
            lived.still("deposit(" + i + ", true)", y -> y.deposit(i, true), BAD);
            lived.still("deposit(" + i + ", false)", y -> y.deposit(i, false), BAD);
        }
    }

    private static void depositBehind() {
        c.at("deposit: STATE: its WEEK is behind");
        for (int i = 0; i < 3; i++) {
            int n = i;
            lived.still("deposit(" + i + ", true)", y -> y.deposit(n, true), STATE);
            lived.still("deposit(" + i + ", false)", y -> y.deposit(n, false), STATE);
        }
        lived.still("deposit(3, true), as it is", y -> y.deposit(3, true), 1);
        BlushBank x = Checks.told("plain 0;trip 0 4 1 1;trip 0 9 1 1;");
        x.go(4);
        c.due("deposit(0, true), of this WEEK", x.deposit(0, true), 0);
        x.go(1);
        c.due("deposit(0, false)", x.deposit(0, false), STATE);
        x.go(4);
        c.due("deposit(1, true), in WEEK 9", x.deposit(1, true), 0);
        x.go(1);
        c.due("deposit(1, true), in WEEK 10", x.deposit(1, true), STATE);
        c.due("deposit(2, true)", x.deposit(2, true), BAD);
        c.due("rule(6)", x.rule(6), 3);
    }

    private static void giveBounds() {
        c.at("give: v BLUSH (0 to 99). BAD (also to himself)");
        BlushBank x = Checks.told("plain 99;bishop 0;bride 99;widow 5;");
        c.due("give(3, 0, 0)", x.give(3, 0, 0), 5);
        c.due("give(0, 1, 99)", x.give(0, 1, 99), 0);
        c.due("one(1, 1)", x.one(1, 1), 99);
        c.due("give(2, 1, 99)", x.give(2, 1, 99), 0);
        c.due("one(1, 1)", x.one(1, 1), 198);
        c.due("give(1, 3, 99)", x.give(1, 3, 99), 99);
        c.due("give(0, 3, 0), he has nothing", x.give(0, 3, 0), 0);
        Twins had = new Twins(c, () -> {
            BlushBank y = Checks.told("plain 99;bishop 99;bride 0;");
            y.give(1, 0, 99);
            return y;
        });
        had.still("give(0, 1, 100)", y -> y.give(0, 1, 100), BAD);
        had.still("give(0, 1, -1)", y -> y.give(0, 1, -1), BAD);
        had.still("give(0, 1, MIN)", y -> y.give(0, 1, MIN), BAD);
        had.still("give(0, 1, MAX)", y -> y.give(0, 1, MAX), BAD);
        had.still("give(0, 0, 1), to himself", y -> y.give(0, 0, 1), BAD);
        had.still("give(0, 0, 0), to himself", y -> y.give(0, 0, 0), BAD);
        int[] noOne = {-1, 3, 4, MIN, MAX};
        for (int p : noOne) {
            had.still("give(0, " + p + ", 1)", y -> y.give(0, p, 1), BAD);
            had.still("give(" + p + ", 0, 1)", y -> y.give(p, 0, 1), BAD);
        }
    }

    private static void giveRefusals() {
        c.at("give: STATE: he has not so much; FULL: the other one would have more than 999");
        Twins told = new Twins(c, () -> Checks.told("plain 40;bishop 99;"));
        told.still("give(0, 1, 41)", y -> y.give(0, 1, 41), STATE);
        told.still("give(0, 1, 100), BAD ahead of STATE", y -> y.give(0, 1, 100), BAD);
        c.due("give(0, 1, 40)", Checks.told("plain 40;bishop 99;").give(0, 1, 40), 0);
        // One 1 has 50 in hand, one 0 has 950, of which 999 is 49 away.
        Twins rich = new Twins(c, () -> richWith(950, 50));
        rich.still("give(1, 0, 50)", y -> y.give(1, 0, 50), FULL);
        rich.still("give(1, 0, 51), STATE ahead of FULL", y -> y.give(1, 0, 51), STATE);
        rich.still("give(1, 0, 100), BAD ahead of both", y -> y.give(1, 0, 100), BAD);
        BlushBank x = richWith(950, 50);
        c.due("give(1, 0, 49)", x.give(1, 0, 49), 1);
        c.due("one(0, 1)", x.one(0, 1), 999);
        c.due("give(1, 0, 1)", x.give(1, 0, 1), FULL);
        c.due("give(1, 0, 0)", x.give(1, 0, 0), 1);
        c.due("give(0, 1, 99), of 999", x.give(0, 1, 99), 900);
        c.due("one(1, 1)", x.one(1, 1), 100);
    }

    private static BlushBank richWith(int hand0, int hand1) {
        BlushBank x = Pasts.rich(hand0);
        x.draw(1, hand1);
        x.law(1, 99);
        return x;
    }

    private static void drawBounds() {
        c.at("draw: v BLUSH (0 to 99). BAD");
        BlushBank x = Pasts.rich(0);
        c.due("draw(0, 0)", x.draw(0, 0), 99);
        c.due("draw(0, 99)", x.draw(0, 99), 0);
        c.due("one(0, 1)", x.one(0, 1), 99);
        c.due("one(0, 2)", x.one(0, 2), 900);
        c.due("draw(0, 0)", x.draw(0, 0), 0);
        Twins rich = new Twins(c, () -> Pasts.rich(0));
        int[] wrong = {-1, 100, MIN, MAX};
        for (int v : wrong) {
            rich.still("draw(0, " + v + ")", y -> y.draw(0, v), BAD);
        }
        int[] noOne = {-1, 2, 4, MIN, MAX};
        for (int p : noOne) {
            rich.still("draw(" + p + ", 0)", y -> y.draw(p, 0), BAD);
        }
    }

    private static void drawRefusals() {
        c.at("draw: STATE: he has not so much there, COVER has it not; FULL: he would have more than 999 in hand");
        // At the bank he has 54, cover is 21.
        lived.still("draw(1, 22), cover has it not", y -> y.draw(1, 22), STATE);
        lived.still("draw(0, 1), he has not so much there", y -> y.draw(0, 1), STATE);
        lived.still("draw(2, 1), a bride too", y -> y.draw(2, 1), STATE);
        lived.still("draw(1, 100), BAD ahead of STATE", y -> y.draw(1, 100), BAD);
        BlushBank x = Pasts.lived();
        c.due("draw(1, 21)", x.draw(1, 21), 0);
        c.due("one(1, 1)", x.one(1, 1), 29);
        c.due("one(1, 2)", x.one(1, 2), 33);
        x.law(1, 99);
        c.due("draw(1, 34)", x.draw(1, 34), STATE);
        c.due("draw(1, 33)", x.draw(1, 33), 66);
        c.due("one(1, 2)", x.one(1, 2), 0);
        // 950 in hand by another one's 50: 99 are at the bank still.
        Twins rich = new Twins(c, WeekEdgesTest::heavyHand);
        rich.still("draw(0, 50)", y -> y.draw(0, 50), FULL);
        rich.still("draw(0, 99)", y -> y.draw(0, 99), FULL);
        rich.still("draw(0, 100), BAD ahead of FULL", y -> y.draw(0, 100), BAD);
        Twins poor = new Twins(c, () -> {
            BlushBank y = heavyHand();
            y.law(1, 49);
            return y;
        });
        poor.still("draw(0, 50), STATE ahead of FULL", y -> y.draw(0, 50), STATE);
        x = heavyHand();
        c.due("draw(0, 49)", x.draw(0, 49), 50);
        c.due("one(0, 1)", x.one(0, 1), 999);
        c.due("draw(0, 1)", x.draw(0, 1), FULL);
        c.due("draw(0, 0)", x.draw(0, 0), 50);
    }

    /** One 0 has 950 in hand, 99 at the bank, cover is 99. */
    private static BlushBank heavyHand() {
        BlushBank x = Pasts.rich(900);
        x.draw(1, 50);
        x.give(1, 0, 50);
        x.law(1, 99);
        return x;
    }

    private static void rumourOf() {
        c.at("a RUMOUR of a ONE: of INCIDENTS of his not yet come SEEN BY becomes 9: how many change. BAD");
        String text = "plain 0;bishop 0;trip 0 3 1 0;trip 0 4 1 8;trip 1 5 1 7;trip 0 9 1 9;";
        BlushBank x = Checks.told(text);
        x.go(4);
        c.due("rumour(0), of this WEEK one", x.rumour(0), 1);
        int[] seen = {0, 9, 7, 9};
        for (int i = 0; i < 4; i++) {
            c.due("trip(" + i + ", 3)", x.trip(i, 3), seen[i]);
        }
        c.due("trip(1, 5)", x.trip(1, 5), 10);
        c.due("rumour(0), none changes any more", x.rumour(0), 0);
        x.go(2);
        c.due("rumour(1), behind", x.rumour(1), 0);
        c.due("trip(2, 3)", x.trip(2, 3), 7);
        x = Checks.told(text);
        c.due("rumour(0)", x.rumour(0), 2);
        c.due("rumour(1)", x.rumour(1), 1);
        c.due("trip(2, 5) of a bishop", x.trip(2, 5), 20);
        int[] noOne = {-1, 3, 4, MIN, MAX};
        for (int p : noOne) {
            lived.still("rumour(" + p + ")", y -> y.rumour(p), BAD);
        }
        lived.still("rumour(1), all is behind", y -> y.rumour(1), 0);
    }

    private static void lawBounds() {
        c.at("law: INTEREST (what 0; 0 to 9), COVER (1; 0 to 99) becomes v: what it was. BAD");
        BlushBank x = new BlushBank();
        c.due("law(0, 9)", x.law(0, 9), 1);
        c.due("law(0, 0)", x.law(0, 0), 9);
        c.due("rule(3)", x.rule(3), 0);
        c.due("law(1, 99)", x.law(1, 99), 20);
        c.due("law(1, 0)", x.law(1, 0), 99);
        c.due("rule(4)", x.rule(4), 0);
        c.due("law(0, 4)", x.law(0, 4), 0);
        c.due("rule(4)", x.rule(4), 0);
        int[] wrong = {-1, 10, 99, 100, MIN, MAX};
        for (int v : wrong) {
            lived.still("law(0, " + v + ")", y -> y.law(0, v), BAD);
        }
        int[] wrongCover = {-1, 100, MIN, MAX};
        for (int v : wrongCover) {
            lived.still("law(1, " + v + ")", y -> y.law(1, v), BAD);
        }
        int[] what = {-1, 2, MIN, MAX};
        for (int w : what) {
            lived.still("law(" + w + ", 1)", y -> y.law(w, 1), BAD);
        }
    }

    private static void teachBounds() {
        c.at("teach: a ONE becomes of a KIND (0 to 3): of which he was. BAD");
        BlushBank x = Pasts.lived();
        c.due("teach(2, 3)", x.teach(2, 3), 2);
        c.due("teach(2, 3)", x.teach(2, 3), 3);
        c.due("teach(2, 0)", x.teach(2, 0), 3);
        c.due("one(2, 0)", x.one(2, 0), 0);
        c.due("teach(0, 1)", x.teach(0, 1), 0);
        int[] wrong = {-1, 4, MIN, MAX};
        for (int kind : wrong) {
            lived.still("teach(0, " + kind + ")", y -> y.teach(0, kind), BAD);
        }
        int[] noOne = {-1, 3, 4, MIN, MAX};
        for (int p : noOne) {
            lived.still("teach(" + p + ", 0)", y -> y.teach(p, 0), BAD);
        }
    }

    private static void goBounds() {
        c.at("go: n WEEKS go (0 to 20): how often somebody is BRAZEN in them. BAD");
        BlushBank x = Checks.told("plain 99;plain 0;asked 1 0 1;asked 1 0 1;asked 0 9 30;asked 1 9 1;");
        c.due("go(0)", x.go(0), 0);
        c.due("rule(5)", x.rule(5), 0);
        c.due("go(20)", x.go(20), 3);
        c.due("rule(5)", x.rule(5), 20);
        c.due("go(20), nothing new", x.go(20), 0);
        c.due("one(1, 3)", x.one(1, 3), 3);
        int[] wrong = {-1, 21, MIN, MAX};
        for (int n : wrong) {
            lived.still("go(" + n + ")", y -> y.go(n), BAD);
        }
        lived.still("go(0)", y -> y.go(0), 0);
    }

    private static void goTo99() {
        c.at("go: FULL: WEEK would be more than 99");
        BlushBank x = Pasts.inWeek(79);
        c.due("go(20)", x.go(20), 0);
        c.due("rule(5)", x.rule(5), 99);
        Twins last = new Twins(c, () -> Pasts.inWeek(99));
        last.still("go(1)", y -> y.go(1), FULL);
        last.still("go(20)", y -> y.go(20), FULL);
        last.still("go(21), BAD ahead of FULL", y -> y.go(21), BAD);
        last.still("go(MAX), BAD ahead of FULL", y -> y.go(MAX), BAD);
        last.still("go(0)", y -> y.go(0), 0);
        Twins eighty = new Twins(c, () -> Pasts.inWeek(80));
        eighty.still("go(20)", y -> y.go(20), FULL);
        c.due("go(19)", Pasts.inWeek(80).go(19), 0);
        last.still("ahead(0, 20, 3), no such bound", y -> y.ahead(0, 20, 3), 99);
        last.still("first(0)", y -> y.first(0), NONE);
        last.still("modest()", y -> y.modest(), 10);
        last.still("cover(20)", y -> y.cover(20), 0);
        last.still("rate(20)", y -> y.rate(20), 0);
        last.still("drift(5, 20, 0)", y -> y.drift(5, 20, 0), 0);
        last.still("plan(0)", y -> y.plan(0), 0);
    }

    private static void aheadBounds() {
        c.at("ahead: n WEEKS (0 to 20), what 0 to 3. BAD");
        lived.still("ahead(0, 0, 0)", y -> y.ahead(0, 0, 0), 20);
        lived.still("ahead(1, 0, 1)", y -> y.ahead(1, 0, 1), 54);
        lived.still("ahead(0, 0, 2), in no WEEK", y -> y.ahead(0, 0, 2), 0);
        lived.still("ahead(0, 0, 3)", y -> y.ahead(0, 0, 3), 21);
        lived.still("ahead(0, 20, 3)", y -> y.ahead(0, 20, 3), 41);
        int[] wrong = {-1, 21, MIN, MAX};
        for (int n : wrong) {
            lived.still("ahead(0, " + n + ", 0)", y -> y.ahead(0, n, 0), BAD);
        }
        int[] what = {-1, 4, MIN, MAX};
        for (int w : what) {
            lived.still("ahead(0, 1, " + w + ")", y -> y.ahead(0, 1, w), BAD);
        }
        int[] noOne = {-1, 3, 4, MIN, MAX};
        for (int p : noOne) {
            lived.still("ahead(" + p + ", 1, 3)", y -> y.ahead(p, 1, 3), BAD);
        }
    }

    private static void aheadAnswers() {
        c.at("ahead: behind n WEEKS, as go() would have it");
        // 99 fades to 89, 80, 72, 64, 57, 51, 45, 40, 36, 32, 28, 25, 22, 19, 17, 15, 13, 11, 9, 8.
        int[] fades = {99, 89, 80, 72, 64, 57, 51, 45, 40, 36, 32, 28, 25, 22, 19, 17, 15, 13, 11, 9, 8};
        BlushBank x = Checks.told("plain 99;plain 0;asked 1 9 1;asked 1 0 1;");
        for (int n = 0; n <= 20; n++) {
            c.due("ahead(0, " + n + ", 0)", x.ahead(0, n, 0), fades[n]);
            c.due("ahead(0, " + n + ", 3)", x.ahead(0, n, 3), 20 + n);
            c.due("ahead(1, " + n + ", 2)", x.ahead(1, n, 2), n == 0 ? 0 : n < 10 ? 1 : 2);
        }
        x.go(1);
        c.due("ahead(1, 8, 2), of these WEEKS alone", x.ahead(1, 8, 2), 0);
        c.due("ahead(1, 9, 2)", x.ahead(1, 9, 2), 1);
        c.due("one(1, 3)", x.one(1, 3), 1);
    }

    private static void firstOfTwenty() {
        c.at("first: the first WEEK from now on, of 20, in which a ONE is BRAZEN. BAD; NONE: in none");
        BlushBank x = Checks.told("plain 0;bride 0;plain 50;asked 0 0 1;asked 0 4 1;asked 1 9 30;asked 2 5 1;");
        c.due("first(0), this WEEK", x.first(0), 0);
        x.law(1, 21);
        c.due("first(1), cover is 30 in WEEK 9", x.first(1), NONE);
        x.law(1, 20);
        c.due("first(1), cover is 29 in WEEK 9", x.first(1), 9);
        c.due("first(2)", x.first(2), NONE);
        x.go(1);
        c.due("first(0), from now on", x.first(0), 4);
        x.go(3);
        c.due("first(0), this WEEK", x.first(0), 4);
        x.go(1);
        c.due("first(0), behind", x.first(0), NONE);
        x.go(4);
        c.due("first(1), in WEEK 9", x.first(1), 9);
        x.go(1);
        c.due("first(1), in WEEK 10", x.first(1), NONE);
        lived.still("first(0), it was behind", y -> y.first(0), NONE);
        int[] noOne = {-1, 3, 4, MIN, MAX};
        for (int p : noOne) {
            lived.still("first(" + p + ")", y -> y.first(p), BAD);
        }
    }

    private static void modestOfTen() {
        c.at("modest: WEEKS from now on, of 10, that are MODEST; MODEST is a WEEK in which nobody is BRAZEN");
        StringBuilder all = new StringBuilder("plain 0;plain 0;");
        for (int w = 0; w < 6; w++) {
            all.append("asked ").append(w % 2).append(' ').append(w).append(" 1;");
        }
        BlushBank x = Checks.told(all.toString());
        c.due("modest()", x.modest(), 4);
        x.go(5);
        c.due("modest()", x.modest(), 9);
        x.go(1);
        c.due("modest()", x.modest(), 10);
        c.due("modest(), the tenth", Checks.told("plain 0;asked 0 9 1;").modest(), 9);
        c.due("modest(), several in one", Checks.told("plain 0;plain 0;asked 0 3 1;asked 0 3 1;asked 1 3 1;").modest(), 9);
        lived.still("modest()", y -> y.modest(), 10);
    }

    private static void driftBounds() {
        c.at("drift: n WEEKS (1 to 20), what 0, 1. BAD; STATE: there is nobody");
        int[] wrong = {0, -1, 21, MIN, MAX};
        for (int n : wrong) {
            lived.still("drift(7, " + n + ", 0)", y -> y.drift(7, n, 0), BAD);
        }
        int[] what = {-1, 2, MIN, MAX};
        for (int w : what) {
            lived.still("drift(7, 1, " + w + ")", y -> y.drift(7, 1, w), BAD);
        }
        lived.still("drift(7, 1, 0)", y -> y.drift(7, 1, 0), 0);
        lived.still("drift(7, 20, 0)", y -> y.drift(7, 20, 0), 0);
        Twins nobody = new Twins(c, BlushBank::new);
        nobody.still("drift(7, 1, 0) of nobody", y -> y.drift(7, 1, 0), STATE);
        nobody.still("drift(7, 20, 1) of nobody", y -> y.drift(7, 20, 1), STATE);
        nobody.still("drift(7, 0, 0) of nobody, BAD ahead of STATE", y -> y.drift(7, 0, 0), BAD);
        nobody.still("drift(7, 21, 0) of nobody", y -> y.drift(7, 21, 0), BAD);
        nobody.still("drift(7, 1, 2) of nobody", y -> y.drift(7, 1, 2), BAD);
    }

    private static void driftBySeed() {
        c.at("drift: the seed becomes seed times 1103515245 and 12345 (wrap-around); bits 16 to 30; modulo PEOPLE, 10");
        int[] seeds = {0, 1, 2, -1, 7, 123456789, MIN, MAX, 65536, -65536};
        for (int people = 1; people <= 4; people++) {
            String text = "plain 90;plain 50;plain 13;plain 0;".substring(0, new int[] {0, 9, 18, 27, 35}[people]);
            for (int seed : seeds) {
                BlushBank x = Checks.told(text + "asked 0 2 30;asked 0 3 30;asked 0 9 30;");
                for (int n = 1; n <= 20; n++) {
                    c.due("drift(" + seed + ", " + n + ", 1)", x.drift(seed, n, 1), drifted(people, seed, n, 1));
                    c.due("drift(" + seed + ", " + n + ", 0)", x.drift(seed, n, 0), drifted(people, seed, n, 0));
                }
            }
        }
    }

    /** The same in whole numbers without end, of which the lowest 31 bits are looked at. */
    private static int drifted(int people, int seed, int n, int what) {
        java.math.BigInteger now = java.math.BigInteger.valueOf(seed);
        int[] hand = {90, 50, 13, 0};
        int times = 0;
        for (int w = 0; w < n; w++) {
            now = now.multiply(java.math.BigInteger.valueOf(1103515245)).add(java.math.BigInteger.valueOf(12345));
            int bits = now.shiftRight(16).intValue() & 32767;
            hand[bits % people] += bits % 10;
            if (w == 2 || w == 3 || w == 9) {
                times += hand[0] < 30 ? 1 : 0;
                hand[0] -= hand[0] < 30 ? 0 : 30;
            }
            for (int p = 0; p < people; p++) {
                hand[p] -= (hand[p] + 9) / 10;
            }
        }
        int sum = 0;
        for (int p = 0; p < people; p++) {
            sum += hand[p];
        }
        return what == 0 ? times : sum;
    }

    private static void driftTo999() {
        c.at("drift: his BLUSH is more (999 at most)");
        // Seed 1 gives bits 16838: of two the one 0, by 8.
        int[][] rows = {{990, 898}, {991, 899}, {992, 899}, {999, 899}};
        for (int[] r : rows) {
            BlushBank x = Pasts.rich(r[0]);
            c.due("drift(1, 1, 1) of " + r[0] + " in hand", x.drift(1, 1, 1), r[1]);
            c.due("one(0, 1)", x.one(0, 1), r[0]);
        }
    }
}
