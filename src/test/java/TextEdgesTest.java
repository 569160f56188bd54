/** The boundary sentences of the document about the tape, its texts and what they tell (promises 1 to 9). */
public final class TextEdgesTest {
    private static final int BAD = -1, STATE = -2, FULL = -3, NONE = -4;
    private static final int MIN = Integer.MIN_VALUE, MAX = Integer.MAX_VALUE;
    private static final String[] KINDS = {"plain", "bishop", "bride", "widow"};
    private static final Checks c = new Checks();
    private static final Twins lived = new Twins(c, Pasts::lived);

    public static void main(String[] args) {
        newObjectKnowsNobody();
        newObjectIsAsked();
        fiveHundredAndTwelveCalls();
        bytesOfFeed();
        tapeOf160();
        textsOf160();
        endOfTape();
        handTold();
        peopleMost();
        incidentsMost();
        occasionsMost();
        boundsOfTrip();
        boundsOfAsked();
        boundsOfInterestAndCover();
        standsAtFirst();
        tokensAsLongAsMayBe();
        signsOfTokens();
        blanks();
        faultOne();
        faultTwo();
        faultTwoAtTheEnd();
        faultThree();
        faultFour();
        faultFive();
        faultSix();
        firstFaultMet();
        linesCounted();
        takenTellsAll();
        refusedTellsNothing();
        faultOfLatestText();
        whatOfRule();
        whatOfOne();
        whatOfTrip();
        whatOfAsked();
        c.finish();
    }

    private static void newObjectKnowsNobody() {
        c.at("BlushBank(): Nobody; SHEETS of nothing");
        BlushBank x = new BlushBank();
        c.due("rule(0)", x.rule(0), 0);
        c.due("rule(1)", x.rule(1), 0);
        c.due("rule(2)", x.rule(2), 0);
        c.due("rule(3)", x.rule(3), 1);
        c.due("rule(4)", x.rule(4), 20);
        c.due("rule(5)", x.rule(5), 0);
        c.due("rule(6)", x.rule(6), 0);
        for (int w = 0; w < 5; w++) {
            c.due("count(" + w + ")", x.count(w), 0);
        }
        c.due("count(5)", x.count(5), NONE);
        c.due("fault()", x.fault(), 0);
        c.due("torn()", x.torn(), 0);
        for (int k = 0; k < 4; k++) {
            c.due("lay(" + k + ", 0, 0)", x.lay(k, 0, 0), -11);
            c.due("read(" + k + ", 0, 0, 1)", x.read(k, 0, 0, 1), 0);
            c.due("torn()", x.torn(), 1);
        }
        c.due("back(0)", x.back(0), STATE);
        c.due("back(1)", x.back(1), STATE);
    }

    private static void newObjectIsAsked() {
        c.at("what a new object answers where there is no ONE, no INCIDENT, no OCCASION");
        Twins fresh = new Twins(c, BlushBank::new);
        fresh.still("one(0, 0)", x -> x.one(0, 0), BAD);
        fresh.still("trip(0, 0)", x -> x.trip(0, 0), BAD);
        fresh.still("asked(0, 0)", x -> x.asked(0, 0), BAD);
        fresh.still("deposit(0, true)", x -> x.deposit(0, true), BAD);
        fresh.still("give(0, 1, 0)", x -> x.give(0, 1, 0), BAD);
        fresh.still("draw(0, 0)", x -> x.draw(0, 0), BAD);
        fresh.still("rumour(0)", x -> x.rumour(0), BAD);
        fresh.still("teach(0, 0)", x -> x.teach(0, 0), BAD);
        fresh.still("go(0)", x -> x.go(0), 0);
        fresh.still("ahead(0, 0, 0)", x -> x.ahead(0, 0, 0), BAD);
        fresh.still("ahead(0, 0, 3)", x -> x.ahead(0, 0, 3), BAD);
        fresh.still("first(0)", x -> x.first(0), BAD);
        fresh.still("modest()", x -> x.modest(), 10);
        fresh.still("plan(0)", x -> x.plan(0), 0);
        fresh.still("plan(1)", x -> x.plan(1), BAD);
        fresh.still("best(0)", x -> x.best(0), 0);
        fresh.still("best(1)", x -> x.best(1), 0);
        fresh.still("save(0)", x -> x.save(0), BAD);
        fresh.still("run(0)", x -> x.run(0), 0);
        fresh.still("run(1)", x -> x.run(1), 20);
        fresh.still("run(2)", x -> x.run(2), 0);
        fresh.still("holds()", x -> x.holds(), 0);
        fresh.still("cover(20)", x -> x.cover(20), 0);
        fresh.still("rate(20)", x -> x.rate(20), 0);
        fresh.still("gift(99, 0)", x -> x.gift(99, 0), NONE);
        fresh.still("told(0, 0)", x -> x.told(0, 0), BAD);
        fresh.still("whisper(0)", x -> x.whisper(0), NONE);
        fresh.still("note(0, 0, true)", x -> x.note(0, 0, true), BAD);
        fresh.still("forget(0)", x -> x.forget(0), 0);
        fresh.still("forget(1)", x -> x.forget(1), BAD);
        fresh.still("fits(0)", x -> x.fits(0), 1);
        fresh.still("fits(1)", x -> x.fits(1), 0);
        fresh.still("fits(2)", x -> x.fits(2), 0);
        fresh.still("fits(3)", x -> x.fits(3), 0);
        fresh.still("drift(1, 1, 0)", x -> x.drift(1, 1, 0), STATE);
        fresh.still("end(0)", x -> x.end(0), 0);
        fresh.still("end(1)", x -> x.end(1), BAD);
        fresh.still("text()", x -> x.text(), 0);
    }

    private static void fiveHundredAndTwelveCalls() {
        c.at("an object is used for at most 512 calls");
        BlushBank x = Checks.told("plain 50;");
        for (int made = 10; made < 511; made++) {
            c.due("law(1, 7)", x.law(1, 7), made == 10 ? 20 : 7);
        }
        c.due("go(1), the 512th call", x.go(1), 0);
    }

    private static void bytesOfFeed() {
        c.at("feed: a byte (0 to 127)");
        BlushBank x = new BlushBank();
        c.due("feed(0)", x.feed(0), 1);
        c.due("feed(127)", x.feed(127), 2);
        int[] wrong = {-1, 128, -128, 255, 256 + 'p', MIN, MAX};
        for (int b : wrong) {
            lived.still("feed(" + b + ")", y -> y.feed(b), BAD);
        }
    }

    private static BlushBank typed(String text) {
        BlushBank x = new BlushBank();
        Checks.type(x, text);
        return x;
    }

    private static void tapeOf160() {
        c.at("THE TAPE has 160 bytes; FULL: more than 160");
        BlushBank x = new BlushBank();
        for (int n = 1; n <= 160; n++) {
            c.due("feed(32)", x.feed(32), n);
        }
        c.due("feed(32), the 161st", x.feed(32), FULL);
        c.due("feed(128) of a full tape", x.feed(128), BAD);
        c.due("count(4)", x.count(4), 160);
        c.due("end(159)", x.end(159), 160);
        c.due("feed(32), one is free again", x.feed(32), 160);
        c.due("feed(32)", x.feed(32), FULL);
        c.due("text()", x.text(), 0);
        c.due("feed(32), the tape is empty then", x.feed(32), 1);
        Twins full = new Twins(c, () -> typed("plain 3;" + " ".repeat(144) + "cover 7;"));
        full.still("feed(59), the 161st", y -> y.feed(';'), FULL);
        full.still("feed(-1), the 161st", y -> y.feed(-1), BAD);
    }

    private static void textsOf160() {
        c.at("places from 0, the length 160 at most");
        BlushBank x = typed("plain 3;" + " ".repeat(144) + "cover 7;");
        c.due("text() of 160 bytes", x.text(), 2);
        c.due("rule(4)", x.rule(4), 7);
        faulty("!" + " ".repeat(159), 1, 0);
        faulty(" ".repeat(159) + "!", 1, 159);
        faulty(" ".repeat(159) + "x", 2, 159);
        faulty(" ".repeat(155) + "plain", 2, 160);
        faulty("asked 0 0 0;" + " ".repeat(148), 6, 160);
        faulty("z".repeat(160), 2, 0);
        faulty("1".repeat(160), 1, 0);
        faulty("plain 1;" + ";".repeat(152), 2, 8);
    }

    private static void endOfTape() {
        c.at("end: THE TAPE keeps its first n bytes; BAD");
        BlushBank x = new BlushBank();
        c.due("end(0) of an empty tape", x.end(0), 0);
        c.due("end(1) of an empty tape", x.end(1), BAD);
        Checks.type(x, "plain 5;cover");
        c.due("end(13), all of it", x.end(13), 13);
        c.due("end(8)", x.end(8), 13);
        c.due("end(8)", x.end(8), 8);
        c.due("count(4)", x.count(4), 8);
        c.due("feed(32)", x.feed(32), 9);
        c.due("end(8)", x.end(8), 9);
        c.due("text()", x.text(), 1);
        c.due("one(0, 1)", x.one(0, 1), 5);
        BlushBank full = typed(" ".repeat(160));
        c.due("end(161)", full.end(161), BAD);
        c.due("end(160)", full.end(160), 160);
        c.due("end(0)", full.end(0), 160);
        c.due("count(4)", full.count(4), 0);
        int[] wrong = {-1, 9, 160, MIN, MAX};
        for (int n : wrong) {
            lived.still("end(" + n + ") of 8 bytes", y -> y.end(n), BAD);
        }
        lived.still("end(8) of 8 bytes", y -> y.end(8), 8);
    }

    /** A text that is refused by a new bank. */
    private static void faulty(String text, int fault, int place) {
        BlushBank x = typed(text);
        c.due("text() of \"" + text + "\"", x.text(), -10 - place);
        c.due("fault() of \"" + text + "\"", x.fault(), fault);
        c.due("count(4) behind \"" + text + "\"", x.count(4), 0);
        c.due("rule(0) behind \"" + text + "\"", x.rule(0), 0);
    }

    private static BlushBank taken(String text, int lines) {
        BlushBank x = typed(text);
        c.due("text() of \"" + text + "\"", x.text(), lines);
        c.due("fault() of \"" + text + "\"", x.fault(), 0);
        return x;
    }

    private static void handTold() {
        c.at("so much BLUSH in hand (0 to 99 told)");
        for (int kind = 0; kind < 4; kind++) {
            String name = KINDS[kind];
            BlushBank x = taken(name + " 0;" + name + " 99;" + name + " 00;" + name + " 07;", 4);
            int[] hands = {0, 99, 0, 7};
            for (int p = 0; p < 4; p++) {
                c.due("one(" + p + ", 0)", x.one(p, 0), kind);
                c.due("one(" + p + ", 1)", x.one(p, 1), hands[p]);
            }
            faulty(name + " 100;", 1, name.length() + 1);
            faulty(name + " 000;", 1, name.length() + 1);
            faulty(name + " ;", 2, name.length() + 1);
        }
    }

    private static void peopleMost() {
        c.at("PEOPLE 0 on (4 at most), by order; the 5th ONE");
        c.due("rule(0)", taken("bishop 1;", 1).rule(0), 1);
        BlushBank x = taken("widow 1;bride 2;bishop 3;plain 4;", 4);
        c.due("rule(0)", x.rule(0), 4);
        for (int p = 0; p < 4; p++) {
            c.due("one(" + p + ", 0), by order", x.one(p, 0), 3 - p);
            c.due("one(" + p + ", 1), by order", x.one(p, 1), p + 1);
        }
        c.due("one(4, 0)", x.one(4, 0), BAD);
        for (String name : KINDS) {
            faulty("plain 1;plain 1;plain 1;plain 1;" + name + " 1;", 5, 32);
        }
        lived.emptied("plain 1;plain 1;plain 1;plain 1;plain 1;", -42, 5);
    }

    private static void incidentsMost() {
        c.at("INCIDENTS (6 at most), by order; the 7th trip");
        StringBuilder six = new StringBuilder("plain 1;");
        for (int i = 0; i < 6; i++) {
            six.append("trip 0 ").append(i + 1).append(' ').append(9 - i).append(' ').append(i).append(';');
        }
        BlushBank x = taken(six.toString(), 7);
        c.due("rule(1)", x.rule(1), 6);
        for (int i = 0; i < 6; i++) {
            c.due("trip(" + i + ", 1)", x.trip(i, 1), i + 1);
            c.due("trip(" + i + ", 2)", x.trip(i, 2), 9 - i);
            c.due("trip(" + i + ", 3)", x.trip(i, 3), i);
            c.due("trip(" + i + ", 4), not", x.trip(i, 4), 0);
        }
        c.due("trip(6, 0)", x.trip(6, 0), BAD);
        faulty(six + "trip 0 0 0 0;", 5, 86);
        lived.emptied(six + "trip 0 0 0 0;", -96, 5);
    }

    private static void occasionsMost() {
        c.at("OCCASIONS (6 at most), by order; the 7th asked");
        StringBuilder six = new StringBuilder("plain 1;");
        for (int k = 0; k < 6; k++) {
            six.append("asked 0 ").append(9 - k).append(' ').append(k).append(';');
        }
        BlushBank x = taken(six.toString(), 7);
        c.due("rule(2)", x.rule(2), 6);
        for (int k = 0; k < 6; k++) {
            c.due("asked(" + k + ", 1)", x.asked(k, 1), 9 - k);
            c.due("asked(" + k + ", 2)", x.asked(k, 2), k);
        }
        c.due("asked(6, 0)", x.asked(6, 0), BAD);
        faulty(six + "asked 0 0 0;", 5, 80);
        lived.emptied(six + "asked 0 0 0;", -90, 5);
        String both = "plain 1;" + "trip 0 0 0 0;".repeat(6) + "asked 0 0 0;".repeat(6);
        c.due("rule(1), six of each", taken(both, 13).rule(1), 6);
    }

    private static void boundsOfTrip() {
        c.at("trip: the ONE (0 to 3), WEEK (0 to 9), SIZE (0 to 9), SEEN BY (0 to 9)");
        String four = "plain 0;plain 0;plain 0;plain 0;";
        BlushBank x = taken(four + "trip 3 9 9 9;trip 0 0 0 0;trip 03 09 09 09;", 7);
        for (int w = 0; w < 4; w++) {
            c.due("trip(0, " + w + ")", x.trip(0, w), w == 0 ? 3 : 9);
            c.due("trip(1, " + w + ")", x.trip(1, w), 0);
            c.due("trip(2, " + w + ")", x.trip(2, w), w == 0 ? 3 : 9);
        }
        faulty(four + "trip 4 9 9 9;", 3, 37);
        faulty(four + "trip 3 10 9 9;", 3, 39);
        faulty(four + "trip 3 9 10 9;", 3, 41);
        faulty(four + "trip 3 9 9 10;", 3, 43);
        faulty(four + "trip 99 9 9 9;", 3, 37);
        lived.emptied("plain 0;trip 0 0 0 10;", -29, 3);
    }

    private static void boundsOfAsked() {
        c.at("asked: the ONE (0 to 3), WEEK (0 to 9), what it asks for (0 to 30)");
        String four = "plain 0;plain 0;plain 0;plain 0;";
        BlushBank x = taken(four + "asked 3 9 30;asked 0 0 0;", 6);
        int[] most = {3, 9, 30};
        for (int w = 0; w < 3; w++) {
            c.due("asked(0, " + w + ")", x.asked(0, w), most[w]);
            c.due("asked(1, " + w + ")", x.asked(1, w), 0);
        }
        faulty(four + "asked 4 9 30;", 3, 38);
        faulty(four + "asked 3 10 30;", 3, 40);
        faulty(four + "asked 3 9 31;", 3, 42);
        faulty(four + "asked 3 9 99;", 3, 42);
        faulty(four + "asked 3 9 100;", 1, 42);
        lived.emptied("plain 0;asked 0 0 31;", -28, 3);
    }

    private static void boundsOfInterestAndCover() {
        c.at("INTEREST (0 to 9 tenths a WEEK), COVER (0 to 99)");
        for (int v = 0; v <= 9; v++) {
            c.due("rule(3)", taken("interest " + v + ";", 1).rule(3), v);
        }
        faulty("interest 10;", 3, 9);
        faulty("interest 99;", 3, 9);
        faulty("interest 100;", 1, 9);
        c.due("rule(4)", taken("cover 0;", 1).rule(4), 0);
        c.due("rule(4)", taken("cover 99;", 1).rule(4), 99);
        faulty("cover 100;", 1, 6);
        lived.emptied("interest 10;", -19, 3);
    }

    private static void standsAtFirst() {
        c.at("0 at THE BANK, not DEPOSITED, INTEREST 1, COVER 20, WEEK 0, BRAZEN 0 at first");
        BlushBank x = Pasts.lived();
        x.end(0);
        Checks.type(x, "plain 3;bishop 4;trip 1 0 9 9;trip 0 1 1 1;");
        c.due("text()", x.text(), 4);
        for (int p = 0; p < 2; p++) {
            c.due("one(" + p + ", 2)", x.one(p, 2), 0);
            c.due("one(" + p + ", 3)", x.one(p, 3), 0);
            c.due("trip(" + p + ", 4)", x.trip(p, 4), 0);
        }
        c.due("rule(3)", x.rule(3), 1);
        c.due("rule(4)", x.rule(4), 20);
        c.due("rule(5)", x.rule(5), 0);
        c.due("rule(6)", x.rule(6), 0);
    }

    private static void tokensAsLongAsMayBe() {
        c.at("TOKENS, each as long as may be; NUMBERS (1 or 2 figures); one ;");
        c.due("one(0, 1)", taken("plain12;", 1).one(0, 1), 12);
        c.due("one(0, 1)", taken("plain 9;", 1).one(0, 1), 9);
        faulty("plain 1 2;", 2, 8);
        faulty("plain 123;", 1, 6);
        faulty("plain123;", 1, 5);
        faulty("plain 12 3;", 2, 9);
        faulty("plainplain 1;", 2, 0);
        faulty("plain plain 1;", 2, 6);
        faulty("pla in 1;", 2, 0);
        faulty("trip 000 0 0;", 1, 5);
        faulty("trip 00 00;", 2, 10);
        faulty("plain 1;;", 2, 8);
        c.due("rule(4)", taken("plain1;trip0 1 2 3;asked0 1 2;cover5;", 4).rule(4), 5);
        faulty("trip0123;", 1, 4);
    }

    private static void signsOfTokens() {
        c.at("NAMES (a .. z), NUMBERS, one ; and no other byte");
        for (int b = 0; b < 128; b++) {
            boolean letter = b >= 'a' && b <= 'z';
            boolean figure = b >= '0' && b <= '9';
            BlushBank x = typed("plain 5;");
            x.feed(b);
            int want = b == 32 ? 1 : -18;
            c.due("text() of byte " + b + " behind a line", x.text(), want);
            c.due("fault()", x.fault(), b == 32 ? 0 : letter || figure || b == ';' ? 2 : 1);
        }
    }

    private static void blanks() {
        c.at("blanks (32) between");
        c.due("rule(0)", taken("   plain   4   ;   bride 5 ;  ", 2).rule(0), 2);
        taken(" ", 0);
        taken("", 0);
        taken(" ".repeat(160), 0);
        faulty("plain 1;\n", 1, 8);
        faulty("plain\t1;", 1, 5);
        faulty("plain 1\r;", 1, 7);
        faulty("\u0000plain 1;", 1, 0);
        faulty("plain 1;\u007f", 1, 8);
    }

    private static void faultOne() {
        c.at("FAULT 1: no TOKEN, a NUMBER that is too long (its first byte)");
        faulty("?", 1, 0);
        faulty("plain -1;", 1, 6);
        faulty("Plain 1;", 1, 0);
        faulty("plaiN 1;", 2, 0);
        faulty("plain 1.", 1, 7);
        faulty("plain   1000;", 1, 8);
        faulty("100", 1, 0);
        faulty("plain 1;100;", 1, 8);
        faulty("plain 1 100;", 1, 8);
        lived.emptied("plain 1;?", -18, 1);
        lived.emptied("?", -10, 1);
    }

    private static void faultTwo() {
        c.at("FAULT 2: a TOKEN that can not stand there (a NAME that begins no line)");
        faulty("plains 1;", 2, 0);
        faulty("plai 1;", 2, 0);
        faulty("bishops 1;", 2, 0);
        faulty("brid 1;", 2, 0);
        faulty("window 1;", 2, 0);
        faulty("trips 0 0 0 0;", 2, 0);
        faulty("ask 0 0 0;", 2, 0);
        faulty("interests 1;", 2, 0);
        faulty("covers 1;", 2, 0);
        faulty("a 1;", 2, 0);
        faulty("5;", 2, 0);
        faulty(";", 2, 0);
        faulty("plain ;", 2, 6);
        faulty("plain cover", 2, 6);
        faulty("plain 1 1", 2, 8);
        faulty("plain 1 plain", 2, 8);
        faulty("trip 0 0 0;", 2, 10);
        faulty("trip 0 0 0 0 0;", 2, 13);
        faulty("asked 0 0;", 2, 9);
        faulty("asked 0 0 0 0;", 2, 12);
        faulty("interest ;", 2, 9);
        faulty("interest 1 1;", 2, 11);
        faulty("cover;", 2, 5);
        faulty("cover 1 1;", 2, 8);
        String[] words = {"plain", "bishop", "bride", "widow", "trip", "asked", "interest", "cover"};
        for (String word : words) {
            for (int i = 0; i < word.length(); i++) {
                faulty(word.substring(0, i) + "q" + word.substring(i + 1) + " 0;", 2, 0);
            }
        }
        lived.emptied("plain 1;ask", -18, 2);
    }

    private static void faultTwoAtTheEnd() {
        c.at("FAULT 2: the end (the length)");
        String line = "trip 0 0 0 0;";
        for (int n = 4; n < 13; n++) {
            faulty(line.substring(0, n), 2, n);
        }
        line = "asked 0 0 30;";
        for (int n = 5; n < 13; n++) {
            faulty(line.substring(0, n), 2, n);
        }
        faulty("plain 1;bride 2 ", 2, 16);
        faulty("plain   ", 2, 8);
        lived.emptied("plain 1;cover 5", -25, 2);
    }

    private static void faultThree() {
        c.at("FAULT 3: a NUMBER out of its bounds (it, not what is behind)");
        faulty("trip 4 10 10 10;", 3, 5);
        faulty("trip 0 10 10 10;", 3, 7);
        faulty("trip 0 0 0 10!", 3, 11);
        faulty("asked 0 0 31", 3, 10);
        faulty("plain 1;interest 10", 3, 17);
    }

    private static void faultFour() {
        c.at("FAULT 4: interest, cover for the second time (its NAME)");
        c.due("rule(3)", taken("interest 3;cover 4;", 2).rule(3), 3);
        faulty("interest 3;interest 3;", 4, 11);
        faulty("cover 4;cover 4;", 4, 8);
        faulty("interest 1;cover 20; interest 1;", 4, 21);
        faulty("cover 20;interest 1;  cover", 4, 22);
        faulty("interest 1;interest 10;", 4, 11);
        faulty("cover 1;cover !", 4, 8);
        BlushBank x = taken("cover 4;interest 3;", 2);
        Checks.type(x, "cover 5;interest 6;");
        c.due("text(), another text may tell it again", x.text(), 2);
        lived.emptied("cover 4;cover 4;", -18, 4);
        lived.emptied("interest 4;interest 4;", -21, 4);
    }

    private static void faultFive() {
        c.at("FAULT 5: the 5th ONE, the 7th trip, the 7th asked (its NAME)");
        faulty("plain 1;bishop 1;bride 1;widow 1;widow !", 5, 33);
        faulty("plain 1;bishop 1;bride 1;widow 1;wido", 2, 33);
        faulty("trip 0 0 0 0;".repeat(6) + "  trip 4", 5, 80);
        faulty("asked 0 0 0;".repeat(6) + "asked", 5, 72);
        BlushBank x = taken("plain 1;plain 1;plain 1;plain 1;", 4);
        Checks.type(x, "plain 1;");
        c.due("text(), in place of what there was", x.text(), 1);
        c.due("rule(0)", x.rule(0), 1);
    }

    private static void faultSix() {
        c.at("FAULT 6, behind all (the length): a ONE that there is not");
        faulty("trip 0 0 0 0;", 6, 13);
        faulty("asked 0 0 0;", 6, 12);
        faulty("plain 1;trip 1 0 0 0;", 6, 21);
        faulty("plain 1;asked 1 0 0;   ", 6, 23);
        faulty("plain 1;plain 1;plain 1;asked 3 0 0;", 6, 36);
        faulty("trip 1 0 0 0;trip 0 0 0 0;plain 1;", 6, 34);
        taken("plain 1;trip 0 0 0 0;asked 0 0 0;", 3);
        taken("plain 1;plain 1;trip 1 0 0 0;asked 1 0 0;", 4);
        taken("trip 1 0 0 0;asked 1 0 0;plain 1;plain 1;", 4);
        taken("plain 1;plain 1;plain 1;plain 1;trip 3 0 0 0;asked 3 0 0;", 6);
        lived.emptied("plain 1;trip 1 0 0 0;", -31, 6);
        lived.emptied("plain 1;asked 1 0 0;", -30, 6);
    }

    private static void firstFaultMet() {
        c.at("FAULTS, the first met as it is read (a TOKEN is read when the one before has been taken)");
        faulty("foo !", 2, 0);
        faulty("plain foo 100;", 2, 6);
        faulty("trip 4 !", 3, 5);
        faulty("trip 4 100;", 3, 5);
        faulty("trip 100 !", 1, 5);
        faulty("trip 3 ! 10;", 1, 7);
        faulty("cover 1;cover 100;", 4, 8);
        faulty("plain 1;".repeat(4) + "plain 100;", 5, 32);
        faulty("cover 1;cover 1;" + "plain 1;".repeat(5), 4, 8);
        faulty("plain 1;".repeat(5) + "cover 1;cover 1;", 5, 32);
        faulty("trip 0 0 0 0;!", 1, 13);
        faulty("trip 0 0 0 0;plain", 2, 18);
        faulty("trip 0 0 0 0;interest 10;", 3, 22);
        faulty("trip 0 0 0 0;cover 1;cover 1;", 4, 21);
        faulty("trip 0 0 0 0;".repeat(7), 5, 78);
    }

    private static void linesCounted() {
        c.at("text: how many lines");
        taken("plain 1;", 1);
        taken("interest 1;cover 1;", 2);
        taken("plain 1;plain 1;plain 1;plain 1;trip 3 0 0 0;trip 3 0 0 0;asked 3 0 0;cover 1;interest 1;", 9);
        taken("plain 1;".repeat(4) + "asked 0 0 0;".repeat(6) + "trip 0 0 0 0;".repeat(4), 14);
    }

    private static void takenTellsAll() {
        c.at("a text that is taken tells all, in place of what there was; nothing is NOTED; IMAGES are gone");
        BlushBank x = Pasts.lived();
        c.due("count(2)", x.count(2), 3);
        c.due("count(3)", x.count(3), 2);
        c.due("text()", x.text(), 1);
        c.due("rule(0)", x.rule(0), 1);
        c.due("rule(1)", x.rule(1), 0);
        c.due("rule(2)", x.rule(2), 0);
        c.due("one(0, 1)", x.one(0, 1), 7);
        c.due("count(2)", x.count(2), 0);
        c.due("count(3)", x.count(3), 0);
        c.due("count(4)", x.count(4), 0);
        c.due("back(0)", x.back(0), STATE);
        c.due("back(1)", x.back(1), STATE);
        c.due("keep(0)", x.keep(0), 0);
        c.due("count(5), no text tells of sheets", x.count(5), 5);
        c.due("torn()", x.torn(), 2);
        c.due("text() of nothing", x.text(), 0);
        c.due("rule(0)", x.rule(0), 0);
        c.due("back(0)", x.back(0), STATE);
    }

    private static void refusedTellsNothing() {
        c.at("text: -10 less the place of its FAULT: that which was told stays; THE TAPE is empty then");
        lived.emptied("bishop 9;bishop 9;trip 1 9 9 9;asked 1 9 9;interest 9;cover 99;!", -73, 1);
        BlushBank x = Pasts.lived();
        Checks.type(x, "!");
        c.due("count(4)", x.count(4), 9);
        c.due("text()", x.text(), -18);
        c.due("count(4)", x.count(4), 0);
        c.due("feed(32)", x.feed(32), 1);
        c.due("back(1), images stay", x.back(1), 2);
    }

    private static void faultOfLatestText() {
        c.at("fault: the FAULT of the latest text(); 0");
        BlushBank x = new BlushBank();
        c.due("fault() at first", x.fault(), 0);
        String[] texts = {"!", "x", "interest 10;", "cover 1;cover 1;", "plain 1;".repeat(5), "trip 0 0 0 0;"};
        for (int f = 1; f <= 6; f++) {
            Checks.type(x, texts[f - 1]);
            c.due("fault(), not of what is on the tape", x.fault(), f - 1);
            x.text();
            c.due("fault()", x.fault(), f);
            c.due("fault(), once more", x.fault(), f);
        }
        c.due("text() of nothing", x.text(), 0);
        c.due("fault()", x.fault(), 0);
    }

    private static void whatOfRule() {
        c.at("rule: 0 to 6; BAD");
        BlushBank x = Pasts.lived();
        int[] want = {3, 4, 2, 5, 21, 3, 10};
        for (int w = 0; w < 7; w++) {
            c.due("rule(" + w + ")", x.rule(w), want[w]);
        }
        int[] wrong = {-1, 7, MIN, MAX};
        for (int w : wrong) {
            lived.still("rule(" + w + ")", y -> y.rule(w), BAD);
        }
    }

    private static void whatOfOne() {
        c.at("one: 0 to 3; BAD");
        BlushBank x = Pasts.lived();
        int[][] want = {{0, 20, 0, 1}, {1, 8, 54, 0}, {2, 0, 0, 0}};
        for (int p = 0; p < 3; p++) {
            for (int w = 0; w < 4; w++) {
                c.due("one(" + p + ", " + w + ")", x.one(p, w), want[p][w]);
            }
        }
        int[] noOne = {-1, 3, 4, MIN, MAX};
        for (int p : noOne) {
            lived.still("one(" + p + ", 0)", y -> y.one(p, 0), BAD);
        }
        int[] wrong = {-1, 4, MIN, MAX};
        for (int w : wrong) {
            lived.still("one(2, " + w + ")", y -> y.one(2, w), BAD);
        }
    }

    private static void whatOfTrip() {
        c.at("trip: 0 to 5; BAD");
        BlushBank x = Pasts.lived();
        int[][] want = {{0, 0, 5, 4, 0, 9}, {1, 0, 4, 4, 1, 16}, {1, 2, 3, 1, 0, 8}, {2, 8, 2, 2, 1, 4}};
        for (int i = 0; i < 4; i++) {
            for (int w = 0; w < 6; w++) {
                c.due("trip(" + i + ", " + w + ")", x.trip(i, w), want[i][w]);
            }
        }
        int[] none = {-1, 4, 5, 6, MIN, MAX};
        for (int i : none) {
            lived.still("trip(" + i + ", 0)", y -> y.trip(i, 0), BAD);
        }
        int[] wrong = {-1, 6, MIN, MAX};
        for (int w : wrong) {
            lived.still("trip(3, " + w + ")", y -> y.trip(3, w), BAD);
        }
    }

    private static void whatOfAsked() {
        c.at("asked: 0 to 2; BAD");
        BlushBank x = Pasts.lived();
        int[][] want = {{0, 1, 29}, {2, 2, 9}};
        for (int k = 0; k < 2; k++) {
            for (int w = 0; w < 3; w++) {
                c.due("asked(" + k + ", " + w + ")", x.asked(k, w), want[k][w]);
            }
        }
        int[] none = {-1, 2, 6, MIN, MAX};
        for (int k : none) {
            lived.still("asked(" + k + ", 0)", y -> y.asked(k, 0), BAD);
        }
        int[] wrong = {-1, 3, MIN, MAX};
        for (int w : wrong) {
            lived.still("asked(1, " + w + ")", y -> y.asked(1, w), BAD);
        }
    }
}
