/** For each promise: ordinary inputs, the edges that the document names, wrong inputs. */
public final class PromisesTest {
    private static final int BAD = -1, STATE = -2, FULL = -3, NONE = -4;
    private static final int MIN = Integer.MIN_VALUE, MAX = Integer.MAX_VALUE;
    private static final String PARISH = "plain 20;bishop 3;bride 0;trip 0 0 5 4;trip 1 0 4 4;trip 1 2 3 1;"
        + "asked 0 1 25;asked 1 1 12;asked 2 2 9;asked 1 3 20;cover 15;interest 5;";
    private static final Checks c = new Checks();

    public static void main(String[] args) {
        p01(); p02(); p03(); p04(); p05(); p06(); p07(); p08(); p09(); p10();
        p11(); p12(); p13(); p14(); p15(); p16(); p16weeks(); p17(); p18(); p19(); p20();
        p21(); p22(); p23(); p24(); p25(); p26(); p27(); p28(); p29(); p30();
        p31(); p32(); p33(); p34(); p35(); p36(); p37(); p38(); p39(); p40();
        c.finish();
    }

    private static void p01() {
        c.at("promise 1, a new object");
        BlushBank x = new BlushBank();
        int[] rules = {0, 0, 0, 1, 20, 0, 0};
        for (int w = 0; w < rules.length; w++) {
            c.due("rule(" + w + ")", x.rule(w), rules[w]);
        }
        c.due("one(0, 0)", x.one(0, 0), BAD);
        c.due("trip(0, 0)", x.trip(0, 0), BAD);
        c.due("asked(0, 0)", x.asked(0, 0), BAD);
        c.due("fault()", x.fault(), 0);
        c.due("torn()", x.torn(), 0);
        for (int k = 0; k < 4; k++) {
            c.due("lay(" + k + ", 0, 0)", x.lay(k, 0, 0), -11);
        }
        c.due("back(0)", x.back(0), STATE);
        c.due("back(1)", x.back(1), STATE);
        c.due("go(1)", x.go(1), 0);
        c.due("rule(4)", x.rule(4), 21);
        c.due("BAD", BlushBank.BAD, BAD);
        c.due("STATE", BlushBank.STATE, STATE);
        c.due("FULL", BlushBank.FULL, FULL);
        c.due("NONE", BlushBank.NONE, NONE);
    }

    private static void p02() {
        c.at("promise 2, feed");
        BlushBank x = new BlushBank();
        c.due("feed(-1)", x.feed(-1), BAD);
        c.due("feed(128)", x.feed(128), BAD);
        c.due("feed(MIN)", x.feed(MIN), BAD);
        c.due("feed(0)", x.feed(0), 1);
        c.due("feed(127)", x.feed(127), 2);
        for (int n = 3; n <= 160; n++) {
            c.due("feed(32)", x.feed(32), n);
        }
        c.due("feed(32)", x.feed(32), FULL);
        c.due("feed(128)", x.feed(128), BAD);
        c.due("count(4)", x.count(4), 160);
    }

    private static void p03() {
        c.at("promise 3, end");
        BlushBank x = new BlushBank();
        c.due("end(0)", x.end(0), 0);
        c.due("end(1)", x.end(1), BAD);
        Checks.type(x, "plain 5;!!");
        c.due("end(-1)", x.end(-1), BAD);
        c.due("end(11)", x.end(11), BAD);
        c.due("end(10)", x.end(10), 10);
        c.due("end(8)", x.end(8), 10);
        c.due("count(4)", x.count(4), 8);
        c.due("text()", x.text(), 1);
        Checks.type(x, "abc");
        c.due("end(0)", x.end(0), 3);
        c.due("count(4)", x.count(4), 0);
    }

    private static void p04() {
        c.at("promise 4, text");
        BlushBank x = Checks.told(PARISH);
        c.due("count(4)", x.count(4), 0);
        x.go(1);
        x.deposit(2, true);
        x.note(0, 5, true);
        x.keep(0);
        x.sheet(0, 1, 7);
        Checks.type(x, "plain 5;plain");
        c.due("text() of a fault", x.text(), -23);
        c.due("count(4)", x.count(4), 0);
        c.due("rule(0)", x.rule(0), 3);
        c.due("rule(5)", x.rule(5), 1);
        c.due("rule(6)", x.rule(6), 4);
        c.due("one(0, 1)", x.one(0, 1), 26);
        c.due("count(2)", x.count(2), 1);
        c.due("count(3)", x.count(3), 1);
        Checks.type(x, "  widow07 ;trip 0 3 4 5 ; asked 0 3 30;   ");
        c.due("text()", x.text(), 3);
        c.due("rule(0)", x.rule(0), 1);
        c.due("one(0, 0)", x.one(0, 0), 3);
        c.due("one(0, 1)", x.one(0, 1), 7);
        c.due("one(0, 2)", x.one(0, 2), 0);
        c.due("rule(1)", x.rule(1), 1);
        c.due("rule(2)", x.rule(2), 1);
        c.due("rule(3)", x.rule(3), 1);
        c.due("rule(4)", x.rule(4), 20);
        c.due("rule(5)", x.rule(5), 0);
        c.due("rule(6)", x.rule(6), 0);
        c.due("count(2)", x.count(2), 0);
        c.due("count(3)", x.count(3), 0);
        c.due("count(5)", x.count(5), 7);
        c.due("back(0)", x.back(0), STATE);
        c.due("text() of nothing", x.text(), 0);
        c.due("rule(0)", x.rule(0), 0);
        Checks.type(x, "trip 0 1 2 3;plain 4;");
        c.due("text(), the one comes behind", x.text(), 2);
        Checks.type(x, "plain 99;cover 99;interest 9;trip 0 9 9 9;asked 0 9 30;");
        c.due("text() of the greatest", x.text(), 5);
        Checks.type(x, "plain 0;cover 0;interest 0;trip 0 0 0 0;asked 0 0 0;");
        c.due("text() of the least", x.text(), 5);
        c.due("rule(3)", x.rule(3), 0);
        c.due("rule(4)", x.rule(4), 0);
        clearsBrazen();
    }

    private static void clearsBrazen() {
        BlushBank x = Checks.told("plain 0;asked 0 0 5;trip 0 0 9 9;");
        x.deposit(0, true);
        x.law(1, 0);
        x.go(1);
        c.due("one(0, 3)", x.one(0, 3), 1);
        c.due("one(0, 2)", x.one(0, 2), 19);
        Checks.type(x, "plain 1;");
        x.text();
        c.due("one(0, 3)", x.one(0, 3), 0);
        c.due("one(0, 2)", x.one(0, 2), 0);
    }

    private static void faulty(String text, int fault, int place) {
        BlushBank x = new BlushBank();
        Checks.type(x, text);
        c.due("text() of \"" + text + "\"", x.text(), -10 - place);
        c.due("fault() of \"" + text + "\"", x.fault(), fault);
    }

    private static void p05() {
        c.at("promise 5, fault");
        faulty("!", 1, 0);
        faulty("plain 5;A", 1, 8);
        faulty("plain 5;z", 2, 8);
        faulty("plain 5;a", 2, 8);
        faulty("plain 5;{", 1, 8);
        faulty("plain 5;`", 1, 8);
        faulty("plain 5;/", 1, 8);
        faulty("plain 5;:", 1, 8);
        faulty("plain\t5;", 1, 5);
        faulty("plain 5,", 1, 7);
        faulty("plain 100;", 1, 6);
        faulty("plain 5 123;", 1, 8);
        faulty("123", 1, 0);
        faulty("interest 0001;", 1, 9);
        faulty("plain", 2, 5);
        faulty("plain 5", 2, 7);
        faulty("plain 5   ", 2, 10);
        faulty("  5;", 2, 2);
        faulty(";", 2, 0);
        faulty("plains 5;", 2, 0);
        faulty("plai 5;", 2, 0);
        faulty("plaintrip 5;", 2, 0);
        faulty("plain x;", 2, 6);
        faulty("plain;", 2, 5);
        faulty("plain 5 6;", 2, 8);
        faulty("plain 5 ; ;", 2, 10);
        faulty("trip 0 0 0;", 2, 10);
        faulty("trip 0 0 0 0 0;", 2, 13);
        faulty("asked 0 0;", 2, 9);
        faulty("asked 0 0 0 0;", 2, 12);
        faulty("trip 4 0 0 0;", 3, 5);
        faulty("trip 0 10 0 0;", 3, 7);
        faulty("trip 0 0 10 0;", 3, 9);
        faulty("trip 0 0 0 10;", 3, 11);
        faulty("trip 4 !", 3, 5);
        faulty("asked 4 0 0;", 3, 6);
        faulty("asked 0 10 0;", 3, 8);
        faulty("asked 0 0 31;", 3, 10);
        faulty("interest 10;", 3, 9);
        faulty("interest 1;interest 10;", 4, 11);
        faulty("cover 1;plain 1;cover !", 4, 16);
        faulty("plain 1;bishop 1;bride 1;widow 1; plain", 5, 34);
        faulty("trip 0 0 0 0;".repeat(6) + "trip", 5, 78);
        faulty("asked 0 0 0;".repeat(6) + " asked", 5, 73);
        faulty("trip 0 0 0 0;", 6, 13);
        faulty("plain 5;asked 1 0 0; ", 6, 21);
        faulty("plain 5;asked 1 0 0;!", 1, 20);
        BlushBank x = new BlushBank();
        c.due("fault() at first", x.fault(), 0);
        Checks.type(x, "!");
        x.text();
        x.feed(33);
        c.due("fault() is the latest text's", x.fault(), 1);
        x.end(0);
        x.text();
        c.due("fault() of a text that is taken", x.fault(), 0);
    }

    private static void p06() {
        c.at("promise 6, rule");
        BlushBank x = Checks.told(PARISH);
        x.deposit(0, true);
        x.deposit(2, true);
        int[] rules = {3, 3, 4, 5, 15, 0, 5};
        for (int w = 0; w < rules.length; w++) {
            c.due("rule(" + w + ")", x.rule(w), rules[w]);
        }
        c.due("rule(-1)", x.rule(-1), BAD);
        c.due("rule(7)", x.rule(7), BAD);
        x.go(3);
        c.due("rule(5)", x.rule(5), 3);
    }

    private static void p07() {
        c.at("promise 7, one");
        BlushBank x = Checks.told(PARISH + "widow 99;");
        int[] kinds = {0, 1, 2, 3};
        int[] hands = {20, 3, 0, 99};
        for (int p = 0; p < 4; p++) {
            c.due("one(" + p + ", 0)", x.one(p, 0), kinds[p]);
            c.due("one(" + p + ", 1)", x.one(p, 1), hands[p]);
            c.due("one(" + p + ", 2)", x.one(p, 2), 0);
            c.due("one(" + p + ", 3)", x.one(p, 3), 0);
        }
        x.deposit(1, true);
        x.go(4);
        c.due("one(1, 2)", x.one(1, 2), 46);
        c.due("one(1, 3)", x.one(1, 3), 1);
        c.due("one(2, 3)", x.one(2, 3), 1);
        c.due("one(0, 3)", x.one(0, 3), 0);
        c.due("one(4, 0)", x.one(4, 0), BAD);
        c.due("one(-1, 0)", x.one(-1, 0), BAD);
        c.due("one(0, 4)", x.one(0, 4), BAD);
        c.due("one(0, -1)", x.one(0, -1), BAD);
    }

    private static void p08() {
        c.at("promise 8, trip");
        BlushBank x = Checks.told("plain 0;bishop 0;bride 0;widow 0;"
            + "trip 3 1 2 3;trip 1 4 5 6;trip 2 7 8 9;trip 0 0 9 9;");
        int[][] want = {{3, 1, 2, 3, 0, 2}, {1, 4, 5, 6, 0, 22}, {2, 7, 8, 9, 0, 17}, {0, 0, 9, 9, 0, 18}};
        for (int i = 0; i < 4; i++) {
            for (int w = 0; w < 6; w++) {
                c.due("trip(" + i + ", " + w + ")", x.trip(i, w), want[i][w]);
            }
        }
        x.deposit(1, true);
        c.due("trip(1, 4)", x.trip(1, 4), 1);
        c.due("trip(0, 4)", x.trip(0, 4), 0);
        c.due("trip(4, 0)", x.trip(4, 0), BAD);
        c.due("trip(-1, 0)", x.trip(-1, 0), BAD);
        c.due("trip(0, 6)", x.trip(0, 6), BAD);
        c.due("trip(0, -1)", x.trip(0, -1), BAD);
    }

    private static void p09() {
        c.at("promise 9, asked");
        BlushBank x = Checks.told("plain 0;bishop 0;asked 1 2 30;asked 0 9 0;");
        int[][] want = {{1, 2, 30}, {0, 9, 0}};
        for (int k = 0; k < 2; k++) {
            for (int w = 0; w < 3; w++) {
                c.due("asked(" + k + ", " + w + ")", x.asked(k, w), want[k][w]);
            }
        }
        c.due("asked(2, 0)", x.asked(2, 0), BAD);
        c.due("asked(-1, 0)", x.asked(-1, 0), BAD);
        c.due("asked(0, 3)", x.asked(0, 3), BAD);
        c.due("asked(0, -1)", x.asked(0, -1), BAD);
    }

    private static void p10() {
        c.at("promise 10, deposit");
        BlushBank x = Checks.told(PARISH);
        c.due("deposit(0, true)", x.deposit(0, true), 0);
        c.due("deposit(0, true)", x.deposit(0, true), 1);
        c.due("deposit(2, true)", x.deposit(2, true), 0);
        c.due("rule(6)", x.rule(6), 5);
        c.due("deposit(0, false)", x.deposit(0, false), 1);
        c.due("deposit(0, false)", x.deposit(0, false), 0);
        c.due("rule(6)", x.rule(6), 4);
        c.due("deposit(3, true)", x.deposit(3, true), BAD);
        c.due("deposit(-1, true)", x.deposit(-1, true), BAD);
        x.go(2);
        c.due("deposit(1, true)", x.deposit(1, true), STATE);
        c.due("deposit(2, false), of this week", x.deposit(2, false), 1);
        c.due("rule(6)", x.rule(6), 0);
        x.go(1);
        c.due("deposit(2, true)", x.deposit(2, true), STATE);
        c.due("deposit(3, true)", x.deposit(3, true), BAD);
    }

    private static void p11() {
        c.at("promise 11, give");
        BlushBank x = Checks.told("plain 99;bishop 99;bride 0;");
        c.due("give(0, 1, 9)", x.give(0, 1, 9), 90);
        c.due("one(1, 1)", x.one(1, 1), 108);
        c.due("give(0, 2, 90)", x.give(0, 2, 90), 0);
        c.due("give(0, 2, 1)", x.give(0, 2, 1), STATE);
        c.due("give(0, 2, 0)", x.give(0, 2, 0), 0);
        c.due("give(1, 1, 1)", x.give(1, 1, 1), BAD);
        c.due("give(1, 3, 1)", x.give(1, 3, 1), BAD);
        c.due("give(3, 1, 1)", x.give(3, 1, 1), BAD);
        c.due("give(-1, 1, 1)", x.give(-1, 1, 1), BAD);
        c.due("give(1, -1, 1)", x.give(1, -1, 1), BAD);
        c.due("give(1, 0, 100)", x.give(1, 0, 100), BAD);
        c.due("give(1, 0, -1)", x.give(1, 0, -1), BAD);
        c.due("one(1, 1)", x.one(1, 1), 108);
        BlushBank rich = rich();
        c.due("give(0, 1, 99)", rich.give(0, 1, 99), 0);
        c.due("one(1, 1)", rich.one(1, 1), 990);
        rich.draw(0, 99);
        c.due("give(0, 1, 10), more than 999", rich.give(0, 1, 10), FULL);
        c.due("one(0, 1)", rich.one(0, 1), 99);
        c.due("give(0, 1, 9)", rich.give(0, 1, 9), 90);
        c.due("one(1, 1)", rich.one(1, 1), 999);
        c.due("give(0, 1, 91), he has not so much", rich.give(0, 1, 91), STATE);
        c.due("give(0, 1, 1)", rich.give(0, 1, 1), FULL);
    }

    /** Both have 999 at the bank of which one 1 has drawn 891, one 0 has drawn 99: cover is 99. */
    private static BlushBank rich() {
        BlushBank x = Checks.told("bishop 0;bishop 0;trip 0 0 9 9;trip 1 0 9 9;interest 9;cover 99;");
        x.deposit(0, true);
        x.deposit(1, true);
        x.go(7);
        x.draw(0, 99);
        for (int i = 0; i < 9; i++) {
            x.law(1, 99);
            x.draw(1, 99);
        }
        x.law(1, 99);
        return x;
    }

    private static void p12() {
        c.at("promise 12, draw");
        BlushBank x = Checks.told("plain 0;bride 0;trip 0 0 9 9;trip 1 0 9 9;interest 0;");
        x.deposit(0, true);
        x.deposit(1, true);
        x.go(1);
        c.due("draw(0, 19)", x.draw(0, 19), STATE);
        c.due("draw(0, 10)", x.draw(0, 10), 11);
        c.due("one(0, 1)", x.one(0, 1), 10);
        c.due("one(0, 2)", x.one(0, 2), 8);
        c.due("rule(4)", x.rule(4), 11);
        c.due("draw(1, 12), cover has it not", x.draw(1, 12), STATE);
        c.due("draw(1, 11)", x.draw(1, 11), 0);
        c.due("draw(1, 0)", x.draw(1, 0), 0);
        c.due("draw(1, 1), a bride too", x.draw(1, 1), STATE);
        c.due("draw(2, 1)", x.draw(2, 1), BAD);
        c.due("draw(-1, 1)", x.draw(-1, 1), BAD);
        c.due("draw(0, -1)", x.draw(0, -1), BAD);
        c.due("draw(0, 100)", x.draw(0, 100), BAD);
        c.due("one(1, 1)", x.one(1, 1), 11);
        BlushBank rich = rich();
        rich.give(0, 1, 99);
        c.due("draw(1, 10), more than 999", rich.draw(1, 10), FULL);
        c.due("rule(4)", rich.rule(4), 99);
        c.due("draw(1, 9)", rich.draw(1, 9), 90);
        c.due("one(1, 1)", rich.one(1, 1), 999);
        c.due("one(1, 2)", rich.one(1, 2), 99);
        c.due("draw(1, 95), cover has it not", rich.draw(1, 95), STATE);
        rich.law(0, 0);
        c.due("ahead(1, 1, 0), a tenth up", rich.ahead(1, 1, 0), 899);
    }

    private static void p13() {
        c.at("promise 13, rumour");
        BlushBank x = Checks.told("plain 0;plain 0;trip 0 0 1 1;trip 0 1 1 9;trip 0 1 1 2;trip 1 1 1 3;trip 0 9 1 8;");
        x.go(1);
        c.due("rumour(0)", x.rumour(0), 2);
        int[] seen = {1, 9, 9, 3, 9};
        for (int i = 0; i < 5; i++) {
            c.due("trip(" + i + ", 3)", x.trip(i, 3), seen[i]);
        }
        c.due("trip(2, 5)", x.trip(2, 5), 10);
        c.due("rumour(0)", x.rumour(0), 0);
        c.due("rumour(1)", x.rumour(1), 1);
        c.due("rumour(2)", x.rumour(2), BAD);
        c.due("rumour(-1)", x.rumour(-1), BAD);
    }

    private static void p14() {
        c.at("promise 14, law");
        BlushBank x = Checks.told(PARISH);
        c.due("law(0, 9)", x.law(0, 9), 5);
        c.due("law(0, 0)", x.law(0, 0), 9);
        c.due("rule(3)", x.rule(3), 0);
        c.due("law(1, 99)", x.law(1, 99), 15);
        c.due("law(1, 0)", x.law(1, 0), 99);
        c.due("rule(4)", x.rule(4), 0);
        c.due("law(0, 10)", x.law(0, 10), BAD);
        c.due("law(0, -1)", x.law(0, -1), BAD);
        c.due("law(1, 100)", x.law(1, 100), BAD);
        c.due("law(1, -1)", x.law(1, -1), BAD);
        c.due("law(2, 1)", x.law(2, 1), BAD);
        c.due("law(-1, 1)", x.law(-1, 1), BAD);
    }

    private static void p15() {
        c.at("promise 15, teach");
        BlushBank x = Checks.told("plain 0;trip 0 1 4 5;asked 0 0 7;");
        c.due("teach(0, 1)", x.teach(0, 1), 0);
        c.due("trip(0, 5) of a bishop", x.trip(0, 5), 18);
        c.due("plan(0) of a bishop", x.plan(0), 1);
        c.due("teach(0, 3)", x.teach(0, 3), 1);
        c.due("trip(0, 5) of a widow", x.trip(0, 5), 4);
        c.due("teach(0, 2)", x.teach(0, 2), 3);
        c.due("trip(0, 5) of a bride", x.trip(0, 5), 9);
        c.due("plan(0) of a bride", x.plan(0), 0);
        c.due("teach(0, 0)", x.teach(0, 0), 2);
        c.due("teach(0, 4)", x.teach(0, 4), BAD);
        c.due("teach(0, -1)", x.teach(0, -1), BAD);
        c.due("teach(1, 0)", x.teach(1, 0), BAD);
        c.due("teach(-1, 0)", x.teach(-1, 0), BAD);
        c.due("one(0, 0)", x.one(0, 0), 0);
    }

    private static void p16() {
        c.at("promise 16, go");
        BlushBank x = Checks.told(PARISH);
        x.deposit(1, true);
        c.due("go(-1)", x.go(-1), BAD);
        c.due("go(21)", x.go(21), BAD);
        c.due("go(0)", x.go(0), 0);
        c.due("rule(5)", x.rule(5), 0);
        c.due("go(3)", x.go(3), 1);
        c.due("go(20)", x.go(20), 1);
        c.due("rule(5)", x.rule(5), 23);
        for (int i = 0; i < 3; i++) {
            x.go(20);
        }
        c.due("go(17)", x.go(17), FULL);
        c.due("rule(5)", x.rule(5), 83);
        c.due("go(16)", x.go(16), 0);
        c.due("go(1)", x.go(1), FULL);
        c.due("go(21)", x.go(21), BAD);
        c.due("go(0)", x.go(0), 0);
        c.due("rule(5)", x.rule(5), 99);
        c.due("rule(4)", x.rule(4), 99);
    }

    private static void p16weeks() {
        c.at("a week");
        BlushBank x = Checks.told("plain 5;plain 11;asked 0 0 5;asked 0 0 1;asked 0 0 2;asked 1 0 0;");
        c.due("go(1), twice in one week", x.go(1), 2);
        c.due("one(0, 3)", x.one(0, 3), 2);
        c.due("one(0, 1)", x.one(0, 1), 0);
        c.due("one(1, 1), a tenth up", x.one(1, 1), 9);
        c.due("rule(4)", x.rule(4), 21);
        x = Checks.told("bride 3;trip 0 0 2 2;asked 0 0 13;cover 9;");
        x.deposit(0, true);
        c.due("go(1) of a bride, not enough", x.plan(1) * 10 + x.go(1), 11);
        c.due("one(0, 1)", x.one(0, 1), 2);
        c.due("one(0, 2), nothing was given", x.one(0, 2), 4);
        c.due("rule(4)", x.rule(4), 10);
        x = Checks.told("bride 3;trip 0 0 2 2;asked 0 0 12;cover 9;");
        x.deposit(0, true);
        c.due("go(1) of a bride, just enough", x.go(1), 0);
        c.due("one(0, 1)", x.one(0, 1), 0);
        c.due("one(0, 2)", x.one(0, 2), 0);
        c.due("rule(4)", x.rule(4), 1);
        x = Checks.told("plain 3;trip 0 0 2 2;asked 0 0 8;cover 9;");
        x.deposit(0, true);
        c.due("go(1), no bride", x.go(1), 1);
        c.due("one(0, 2)", x.one(0, 2), 4);
        x = Checks.told("widow 1;trip 0 0 9 9;asked 0 0 3;cover 2;interest 5;");
        x.deposit(0, true);
        c.due("go(1), hand first, then the bank", x.go(1), 0);
        c.due("one(0, 2), grows by tenths down", x.one(0, 2), 10);
        c.due("rule(4)", x.rule(4), 1);
        x = Checks.told("bishop 0;trip 0 0 9 9;interest 9;cover 99;");
        x.deposit(0, true);
        x.go(7);
        c.due("one(0, 2), 999 at most", x.one(0, 2), 999);
        c.due("rule(4), 99 at most", x.rule(4), 99);
    }

    private static void p17() {
        c.at("promise 17, ahead");
        BlushBank x = Checks.told(PARISH);
        x.deposit(1, true);
        c.due("ahead(0, 0, 0)", x.ahead(0, 0, 0), 20);
        c.due("ahead(0, 1, 0)", x.ahead(0, 1, 0), 26);
        c.due("ahead(1, 1, 1)", x.ahead(1, 1, 1), 24);
        c.due("ahead(1, 2, 1)", x.ahead(1, 2, 1), 21);
        c.due("ahead(1, 4, 2)", x.ahead(1, 4, 2), 1);
        c.due("ahead(0, 20, 3)", x.ahead(0, 20, 3), 25);
        c.due("rule(5)", x.rule(5), 0);
        x.go(4);
        c.due("ahead(1, 4, 2), in these weeks alone", x.ahead(1, 4, 2), 0);
        c.due("ahead(3, 1, 0)", x.ahead(3, 1, 0), BAD);
        c.due("ahead(-1, 1, 0)", x.ahead(-1, 1, 0), BAD);
        c.due("ahead(0, 21, 0)", x.ahead(0, 21, 0), BAD);
        c.due("ahead(0, -1, 0)", x.ahead(0, -1, 0), BAD);
        c.due("ahead(0, 1, 4)", x.ahead(0, 1, 4), BAD);
        c.due("ahead(0, 1, -1)", x.ahead(0, 1, -1), BAD);
        for (int i = 0; i < 4; i++) {
            x.go(20);
        }
        x.go(15);
        c.due("ahead(0, 20, 2) from week 99", x.ahead(0, 20, 2), 0);
    }

    private static void p18() {
        c.at("promise 18, first");
        BlushBank x = Checks.told(PARISH);
        x.deposit(1, true);
        c.due("first(0)", x.first(0), NONE);
        c.due("first(1)", x.first(1), 3);
        c.due("first(2)", x.first(2), 2);
        x.go(2);
        c.due("first(1)", x.first(1), 3);
        c.due("first(2), this week", x.first(2), 2);
        x.go(1);
        c.due("first(2)", x.first(2), NONE);
        c.due("first(3)", x.first(3), BAD);
        c.due("first(-1)", x.first(-1), BAD);
    }

    private static void p19() {
        c.at("promise 19, modest");
        BlushBank x = Checks.told(PARISH);
        x.deposit(1, true);
        c.due("modest()", x.modest(), 8);
        x.go(3);
        c.due("modest()", x.modest(), 9);
        x.go(1);
        c.due("modest()", x.modest(), 10);
        c.due("modest() of nobody", new BlushBank().modest(), 10);
        c.due("modest(), the tenth too", Checks.told("plain 0;asked 0 9 1;").modest(), 9);
        c.due("modest(), twice in one", Checks.told("plain 0;asked 0 9 1;asked 0 9 1;").modest(), 9);
    }

    private static void p20() {
        c.at("promise 20, plan");
        BlushBank x = Checks.told(PARISH);
        c.due("plan(0)", x.plan(0), 1);
        c.due("plan(2)", x.plan(2), 2);
        c.due("plan(8)", x.plan(8), BAD);
        c.due("plan(-1)", x.plan(-1), BAD);
        c.due("rule(6)", x.rule(6), 0);
        x.deposit(1, true);
        x.go(1);
        c.due("plan(0)", x.plan(0), STATE);
        c.due("plan(3)", x.plan(3), STATE);
        c.due("plan(2)", x.plan(2), 2);
        c.due("plan(6)", x.plan(6), 2);
        c.due("plan(8)", x.plan(8), BAD);
        c.due("plan(0), week 9 too", Checks.told("plain 0;asked 0 9 1;").plan(0), 1);
        c.due("plan(0) of nobody", new BlushBank().plan(0), 0);
        c.due("plan(1) of nobody", new BlushBank().plan(1), BAD);
        x.go(9);
        c.due("plan(2), behind week 9", x.plan(2), 0);
    }

    private static void p21() {
        c.at("promise 21, best");
        BlushBank x = Checks.told(PARISH);
        c.due("best(0)", x.best(0), 0);
        c.due("best(1)", x.best(1), 1);
        x.deposit(1, true);
        x.go(1);
        c.due("best(0), what is behind is as it is", x.best(0), 2);
        c.due("best(1)", x.best(1), 2);
        c.due("best(2)", x.best(2), BAD);
        c.due("best(-1)", x.best(-1), BAD);
        // Both in hand fade to 10; one of the two at the bank is 10 still, beside 5 of the other one.
        x = Checks.told("plain 0;trip 0 0 5 5;trip 0 0 5 5;asked 0 5 11;interest 0;");
        c.due("best(0), the least by bits", x.best(0), 1);
        c.due("best(1)", x.best(1), 0);
        x.deposit(1, true);
        c.due("best(0), another of as many is deposited", x.best(0), 1);
        x = Checks.told("plain 0;trip 0 0 5 4;trip 0 0 1 1;trip 0 0 5 6;asked 0 9 12;interest 0;");
        c.due("best(0), fewest ahead of bits", x.best(0), 4);
        x.deposit(0, true);
        c.due("best(0) asks not what is deposited", x.best(0), 4);
        c.due("rule(6)", x.rule(6), 1);
        c.due("best(0) of nobody", new BlushBank().best(0), 0);
        c.due("best(1) of nobody", new BlushBank().best(1), 0);
    }

    private static void p22() {
        c.at("promise 22, save");
        BlushBank x = Checks.told(PARISH);
        c.due("save(0)", x.save(0), 0);
        c.due("save(1)", x.save(1), NONE);
        c.due("save(2)", x.save(2), 0);
        c.due("save(3)", x.save(3), BAD);
        c.due("save(-1)", x.save(-1), BAD);
        x.deposit(1, true);
        x.go(1);
        c.due("save(1)", x.save(1), NONE);
        c.due("save(0), what is behind is as it is", x.save(0), 2);
        x = Checks.told("plain 0;trip 0 0 5 4;trip 0 0 1 1;trip 0 0 5 6;asked 0 9 12;interest 0;");
        c.due("save(0), fewest ahead of bits", x.save(0), 4);
        x = Checks.told("plain 0;trip 0 0 5 5;trip 0 0 5 5;asked 0 5 20;interest 0;");
        c.due("save(0), all of them", x.save(0), 3);
        x = Checks.told("plain 0;asked 0 0 1;trip 0 1 5 5;asked 0 5 10;");
        c.due("save(0)", x.save(0), NONE);
        x.go(1);
        c.due("save(0), from now on", x.save(0), 1);
    }

    /** At the bank: 10, 18, 0, 7. */
    private static BlushBank four() {
        BlushBank x = Checks.told("plain 0;plain 0;plain 0;plain 0;"
            + "trip 0 0 5 5;trip 1 0 9 9;trip 3 0 3 4;interest 0;");
        for (int i = 0; i < 3; i++) {
            x.deposit(i, true);
        }
        x.go(1);
        return x;
    }

    private static void p23() {
        c.at("promise 23, run");
        BlushBank x = four();
        x.law(1, 19);
        c.due("run(0)", x.run(0), 18);
        c.due("run(1)", x.run(1), 2);
        c.due("run(2)", x.run(2), 13);
        x.law(1, 9);
        c.due("run(0)", x.run(0), 28);
        c.due("run(1)", x.run(1), 2);
        c.due("run(2)", x.run(2), 12);
        x.law(1, 35);
        c.due("run(0)", x.run(0), 0);
        c.due("run(1)", x.run(1), 0);
        c.due("run(2)", x.run(2), 15);
        c.due("run(3)", x.run(3), BAD);
        c.due("run(-1)", x.run(-1), BAD);
        c.due("one(0, 2)", x.one(0, 2), 10);
        c.due("rule(4)", x.rule(4), 35);
        c.due("run(2) of nobody", new BlushBank().run(2), 0);
    }

    private static void p24() {
        c.at("promise 24, holds");
        BlushBank x = four();
        x.law(1, 0);
        c.due("holds()", x.holds(), 35);
        c.due("rule(4)", x.rule(4), 0);
        c.due("holds() of nobody", new BlushBank().holds(), 0);
        BlushBank bishops = Checks.told("bishop 0;bishop 0;bishop 0;trip 0 0 9 9;trip 1 0 9 9;trip 2 0 9 9;interest 0;");
        for (int i = 0; i < 3; i++) {
            bishops.deposit(i, true);
        }
        bishops.go(1);
        c.due("holds() of 108", bishops.holds(), NONE);
        bishops.draw(0, 9);
        c.due("holds() of 99", bishops.holds(), 99);
    }

    private static void p25() {
        c.at("promise 25, cover");
        BlushBank x = Checks.told("bride 0;asked 0 0 7;asked 0 2 9;cover 3;");
        c.due("cover(0)", x.cover(0), 0);
        c.due("cover(1)", x.cover(1), 7);
        c.due("cover(2)", x.cover(2), 7);
        c.due("cover(3)", x.cover(3), 14);
        c.due("cover(20)", x.cover(20), 14);
        c.due("cover(21)", x.cover(21), BAD);
        c.due("cover(-1)", x.cover(-1), BAD);
        c.due("rule(4)", x.rule(4), 3);
        c.due("cover(1) of one who has nothing there", Checks.told("plain 0;asked 0 0 1;").cover(1), NONE);
        c.due("cover(9)", Checks.told("plain 0;asked 0 9 1;").cover(9), 0);
        c.due("cover(10)", Checks.told("plain 0;asked 0 9 1;").cover(10), NONE);
        x.go(5);
        c.due("cover(20), from now on", x.cover(20), 0);
        c.due("cover(1) of 99", Checks.told("bride 0;asked 0 0 30;asked 0 0 30;asked 0 0 30;asked 0 0 9;").cover(1), 99);
        c.due("cover(1) of 100", Checks.told("bride 0;asked 0 0 30;asked 0 0 30;asked 0 0 30;asked 0 0 10;").cover(1), NONE);
    }

    private static void p26() {
        c.at("promise 26, rate");
        // 10 at the bank: behind two weeks 14 want 2 tenths (12, 14), 15 want 3 (13, 16).
        BlushBank x = Checks.told("plain 0;trip 0 0 5 5;asked 0 2 14;cover 50;");
        x.deposit(0, true);
        c.due("rate(2)", x.rate(2), 0);
        c.due("rate(3)", x.rate(3), 2);
        c.due("rate(20)", x.rate(20), 2);
        c.due("rate(21)", x.rate(21), BAD);
        c.due("rate(-1)", x.rate(-1), BAD);
        c.due("rule(3)", x.rule(3), 1);
        x = Checks.told("plain 0;trip 0 0 5 5;asked 0 2 15;cover 50;");
        x.deposit(0, true);
        c.due("rate(3)", x.rate(3), 3);
        x.law(1, 12);
        c.due("rate(3), cover has it not", x.rate(3), NONE);
        x = Checks.told("plain 0;trip 0 0 5 5;asked 0 1 19;cover 50;");
        x.deposit(0, true);
        c.due("rate(2) of 9", x.rate(2), 9);
        // 1 at the bank grows by nothing at all.
        x = Checks.told("plain 0;trip 0 0 0 1;asked 0 9 2;");
        x.deposit(0, true);
        c.due("rate(10)", x.rate(10), NONE);
        c.due("rate(9)", x.rate(9), 0);
    }

    private static void p27() {
        c.at("promise 27, gift");
        BlushBank x = Checks.told("plain 0;plain 0;plain 0;asked 0 0 5;asked 1 0 4;asked 1 0 4;asked 2 0 4;asked 2 0 4;");
        c.due("gift(3, 0)", x.gift(3, 0), NONE);
        c.due("gift(3, 1)", x.gift(3, 1), NONE);
        c.due("gift(4, 0)", x.gift(4, 0), 1);
        c.due("gift(4, 1)", x.gift(4, 1), 4);
        c.due("gift(5, 0), of several the first", x.gift(5, 0), 0);
        c.due("gift(8, 0)", x.gift(8, 0), 1);
        c.due("gift(8, 1)", x.gift(8, 1), 3);
        c.due("gift(0, 0)", x.gift(0, 0), NONE);
        c.due("gift(99, 1)", x.gift(99, 1), 3);
        c.due("gift(100, 0)", x.gift(100, 0), BAD);
        c.due("gift(-1, 0)", x.gift(-1, 0), BAD);
        c.due("gift(1, 2)", x.gift(1, 2), BAD);
        c.due("gift(1, -1)", x.gift(1, -1), BAD);
        c.due("count(0)", x.count(0), 0);
        c.due("gift(9, 0) of nobody", new BlushBank().gift(9, 0), NONE);
        c.due("gift(1, 0), week 9 too", Checks.told("plain 0;asked 0 9 1;").gift(20, 0), 0);
        x.go(1);
        c.due("gift(8, 0), from now on", x.gift(8, 0), NONE);
    }

    /**
     * Told of, one 0 has enough to meet his second occasion; but told of, he meets his first, out of cover,
     * which one 1, a bride, wants then.
     */
    private static BlushBank rivals() {
        BlushBank x = Checks.told("plain 0;bride 0;trip 0 0 1 0;asked 0 0 10;asked 1 0 10;cover 10;");
        x.deposit(0, true);
        return x;
    }

    private static void p28() {
        c.at("promise 28, told");
        BlushBank x = rivals();
        c.due("told(0, 0)", x.told(0, 0), 2);
        c.due("told(0, 1)", x.told(0, 1), 1);
        c.due("told(1, 0)", x.told(1, 0), 0);
        c.due("told(1, 1)", x.told(1, 1), 0);
        c.due("trip(0, 3)", x.trip(0, 3), 0);
        c.due("told(2, 0)", x.told(2, 0), BAD);
        c.due("told(-1, 0)", x.told(-1, 0), BAD);
        c.due("told(0, 2)", x.told(0, 2), BAD);
        c.due("told(0, -1)", x.told(0, -1), BAD);
        x.go(1);
        c.due("told(0, 0), behind", x.told(0, 0), 0);
        c.due("told(0, 1), behind", x.told(0, 1), 0);
    }

    private static void p29() {
        c.at("promise 29, whisper");
        BlushBank x = rivals();
        c.due("whisper(0), as often as now", x.whisper(0), NONE);
        c.due("whisper(1)", x.whisper(1), NONE);
        c.due("whisper(2)", x.whisper(2), BAD);
        c.due("whisper(-1)", x.whisper(-1), BAD);
        x = Checks.told("plain 0;plain 0;plain 0;trip 0 0 1 1;trip 1 0 1 1;trip 2 0 1 1;"
            + "asked 0 0 5;asked 1 0 5;asked 1 0 5;asked 2 0 5;asked 2 0 5;");
        c.due("whisper(0), the first of all", Checks.told("plain 0;trip 0 0 1 1;asked 0 0 9;").whisper(0), 0);
        c.due("whisper(0), of several the first", x.whisper(0), 1);
        c.due("whisper(1)", x.whisper(1), 3);
        c.due("trip(1, 3)", x.trip(1, 3), 1);
        x.go(1);
        c.due("whisper(0), behind", x.whisper(0), NONE);
        c.due("whisper(0) of nobody", new BlushBank().whisper(0), NONE);
    }

    private static void p30() {
        c.at("promise 30, note");
        BlushBank x = Checks.told("plain 0;plain 0;");
        c.due("note(0, 0, true)", x.note(0, 0, true), 1);
        c.due("note(1, 9, false)", x.note(1, 9, false), 2);
        c.due("note(2, 0, true)", x.note(2, 0, true), BAD);
        c.due("note(-1, 0, true)", x.note(-1, 0, true), BAD);
        c.due("note(0, 10, true)", x.note(0, 10, true), BAD);
        c.due("note(0, -1, true)", x.note(0, -1, true), BAD);
        x.go(2);
        c.due("note(0, 1, true)", x.note(0, 1, true), STATE);
        c.due("note(0, 2, true)", x.note(0, 2, true), 3);
        c.due("note(0, 2, true), the same once more", x.note(0, 2, true), 4);
        x.note(0, 3, true);
        c.due("note(0, 4, true)", x.note(0, 4, true), 6);
        c.due("note(0, 5, true)", x.note(0, 5, true), FULL);
        c.due("note(0, 1, true)", x.note(0, 1, true), STATE);
        c.due("note(0, 10, true)", x.note(0, 10, true), BAD);
        c.due("count(2)", x.count(2), 6);
    }

    private static void p31() {
        c.at("promise 31, forget");
        BlushBank x = Checks.told("plain 0;asked 0 3 5;");
        c.due("forget(0)", x.forget(0), 0);
        c.due("forget(1)", x.forget(1), BAD);
        x.note(0, 3, true);
        x.note(0, 3, false);
        x.note(0, 4, true);
        c.due("forget(4)", x.forget(4), BAD);
        c.due("forget(-1)", x.forget(-1), BAD);
        c.due("fits(0)", x.fits(0), 0);
        c.due("forget(1), the first stays", x.forget(1), 3);
        c.due("count(2)", x.count(2), 1);
        c.due("fits(0)", x.fits(0), 1);
        c.due("forget(1)", x.forget(1), 1);
    }

    private static void p32() {
        c.at("promise 32, fits");
        // In hand 20 fade to 10 till 11 are asked for; one of the two at the bank, it is 15.
        BlushBank x = Checks.told("plain 0;plain 9;trip 0 0 5 5;trip 1 0 1 1;trip 0 0 5 5;"
            + "asked 0 5 11;asked 1 9 1;interest 0;");
        c.due("fits(0), nothing noted", x.fits(0), 8);
        c.due("fits(1)", x.fits(1), 0);
        c.due("fits(2)", x.fits(2), 0);
        c.due("fits(3)", x.fits(3), 0);
        x.note(0, 5, true);
        c.due("fits(0)", x.fits(0), 2);
        c.due("fits(1)", x.fits(1), 0);
        c.due("fits(2)", x.fits(2), 0);
        c.due("fits(3)", x.fits(3), 5);
        x.forget(0);
        x.note(0, 5, false);
        c.due("fits(0)", x.fits(0), 6);
        c.due("fits(1)", x.fits(1), 1);
        x.note(1, 9, false);
        c.due("fits(0)", x.fits(0), 6);
        x.note(0, 4, true);
        c.due("fits(0), by none", x.fits(0), 0);
        c.due("fits(1)", x.fits(1), NONE);
        c.due("fits(2)", x.fits(2), NONE);
        c.due("fits(3)", x.fits(3), NONE);
        c.due("fits(4)", x.fits(4), BAD);
        c.due("fits(-1)", x.fits(-1), BAD);
        x.deposit(1, true);
        x.go(5);
        x.forget(2);
        c.due("fits(0), nothing to choose any more", x.fits(0), 0);
        x.go(1);
        c.due("fits(0), what is behind counts no more", x.fits(0), 1);
        c.due("fits(1)", x.fits(1), 2);
        c.due("fits(2)", x.fits(2), 2);
        c.due("fits(3)", x.fits(3), 5);
        x.go(20);
        c.due("fits(1), behind week 9", x.fits(1), 2);
        x = Checks.told("plain 0;asked 0 9 1;");
        x.note(0, 9, false);
        c.due("fits(0), week 9 too", x.fits(0), 0);
        c.due("fits(0) of nobody", new BlushBank().fits(0), 1);
    }

    private static void p33() {
        c.at("promise 33, drift");
        c.due("drift(1, 1, 0) of nobody", new BlushBank().drift(1, 1, 0), STATE);
        c.due("drift(1, 0, 0) of nobody", new BlushBank().drift(1, 0, 0), BAD);
        BlushBank x = Checks.told("plain 20;plain 30;plain 0;asked 2 0 4;");
        c.due("drift(1, 0, 0)", x.drift(1, 0, 0), BAD);
        c.due("drift(1, 21, 0)", x.drift(1, 21, 0), BAD);
        c.due("drift(1, 1, 2)", x.drift(1, 1, 2), BAD);
        c.due("drift(1, 1, -1)", x.drift(1, 1, -1), BAD);
        c.due("drift(0, 20, 0)", x.drift(0, 20, 0), 1);
        // 1103527590: bits 16838, of three the one 2, by 8: 8 - 4, fades to 3; 18 and 27.
        c.due("drift(1, 1, 0)", x.drift(1, 1, 0), 0);
        c.due("drift(1, 1, 1)", x.drift(1, 1, 1), 48);
        // 12345: bits 0, the one 0, by 0.
        c.due("drift(0, 1, 0)", x.drift(0, 1, 0), 1);
        c.due("drift(0, 1, 1)", x.drift(0, 1, 1), 45);
        // -1 gives -1103502900, bits 15929: the one 2, by 9.
        c.due("drift(-1, 1, 1)", x.drift(-1, 1, 1), 49);
        c.due("drift(1, 2, 1)", x.drift(1, 2, 1), driftTwo());
        c.due("count(0)", x.count(0), 50);
        c.due("rule(5)", x.rule(5), 0);
    }

    /** Behind drift(1, 1): 18, 27, 3; then by the next seed once more. */
    private static int driftTwo() {
        int seed = (1103515245 + 12345) * 1103515245 + 12345;
        int bits = seed >>> 16 & 0x7FFF;
        int[] hand = {18, 27, 3};
        hand[bits % 3] += bits % 10;
        int sum = 0;
        for (int h : hand) {
            sum += h - (h + 9) / 10;
        }
        return sum;
    }

    private static void p34() {
        c.at("promise 34, keep");
        BlushBank x = Checks.told(PARISH);
        c.due("keep(2)", x.keep(2), BAD);
        c.due("keep(-1)", x.keep(-1), BAD);
        c.due("keep(1)", x.keep(1), 0);
        c.due("count(3)", x.count(3), 1);
        c.due("keep(0)", x.keep(0), 0);
        c.due("keep(1)", x.keep(1), 1);
        c.due("count(3)", x.count(3), 2);
        x.go(1);
        c.due("keep(0), in place of what it was", x.keep(0), 1);
        x.go(1);
        c.due("back(0)", x.back(0), 1);
        c.due("back(1)", x.back(1), 0);
    }

    private static void p35() {
        c.at("promise 35, back");
        BlushBank x = Checks.told(PARISH);
        c.due("back(0)", x.back(0), STATE);
        c.due("back(2)", x.back(2), BAD);
        c.due("back(-1)", x.back(-1), BAD);
        x.deposit(1, true);
        x.go(2);
        x.note(0, 7, true);
        x.keep(1);
        x.go(3);
        x.deposit(2, false);
        x.teach(0, 3);
        x.law(0, 9);
        x.law(1, 77);
        x.note(0, 8, true);
        x.feed(65);
        x.sheet(0, 0, 5);
        c.due("back(0)", x.back(0), STATE);
        c.due("back(1)", x.back(1), 2);
        c.due("one(0, 0)", x.one(0, 0), 0);
        c.due("one(1, 2)", x.one(1, 2), 21);
        c.due("one(1, 3)", x.one(1, 3), 0);
        c.due("rule(3)", x.rule(3), 5);
        c.due("rule(4)", x.rule(4), 7);
        c.due("rule(5)", x.rule(5), 2);
        c.due("rule(6)", x.rule(6), 2);
        c.due("count(2)", x.count(2), 1);
        c.due("count(4)", x.count(4), 1);
        c.due("count(5)", x.count(5), 5);
        x.rumour(1);
        x.deposit(2, true);
        c.due("trip(2, 3)", x.trip(2, 3), 9);
        c.due("back(1)", x.back(1), 2);
        c.due("trip(2, 3)", x.trip(2, 3), 1);
        c.due("trip(2, 4)", x.trip(2, 4), 0);
        c.due("count(3)", x.count(3), 1);
        x = Checks.told("plain 0;plain 0;asked 1 5 1;");
        x.note(1, 5, true);
        x.keep(0);
        x.forget(0);
        x.note(0, 6, true);
        c.due("fits(0)", x.fits(0), 0);
        x.back(0);
        c.due("fits(0), what was noted", x.fits(0), 1);
        x.forget(0);
        x.note(1, 5, false);
        x.keep(0);
        x.forget(0);
        x.note(1, 5, true);
        x.back(0);
        c.due("fits(0), what was noted", x.fits(0), 0);
    }

    private static void p36() {
        c.at("promise 36, sheet");
        BlushBank x = new BlushBank();
        c.due("sheet(0, 0, 40)", x.sheet(0, 0, 40), 1);
        c.due("count(5)", x.count(5), 40);
        x.lay(0, 3, 7);
        c.due("sheet(0, 2, 41)", x.sheet(0, 2, 41), BAD);
        c.due("sheet(0, 2, -1)", x.sheet(0, 2, -1), -14);
        c.due("sheet(0, 2, MIN)", x.sheet(0, 2, MIN), -14);
        c.due("sheet(4, 0, -1)", x.sheet(4, 0, -1), BAD);
        c.due("sheet(-1, 0, 1)", x.sheet(-1, 0, 1), BAD);
        c.due("sheet(0, 3, 1)", x.sheet(0, 3, 1), BAD);
        c.due("sheet(0, -1, -1)", x.sheet(0, -1, -1), BAD);
        c.due("count(5)", x.count(5), 40);
        c.due("sheet(0, 1, 0)", x.sheet(0, 1, 0), 1);
        c.due("count(5)", x.count(5), 0);
        x = banked();
        x.sheet(0, 0, 4);
        x.lay(0, 1, 5);
        x.sheet(0, 0, 4);
        c.due("read(0, 0, 0, 2) of zeros", x.read(0, 0, 0, 2), 2);
        c.due("one(0, 1)", x.one(0, 1), 0);
    }

    private static void p37() {
        c.at("promise 37, lay");
        BlushBank x = banked();
        c.due("lay(3, 0, 1)", x.lay(3, 0, 1), -11);
        c.due("lay(4, 0, 1)", x.lay(4, 0, 1), BAD);
        c.due("lay(-1, 0, 1)", x.lay(-1, 0, 1), BAD);
        x.sheet(3, 0, 2);
        c.due("lay(3, 2, 1)", x.lay(3, 2, 1), -12);
        c.due("lay(3, -1, 1)", x.lay(3, -1, 1), -12);
        c.due("lay(3, MAX, 1)", x.lay(3, MAX, 1), -12);
        c.due("lay(3, 1, 258)", x.lay(3, 1, 258), 1);
        c.due("read(3, 0, 0, 1) takes 2", x.read(3, 0, 0, 1), 1);
        c.due("one(0, 1)", x.one(0, 1), 2);
        c.due("lay(3, 1, 255)", x.lay(3, 1, 255), 1);
        c.due("read(3, 0, 0, 1) takes -1", x.read(3, 0, 0, 1), -20);
        x.sheet(2, 1, 2);
        c.due("lay(2, 1, 65539)", x.lay(2, 1, 65539), 1);
        c.due("read(2, 1, 0, 1) takes 3", x.read(2, 1, 0, 1), 1);
        c.due("one(0, 1)", x.one(0, 1), 5);
        x.lay(2, 1, 258);
        c.due("read(2, 1, 0, 1) takes 258", x.read(2, 1, 0, 1), -20);
        x.sheet(1, 2, 2);
        x.lay(1, 1, 65537);
        c.due("read(1, 2, 0, 1) takes 65537", x.read(1, 2, 0, 1), -20);
        x.lay(1, 1, 1);
        c.due("read(1, 2, 0, 1)", x.read(1, 2, 0, 1), 1);
        c.due("one(0, 1)", x.one(0, 1), 6);
    }

    /** One 0 has 10 at the bank, one 1 has 7 there, cover is 20. */
    private static BlushBank banked() {
        BlushBank x = Checks.told("plain 0;plain 0;trip 0 0 5 5;trip 1 0 3 4;interest 0;cover 19;");
        x.deposit(0, true);
        x.deposit(1, true);
        x.go(1);
        return x;
    }

    private static void layAll(BlushBank x, int k, int... cells) {
        for (int i = 0; i < cells.length; i++) {
            x.lay(k, i, cells[i]);
        }
    }

    private static void p38() {
        c.at("promise 38, read");
        BlushBank x = banked();
        x.sheet(0, 2, 7);
        layAll(x, 0, 0, 3, 1, 7, 0, 4, 1);
        c.due("read(4, 0, 0, 1)", x.read(4, 0, 0, 1), BAD);
        c.due("read(-1, 0, 0, 1)", x.read(-1, 0, 0, 1), BAD);
        c.due("read(0, 3, 0, 1)", x.read(0, 3, 0, 1), BAD);
        c.due("read(0, -1, 0, 1)", x.read(0, -1, 0, 1), BAD);
        c.due("read(0, 2, 0, 21)", x.read(0, 2, 0, 21), BAD);
        c.due("read(0, 2, 0, -1)", x.read(0, 2, 0, -1), BAD);
        c.due("read(0, 2, 0, 0)", x.read(0, 2, 0, 0), 0);
        c.due("read(0, 2, 0, 2)", x.read(0, 2, 0, 2), 2);
        c.due("one(0, 1)", x.one(0, 1), 3);
        c.due("one(1, 1)", x.one(1, 1), 7);
        c.due("rule(4)", x.rule(4), 10);
        c.due("read(0, 2, 4, 20), half of one behind", x.read(0, 2, 4, 20), 1);
        c.due("one(0, 1)", x.one(0, 1), 7);
        c.due("read(0, 2, 4, 1)", x.read(0, 2, 4, 1), -20);
        c.due("read(0, 2, -1, 1)", x.read(0, 2, -1, 1), 0);
        c.due("read(0, 2, 7, 1)", x.read(0, 2, 7, 1), 0);
        c.due("read(0, 2, 6, 1)", x.read(0, 2, 6, 1), 0);
        c.due("read(0, 2, MAX, 20)", x.read(0, 2, MAX, 20), 0);
        c.due("read(0, 2, MIN, 20)", x.read(0, 2, MIN, 20), 0);
        x = banked();
        x.sheet(0, 0, 6);
        layAll(x, 0, 0, 3, 1, 7, 0, 8);
        c.due("read(0, 0, 0, 3), the third is refused", x.read(0, 0, 0, 3), -22);
        c.due("one(0, 1), none came", x.one(0, 1), 0);
        c.due("rule(4)", x.rule(4), 20);
        layAll(x, 0, 0, 3, 2, 1, 0, 8);
        c.due("read(0, 0, 0, 20), no such one", x.read(0, 0, 0, 20), -21);
        layAll(x, 0, 0, 3, 1, 100, 0, 8);
        c.due("read(0, 0, 0, 20), too much", x.read(0, 0, 0, 20), -21);
        c.due("read(0, 1, 0, 20), another lane", x.read(0, 1, 0, 20), 0);
        c.due("read(3, 0, 0, 20), nothing", x.read(3, 0, 0, 20), 0);
        x.law(1, 3);
        c.due("read(0, 0, 0, 1), all of cover", x.read(0, 0, 0, 1), 1);
        c.due("rule(4)", x.rule(4), 0);
    }

    private static void p39() {
        c.at("promise 39, torn");
        BlushBank x = banked();
        x.read(0, 0, 0, 1);
        c.due("torn(), NULL", x.torn(), 1);
        x.sheet(0, 0, 3);
        c.due("torn()", x.torn(), 1);
        x.read(0, 0, 0, 2);
        c.due("torn(), INDEX", x.torn(), 2);
        x.read(0, 2, 0, 1);
        c.due("torn(), CAST", x.torn(), 3);
        x.read(0, 3, 0, 1);
        c.due("torn(), a read that is BAD", x.torn(), 3);
        x.lay(0, 0, 9);
        x.read(0, 0, 0, 1);
        c.due("torn(), a read that is refused", x.torn(), 3);
        x.lay(3, 0, 0);
        x.sheet(0, 0, -1);
        c.due("torn(), no read", x.torn(), 3);
        x.lay(0, 0, 0);
        c.due("read(0, 0, 0, 1)", x.read(0, 0, 0, 1), 1);
        c.due("torn()", x.torn(), 0);
        x.read(0, 0, -1, 1);
        c.due("torn(), INDEX below 0", x.torn(), 2);
        x.read(0, 1, 0, 0);
        c.due("torn(), nothing was read", x.torn(), 0);
    }

    private static void p40() {
        c.at("promise 40, count");
        BlushBank x = banked();
        x.draw(0, 4);
        x.draw(1, 1);
        x.note(0, 5, true);
        x.note(0, 5, true);
        x.keep(1);
        Checks.type(x, "abc");
        int[] want = {5, 12, 2, 1, 3, NONE};
        for (int w = 0; w < want.length; w++) {
            c.due("count(" + w + ")", x.count(w), want[w]);
        }
        x.sheet(1, 0, 9);
        c.due("count(5)", x.count(5), NONE);
        x.sheet(0, 0, 8);
        c.due("count(5)", x.count(5), 8);
        c.due("count(6)", x.count(6), BAD);
        c.due("count(-1)", x.count(-1), BAD);
    }
}
