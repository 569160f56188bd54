import java.util.Random;

/** Runs of random calls, up to 512 on one object, each answered by the class and by the model. */
public final class ModelTest {
    private static final int RUNS = 1500;
    private static final int CALLS = 512;
    private static final Checks c = new Checks();

    private final Random random;
    private final BlushBank x = new BlushBank();
    private final Model m = new Model();
    private int left = CALLS;

    private ModelTest(long seed) {
        random = new Random(seed);
    }

    public static void main(String[] args) {
        for (int seed = 1; seed <= RUNS; seed++) {
            c.at("seed " + seed);
            new ModelTest(seed).play();
        }
        c.finish();
    }

    private void play() {
        while (left > 0) {
            if (left == CALLS || any(60) == 0) {
                tellText();
            }
            int call = any(3) == 0 ? any(19) : any(39);
            oneCall(call);
        }
    }

    private int any(int n) {
        return random.nextInt(n);
    }

    private boolean coin() {
        return random.nextBoolean();
    }

    /** Mostly 0 to most, at times just outside, at times far outside. */
    private int near(int most) {
        int r = any(40);
        if (r == 0) {
            return -1;
        }
        if (r == 1) {
            return most + 1;
        }
        if (r == 2) {
            return coin() ? Integer.MIN_VALUE : Integer.MAX_VALUE;
        }
        return any(most + 1);
    }

    private void due(String call, int got, int want) {
        left--;
        c.due(call, got, want);
    }

    private void tellText() {
        String text = any(6) == 0 ? Texts.faulty(random) : Texts.good(random);
        for (int i = 0; i < text.length() && left > 1; i++) {
            int b = text.charAt(i);
            due("feed(" + b + ")", x.feed(b), m.feed(b));
        }
        due("text() of \"" + text + "\"", x.text(), m.text());
        due("fault() of \"" + text + "\"", x.fault(), m.fault);
        state();
    }

    /** All that can be seen, so that what should not have changed is found out. These calls are not counted. */
    private void state() {
        for (int w = 0; w < 7; w++) {
            c.due("rule(" + w + ")", x.rule(w), m.rule(w));
        }
        for (int p = 0; p < 4; p++) {
            for (int w = 0; w < 4; w++) {
                c.due("one(" + p + ", " + w + ")", x.one(p, w), m.one(p, w));
            }
        }
        for (int i = 0; i < 6; i++) {
            for (int w = 0; w < 6; w++) {
                c.due("trip(" + i + ", " + w + ")", x.trip(i, w), m.trip(i, w));
                c.due("asked(" + i + ", " + w + ")", x.asked(i, w), m.asked(i, w));
            }
        }
        for (int w = 0; w < 6; w++) {
            c.due("count(" + w + ")", x.count(w), m.count(w));
        }
        c.due("fault()", x.fault(), m.fault);
        c.due("torn()", x.torn(), m.torn);
    }

    private void oneCall(int call) {
        int a = near(3);
        int b = near(3);
        boolean is = coin();
        switch (call) {
            case 0 -> { int i = near(5); due("deposit(" + i + ", " + is + ")", x.deposit(i, is), m.deposit(i, is)); }
            case 1 -> { int v = near(99); due("give(" + a + ", " + b + ", " + v + ")", x.give(a, b, v), m.give(a, b, v)); }
            case 2 -> { int v = near(coin() ? 99 : 9); due("draw(" + a + ", " + v + ")", x.draw(a, v), m.draw(a, v)); }
            case 3 -> { if (any(4) == 0) due("rumour(" + a + ")", x.rumour(a), m.rumour(a)); }
            case 4 -> { int w = near(1); int v = near(coin() ? 9 : 99);
                due("law(" + w + ", " + v + ")", x.law(w, v), m.law(w, v)); }
            case 5 -> due("teach(" + a + ", " + b + ")", x.teach(a, b), m.teach(a, b));
            case 6 -> { int n = any(8) == 0 ? near(20) : near(1); due("go(" + n + ")", x.go(n), m.go(n)); }
            case 7 -> { int w = near(9); due("note(" + a + ", " + w + ", " + is + ")", x.note(a, w, is), m.note(a, w, is)); }
            case 8 -> { int n = near(6); due("forget(" + n + ")", x.forget(n), m.forget(n)); }
            case 9 -> { int k = near(1); due("keep(" + k + ")", x.keep(k), m.keep(k)); }
            case 10, 11 -> { int k = near(1); due("back(" + k + ")", x.back(k), m.back(k)); }
            case 12 -> { int l = near(2); int n = near(40);
                due("sheet(" + a + ", " + l + ", " + n + ")", x.sheet(a, l, n), m.sheet(a, l, n)); }
            case 13, 14 -> { int i = near(coin() ? 39 : 6); int v = coin() ? near(3) : random.nextInt();
                due("lay(" + a + ", " + i + ", " + v + ")", x.lay(a, i, v), m.lay(a, i, v)); }
            case 15, 16 -> { int l = near(2); int f = near(coin() ? 38 : 2); int n = near(coin() ? 20 : 3);
                due("read(" + a + ", " + l + ", " + f + ", " + n + ")", x.read(a, l, f, n), m.read(a, l, f, n)); }
            case 17 -> { int n = near(10); due("end(" + n + ")", x.end(n), m.end(n)); }
            case 18 -> { int s = near(127); due("feed(" + s + ")", x.feed(s), m.feed(s)); }
            default -> question(call, a);
        }
        state();
    }

    private void question(int call, int a) {
        int w = near(1);
        int n = near(20);
        switch (call) {
            case 19 -> { int v = near(3); due("ahead(" + a + ", " + n + ", " + v + ")", x.ahead(a, n, v), m.ahead(a, n, v)); }
            case 20 -> due("first(" + a + ")", x.first(a), m.first(a));
            case 21 -> due("modest()", x.modest(), m.modest());
            case 22 -> { int set = near(63); due("plan(" + set + ")", x.plan(set), m.plan(set)); }
            case 23 -> due("best(" + w + ")", x.best(w), m.best(w));
            case 24 -> due("save(" + a + ")", x.save(a), m.save(a));
            case 25 -> { int v = near(2); due("run(" + v + ")", x.run(v), m.run(v)); }
            case 26 -> due("holds()", x.holds(), m.holds());
            case 27 -> due("cover(" + n + ")", x.cover(n), m.cover(n));
            case 28 -> due("rate(" + n + ")", x.rate(n), m.rate(n));
            case 29 -> { int v = near(99); due("gift(" + v + ", " + w + ")", x.gift(v, w), m.gift(v, w)); }
            case 30 -> due("told(" + a + ", " + w + ")", x.told(a, w), m.told(a, w));
            case 31 -> due("whisper(" + w + ")", x.whisper(w), m.whisper(w));
            case 32, 33 -> { int v = near(3); due("fits(" + v + ")", x.fits(v), m.fits(v)); }
            case 34 -> { int s = random.nextInt(); due("drift(" + s + ", " + n + ", " + w + ")", x.drift(s, n, w), m.drift(s, n, w)); }
            case 35 -> { int v = near(6); due("rule(" + v + ")", x.rule(v), m.rule(v)); }
            case 36 -> { int v = near(3); due("one(" + a + ", " + v + ")", x.one(a, v), m.one(a, v)); }
            case 37 -> { int v = near(5); int i = near(5); due("trip(" + i + ", " + v + ")", x.trip(i, v), m.trip(i, v)); }
            default -> { int v = near(5); due("count(" + v + ")", x.count(v), m.count(v)); }
        }
    }
}
