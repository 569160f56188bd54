import java.util.ArrayList;
import java.util.List;
import java.util.Random;
import java.util.function.Consumer;

/**
 * What a question answers is what comes to pass when it is done: each question is put to one bank, and done on another
 * of the same past by calls that change it. No second telling of the document is needed for this.
 */
public final class DeedsTest {
    private static final int PASTS = 2000;
    private static final int STATE = -2, NONE = -4;
    private static final Checks c = new Checks();

    private final Random random;
    private final String text;
    private final List<Consumer<BlushBank>> past = new ArrayList<>();
    private final BlushBank asked;
    private final int people, incidents, week, left;

    private DeedsTest(long seed) {
        random = new Random(seed);
        text = Texts.withGiver(random);
        BlushBank x = Checks.told(text);
        for (int i = random.nextInt(8); i > 0; i--) {
            past.add(deed(x.rule(0), x.rule(1)));
        }
        asked = bank();
        people = asked.rule(0);
        incidents = asked.rule(1);
        week = asked.rule(5);
        left = Math.max(0, 10 - week);
    }

    public static void main(String[] args) {
        for (int seed = 1; seed <= PASTS; seed++) {
            c.at("seed " + seed);
            DeedsTest t = new DeedsTest(seed);
            t.ahead();
            t.first();
            t.modest();
            t.plans();
            t.save();
            t.runs();
            t.coverAndRate();
            t.gift();
            t.secrets();
            t.fits();
            t.drift();
            t.read();
        }
        c.finish();
    }

    private Consumer<BlushBank> deed(int ones, int trips) {
        int p = random.nextInt(ones);
        int q = random.nextInt(ones);
        int v = random.nextInt(20);
        boolean is = random.nextInt(4) > 0;
        int i = random.nextInt(Math.max(1, trips));
        switch (random.nextInt(8)) {
            case 0: return x -> x.give(p, q, v);
            case 1: return x -> x.draw(p, v);
            case 2: return x -> x.rumour(p);
            case 3: return x -> x.law(v % 2, v / 2);
            case 4: return x -> x.teach(p, v % 4);
            case 5: return x -> x.go(1 + v % 3);
            default: return x -> x.deposit(i, is);
        }
    }

    private BlushBank bank() {
        BlushBank x = Checks.told(text);
        for (Consumer<BlushBank> deed : past) {
            deed.accept(x);
        }
        return x;
    }

    /** None, if it is unlike what is deposited in weeks that are behind. */
    private BlushBank bankBy(int set) {
        BlushBank x = bank();
        for (int i = 0; i < incidents; i++) {
            int is = set >> i & 1;
            if (x.deposit(i, is == 1) == STATE && x.trip(i, 4) != is) {
                return null;
            }
        }
        return x;
    }

    private void ahead() {
        int n = random.nextInt(21);
        BlushBank x = bank();
        int[] before = brazen(x);
        x.go(n);
        for (int p = 0; p < people; p++) {
            c.due("ahead(" + p + ", " + n + ", 0)", asked.ahead(p, n, 0), x.one(p, 1));
            c.due("ahead(" + p + ", " + n + ", 1)", asked.ahead(p, n, 1), x.one(p, 2));
            c.due("ahead(" + p + ", " + n + ", 2)", asked.ahead(p, n, 2), x.one(p, 3) - before[p]);
            c.due("ahead(" + p + ", " + n + ", 3)", asked.ahead(p, n, 3), x.rule(4));
        }
    }

    private void first() {
        int p = random.nextInt(people);
        BlushBank x = bank();
        int found = NONE;
        for (int w = 0; w < 20 && found == NONE; w++) {
            int now = x.rule(5);
            int was = x.one(p, 3);
            x.go(1);
            found = x.one(p, 3) > was ? now : NONE;
        }
        c.due("first(" + p + ")", asked.first(p), found);
    }

    private void modest() {
        BlushBank x = bank();
        int many = 0;
        for (int w = 0; w < 10; w++) {
            many += x.go(1) == 0 ? 1 : 0;
        }
        c.due("modest()", asked.modest(), many);
    }

    private void plans() {
        int found = -1;
        int times = Integer.MAX_VALUE;
        for (int set = 0; set < 1 << incidents; set++) {
            BlushBank x = bankBy(set);
            int now = x == null ? STATE : x.go(left);
            c.due("plan(" + set + ")", asked.plan(set), now);
            if (x != null && (now < times || now == times && isSmaller(set, found))) {
                found = set;
                times = now;
            }
        }
        c.due("best(0)", asked.best(0), found);
        c.due("best(1)", asked.best(1), times);
    }

    private void save() {
        int p = random.nextInt(people);
        int found = NONE;
        for (int set = 0; set < 1 << incidents; set++) {
            BlushBank x = bankBy(set);
            if (x != null) {
                int was = x.one(p, 3);
                x.go(left);
                found = x.one(p, 3) == was && (found == NONE || isSmaller(set, found)) ? set : found;
            }
        }
        c.due("save(" + p + ")", asked.save(p), found);
    }

    private static boolean isSmaller(int set, int than) {
        int more = Integer.bitCount(set) - Integer.bitCount(than);
        return more < 0 || more == 0 && set < than;
    }

    private void runs() {
        BlushBank x = bank();
        toCounter(x);
        int nothing = 0;
        for (int p = 0; p < people; p++) {
            nothing |= x.one(p, 2) == 0 ? 1 << p : 0;
        }
        c.due("run(0)", asked.run(0), x.count(1));
        c.due("run(1)", asked.run(1), x.rule(4));
        c.due("run(2)", asked.run(2), nothing);
        int found = NONE;
        for (int cover = 0; cover <= 99 && found == NONE; cover++) {
            BlushBank y = bank();
            y.law(1, cover);
            toCounter(y);
            found = y.count(1) == 0 ? cover : NONE;
        }
        c.due("holds()", asked.holds(), found);
    }

    private void toCounter(BlushBank x) {
        boolean again = true;
        while (again) {
            again = false;
            for (int p = 0; p < people; p++) {
                again |= x.one(p, 2) > 0 && x.draw(p, x.one(p, 2)) >= 0;
            }
        }
    }

    private void coverAndRate() {
        int n = random.nextInt(21);
        c.due("cover(" + n + ")", asked.cover(n), leastLaw(1, 99, n));
        c.due("rate(" + n + ")", asked.rate(n), leastLaw(0, 9, n));
    }

    private int leastLaw(int what, int most, int n) {
        for (int v = 0; v <= most; v++) {
            BlushBank x = bank();
            x.law(what, v);
            if (x.go(n) == 0) {
                return v;
            }
        }
        return NONE;
    }

    /** What he gives is what the others have more; he himself is never asked for any. */
    private void gift() {
        int giver = people - 1;
        int v = random.nextInt(1 + Math.min(99, asked.one(giver, 1)));
        int[] times = new int[people];
        for (int p = 0; p < people; p++) {
            BlushBank x = bank();
            x.give(giver, p, v);
            times[p] = x.go(left);
        }
        int found = firstBelow(times, bank().go(left));
        c.due("gift(" + v + ", 0)", asked.gift(v, 0), found);
        c.due("gift(" + v + ", 1)", asked.gift(v, 1), found == NONE ? NONE : times[found]);
    }

    private void secrets() {
        int[] times = new int[people];
        BlushBank y = bank();
        int untold = y.go(left);
        int[] was = brazen(y);
        for (int p = 0; p < people; p++) {
            BlushBank x = bank();
            x.rumour(p);
            times[p] = x.go(left);
            int more = 0;
            int less = 0;
            for (int q = 0; q < people; q++) {
                more |= x.one(q, 3) > was[q] ? 1 << q : 0;
                less |= x.one(q, 3) < was[q] ? 1 << q : 0;
            }
            c.due("told(" + p + ", 0)", asked.told(p, 0), more);
            c.due("told(" + p + ", 1)", asked.told(p, 1), less);
        }
        int found = firstBelow(times, untold);
        c.due("whisper(0)", asked.whisper(0), found);
        c.due("whisper(1)", asked.whisper(1), found == NONE ? NONE : times[found]);
    }

    private static int firstBelow(int[] times, int now) {
        int found = NONE;
        for (int p = 0; p < times.length; p++) {
            if (times[p] < (found == NONE ? now : times[found])) {
                found = p;
            }
        }
        return found;
    }

    private int[] brazen(BlushBank x) {
        int[] times = new int[people];
        for (int p = 0; p < people; p++) {
            times[p] = x.one(p, 3);
        }
        return times;
    }

    /** Faces are those of some plan, one of them at times turned. */
    private void fits() {
        if (left == 0) {
            c.due("note(0, 9, true)", asked.note(0, 9, true), STATE);
            return;
        }
        int[][] seen = faces(bankBy(asked.rule(6)));
        int[][] noted = new int[6][];
        for (int j = 0; j < noted.length; j++) {
            int p = random.nextInt(people);
            int w = random.nextInt(left);
            int is = random.nextInt(9) == 0 ? 1 - seen[w][p] : seen[w][p];
            noted[j] = new int[] {p, w, is};
            c.due("note", asked.note(p, week + w, is == 1), j + 1);
        }
        int many = 0;
        int least = NONE;
        int all = (1 << incidents) - 1;
        int inAll = all;
        int inNone = all;
        for (int set = 0; set <= all; set++) {
            BlushBank x = bankBy(set);
            if (x != null && isAsNoted(faces(x), noted)) {
                least = many == 0 ? set : least;
                many++;
                inAll &= set;
                inNone &= ~set;
            }
        }
        c.due("fits(0)", asked.fits(0), many);
        c.due("fits(1)", asked.fits(1), least);
        c.due("fits(2)", asked.fits(2), many == 0 ? NONE : inAll);
        c.due("fits(3)", asked.fits(3), many == 0 ? NONE : inNone);
    }

    private int[][] faces(BlushBank x) {
        int[][] seen = new int[left][people];
        for (int w = 0; w < left; w++) {
            int[] was = brazen(x);
            x.go(1);
            for (int p = 0; p < people; p++) {
                seen[w][p] = x.one(p, 3) > was[p] ? 1 : 0;
            }
        }
        return seen;
    }

    private static boolean isAsNoted(int[][] seen, int[][] noted) {
        for (int[] face : noted) {
            if (seen[face[1]][face[0]] != face[2]) {
                return false;
            }
        }
        return true;
    }

    /** Incidents by the seed are given by the giver, as long as he has so much. */
    private void drift() {
        int seed = random.nextInt();
        long now = seed;
        BlushBank x = bank();
        int giver = people - 1;
        int times = 0;
        for (int n = 1; n <= 20; n++) {
            now = now * 1103515245L + 12345L;
            int bits = (int) (now >> 16 & 32767);
            int p = bits % people;
            if (p != giver && x.give(giver, p, bits % 10) < 0) {
                return;
            }
            times += x.go(1);
            c.due("drift(" + seed + ", " + n + ", 0)", asked.drift(seed, n, 0), times);
        }
    }

    private void read() {
        int n = random.nextInt(5);
        int cells = 2 * n - random.nextInt(2);
        BlushBank x = bank();
        BlushBank y = bank();
        x.sheet(2, 1, Math.max(0, cells));
        int came = 0;
        int refused = 0;
        for (int i = 0; i < n; i++) {
            int p = random.nextInt(people);
            int v = random.nextInt(8);
            x.lay(2, 2 * i, p);
            if (x.lay(2, 2 * i + 1, v) == 1 && refused == 0) {
                refused = y.draw(p, v) < 0 ? -20 - i : 0;
                came++;
            }
        }
        c.due("read(2, 1, 0, " + n + ")", x.read(2, 1, 0, n), refused < 0 ? refused : came);
        c.due("torn()", x.torn(), refused == 0 && came < n ? 2 : 0);
        BlushBank same = refused < 0 ? bank() : y;
        for (int p = 0; p < people; p++) {
            c.due("one(" + p + ", 1)", x.one(p, 1), same.one(p, 1));
            c.due("one(" + p + ", 2)", x.one(p, 2), same.one(p, 2));
        }
        c.due("rule(4)", x.rule(4), same.rule(4));
    }
}
