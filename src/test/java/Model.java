import java.util.ArrayList;
import java.util.List;
import java.util.function.Consumer;
import java.util.regex.Matcher;
import java.util.regex.Pattern;

/**
 * The document told a second time, as plainly as the whole Java library allows: it copies all for each
 * question, and lets the machine throw where the document says that the machine finds a fault.
 */
final class Model {
    static final int BAD = -1, STATE = -2, FULL = -3, NONE = -4;

    static final class Person {
        int kind, hand, bank, brazen;
    }

    static final class Incident {
        int who, week, size, seen;
        boolean deposited;
    }

    record Occasion(int who, int week, int asks) { }

    record Face(int who, int week, boolean is) { }

    /** All that a text tells and weeks change. */
    static final class World {
        final List<Person> people = new ArrayList<>();
        final List<Incident> incidents = new ArrayList<>();
        final List<Occasion> occasions = new ArrayList<>();
        final List<Face> noted = new ArrayList<>();
        int interest = 1, cover = 20, week = 0;

        World copy() {
            World w = new World();
            for (Person p : people) {
                w.people.add(person(p.kind, p.hand, p.bank, p.brazen));
            }
            for (Incident i : incidents) {
                w.incidents.add(incident(i.who, i.week, i.size, i.seen, i.deposited));
            }
            w.occasions.addAll(occasions);
            w.noted.addAll(noted);
            w.interest = interest;
            w.cover = cover;
            w.week = week;
            return w;
        }

        int blush(Incident i) {
            int b = i.size + i.seen;
            int kind = people.get(i.who).kind;
            return kind == 1 ? b * 2 : kind == 3 ? b / 2 : b;
        }

        /** Those who are brazen, once for each time. */
        List<Integer> step() {
            List<Integer> brazen = new ArrayList<>();
            for (Incident i : incidents) {
                if (i.week == week) {
                    Person p = people.get(i.who);
                    if (i.deposited) {
                        p.bank = Math.min(p.bank + blush(i), 999);
                    } else {
                        p.hand = Math.min(p.hand + blush(i), 999);
                    }
                }
            }
            for (Occasion o : occasions) {
                if (o.week == week && !pay(people.get(o.who), o.asks)) {
                    people.get(o.who).brazen++;
                    brazen.add(o.who);
                }
            }
            for (Person p : people) {
                p.hand -= (int) Math.ceil(p.hand / 10.0);
                p.bank = Math.min(999, p.bank + (int) Math.floor(p.bank * interest / 10.0));
            }
            cover = Math.min(99, cover + 1);
            week++;
            return brazen;
        }

        /** One blush after another; all is put back if they are not enough. */
        boolean pay(Person p, int asks) {
            int hand = p.hand, bank = p.bank, own = cover;
            for (int i = 0; i < asks; i++) {
                if (p.hand > 0) {
                    p.hand--;
                } else if (p.bank > 0 && cover > 0) {
                    p.bank--;
                    cover--;
                } else if (p.kind == 2 && p.bank == 0 && cover > 0) {
                    cover--;
                } else {
                    p.hand = hand;
                    p.bank = bank;
                    cover = own;
                    return false;
                }
            }
            return true;
        }

        int steps(int n) {
            int times = 0;
            for (int i = 0; i < n; i++) {
                times += step().size();
            }
            return times;
        }

        int stepsToNine() {
            int times = 0;
            while (week <= 9) {
                times += step().size();
            }
            return times;
        }

        void set(int plan) {
            for (int i = 0; i < incidents.size(); i++) {
                incidents.get(i).deposited = (plan & 1 << i) != 0;
            }
        }

        int set() {
            int bits = 0;
            for (int i = 0; i < incidents.size(); i++) {
                bits += incidents.get(i).deposited ? 1 << i : 0;
            }
            return bits;
        }

        boolean admits(int plan) {
            World w = copy();
            w.set(plan);
            for (int i = 0; i < incidents.size(); i++) {
                if (incidents.get(i).week < week && incidents.get(i).deposited != w.incidents.get(i).deposited) {
                    return false;
                }
            }
            return true;
        }

        int rumour(int p) {
            int changed = 0;
            for (Incident i : incidents) {
                if (i.who == p && i.week >= week) {
                    changed += i.seen == 9 ? 0 : 1;
                    i.seen = 9;
                }
            }
            return changed;
        }

        void run() {
            boolean some = true;
            while (some) {
                some = false;
                for (Person p : people) {
                    if (p.bank > 0 && cover >= p.bank) {
                        cover -= p.bank;
                        p.hand = Math.min(999, p.hand + p.bank);
                        p.bank = 0;
                        some = true;
                    }
                }
            }
        }

        int draw(int p, int v) {
            if (p < 0 || p >= people.size() || v < 0 || v > 99) {
                return BAD;
            }
            Person one = people.get(p);
            if (v > one.bank || v > cover) {
                return STATE;
            }
            if (one.hand + v > 999) {
                return FULL;
            }
            one.bank -= v;
            one.hand += v;
            cover -= v;
            return cover;
        }
    }

    static Person person(int kind, int hand, int bank, int brazen) {
        Person p = new Person();
        p.kind = kind;
        p.hand = hand;
        p.bank = bank;
        p.brazen = brazen;
        return p;
    }

    static Incident incident(int who, int week, int size, int seen, boolean deposited) {
        Incident i = new Incident();
        i.who = who;
        i.week = week;
        i.size = size;
        i.seen = seen;
        i.deposited = deposited;
        return i;
    }

    World now = new World();
    final World[] images = new World[2];
    final Object[] sheets = new Object[4];
    final StringBuilder tape = new StringBuilder();
    int fault;
    int torn;

    // ---- the text

    int feed(int c) {
        if (c < 0 || c > 127) {
            return BAD;
        }
        if (tape.length() == 160) {
            return FULL;
        }
        return tape.append((char) c).length();
    }

    int end(int n) {
        int had = tape.length();
        if (n < 0 || n > had) {
            return BAD;
        }
        tape.setLength(n);
        return had;
    }

    private static final class Fault extends RuntimeException {
        private static final long serialVersionUID = 1;
        final int number, place;

        Fault(int number, int place) {
            this.number = number;
            this.place = place;
        }
    }

    private static final Pattern TOKEN = Pattern.compile(" *([a-z]+|[0-9]+|;|$)");
    private Matcher tokens;
    private String token;
    private int at;

    private void next() {
        int from = token == null ? 0 : tokens.end();
        tokens.region(from, tape.length());
        if (!tokens.lookingAt()) {
            int place = from;
            while (tape.charAt(place) == ' ') {
                place++;
            }
            throw new Fault(1, place);
        }
        token = tokens.group(1);
        at = tokens.start(1);
        if (token.matches("[0-9]{3,}")) {
            throw new Fault(1, at);
        }
    }

    private int number(int most) {
        next();
        if (!token.matches("[0-9]+")) {
            throw new Fault(2, at);
        }
        int v = Integer.parseInt(token);
        if (v > most) {
            throw new Fault(3, at);
        }
        return v;
    }

    int text() {
        fault = 0;
        tokens = TOKEN.matcher(tape);
        token = null;
        try {
            World w = new World();
            int lines = lines(w);
            now = w;
            images[0] = null;
            images[1] = null;
            return lines;
        } catch (Fault f) {
            fault = f.number;
            return -10 - f.place;
        } finally {
            tape.setLength(0);
        }
    }

    private int lines(World w) {
        List<String> kinds = List.of("plain", "bishop", "bride", "widow");
        List<String> once = new ArrayList<>();
        int lines = 0;
        for (next(); !token.isEmpty(); next()) {
            String name = token;
            int kind = kinds.indexOf(name);
            if (once.contains(name)) {
                throw new Fault(4, at);
            }
            if (kind >= 0 && w.people.size() == 4 || name.equals("trip") && w.incidents.size() == 6
                || name.equals("asked") && w.occasions.size() == 6) {
                throw new Fault(5, at);
            }
            if (kind >= 0) {
                w.people.add(person(kind, number(99), 0, 0));
            } else if (name.equals("trip")) {
                w.incidents.add(incident(number(3), number(9), number(9), number(9), false));
            } else if (name.equals("asked")) {
                w.occasions.add(new Occasion(number(3), number(9), number(30)));
            } else if (name.equals("interest")) {
                once.add(name);
                w.interest = number(9);
            } else if (name.equals("cover")) {
                once.add(name);
                w.cover = number(99);
            } else {
                throw new Fault(2, at);
            }
            next();
            if (!token.equals(";")) {
                throw new Fault(2, at);
            }
            lines++;
        }
        int people = w.people.size();
        if (w.incidents.stream().anyMatch(i -> i.who >= people) || w.occasions.stream().anyMatch(o -> o.who >= people)) {
            throw new Fault(6, tape.length());
        }
        return lines;
    }

    int rule(int what) {
        int[] all = {now.people.size(), now.incidents.size(), now.occasions.size(), now.interest, now.cover, now.week,
            now.set()};
        return pick(all, what);
    }

    private static int pick(int[] all, int what) {
        return what < 0 || what >= all.length ? BAD : all[what];
    }

    int one(int p, int what) {
        if (no(p)) {
            return BAD;
        }
        Person o = now.people.get(p);
        return pick(new int[] {o.kind, o.hand, o.bank, o.brazen}, what);
    }

    private boolean no(int p) {
        return p < 0 || p >= now.people.size();
    }

    int trip(int i, int what) {
        if (i < 0 || i >= now.incidents.size()) {
            return BAD;
        }
        Incident o = now.incidents.get(i);
        return pick(new int[] {o.who, o.week, o.size, o.seen, o.deposited ? 1 : 0, now.blush(o)}, what);
    }

    int asked(int k, int what) {
        if (k < 0 || k >= now.occasions.size()) {
            return BAD;
        }
        Occasion o = now.occasions.get(k);
        return pick(new int[] {o.who, o.week, o.asks}, what);
    }

    // ---- what is changed

    int deposit(int i, boolean is) {
        if (i < 0 || i >= now.incidents.size()) {
            return BAD;
        }
        Incident o = now.incidents.get(i);
        if (o.week < now.week) {
            return STATE;
        }
        int was = o.deposited ? 1 : 0;
        o.deposited = is;
        return was;
    }

    int give(int p, int q, int v) {
        if (no(p) || no(q) || p == q || v < 0 || v > 99) {
            return BAD;
        }
        Person from = now.people.get(p), to = now.people.get(q);
        if (from.hand < v) {
            return STATE;
        }
        if (to.hand + v > 999) {
            return FULL;
        }
        to.hand += v;
        return from.hand -= v;
    }

    int draw(int p, int v) {
        return now.draw(p, v);
    }

    int rumour(int p) {
        return no(p) ? BAD : now.rumour(p);
    }

    int law(int what, int v) {
        if (what < 0 || what > 1 || v < 0 || v > (what == 0 ? 9 : 99)) {
            return BAD;
        }
        int was = what == 0 ? now.interest : now.cover;
        if (what == 0) {
            now.interest = v;
        } else {
            now.cover = v;
        }
        return was;
    }

    int teach(int p, int kind) {
        if (no(p) || kind < 0 || kind > 3) {
            return BAD;
        }
        int was = now.people.get(p).kind;
        now.people.get(p).kind = kind;
        return was;
    }

    // ---- weeks

    int go(int n) {
        return n < 0 || n > 20 ? BAD : now.week + n > 99 ? FULL : now.steps(n);
    }

    int ahead(int p, int n, int what) {
        if (no(p) || n < 0 || n > 20) {
            return BAD;
        }
        World w = now.copy();
        w.steps(n);
        Person o = w.people.get(p);
        return pick(new int[] {o.hand, o.bank, o.brazen - now.people.get(p).brazen, w.cover}, what);
    }

    int first(int p) {
        if (no(p)) {
            return BAD;
        }
        World w = now.copy();
        for (int i = 0; i < 20; i++) {
            if (w.step().contains(p)) {
                return w.week - 1;
            }
        }
        return NONE;
    }

    int modest() {
        World w = now.copy();
        int many = 0;
        for (int i = 0; i < 10; i++) {
            many += w.step().isEmpty() ? 1 : 0;
        }
        return many;
    }

    // ---- plans

    private World by(Consumer<World> change) {
        World w = now.copy();
        change.accept(w);
        return w;
    }

    private int plans() {
        return 1 << now.incidents.size();
    }

    private int times(int set) {
        return by(w -> w.set(set)).stepsToNine();
    }

    int plan(int set) {
        return set < 0 || set >= plans() ? BAD : now.admits(set) ? times(set) : STATE;
    }

    int best(int what) {
        if (what < 0 || what > 1) {
            return BAD;
        }
        int best = -1, least = 0;
        for (int many = 0; many <= 6; many++) {
            for (int set = 0; set < plans(); set++) {
                if (Integer.bitCount(set) == many && now.admits(set) && (best < 0 || times(set) < least)) {
                    best = set;
                    least = times(set);
                }
            }
        }
        return what == 0 ? best : least;
    }

    int save(int p) {
        if (no(p)) {
            return BAD;
        }
        for (int many = 0; many <= 6; many++) {
            for (int set = 0; set < plans(); set++) {
                if (Integer.bitCount(set) == many && now.admits(set)) {
                    World w = now.copy();
                    w.set(set);
                    w.stepsToNine();
                    if (w.people.get(p).brazen == now.people.get(p).brazen) {
                        return set;
                    }
                }
            }
        }
        return NONE;
    }

    // ---- runs

    int run(int what) {
        World w = by(World::run);
        int owes = 0, free = 0;
        for (int p = 0; p < w.people.size(); p++) {
            owes += w.people.get(p).bank;
            free += w.people.get(p).bank == 0 ? 1 << p : 0;
        }
        return pick(new int[] {owes, w.cover, free}, what);
    }

    int holds() {
        int owes = now.people.stream().mapToInt(p -> p.bank).sum();
        return owes <= 99 ? owes : NONE;
    }

    int cover(int n) {
        if (n < 0 || n > 20) {
            return BAD;
        }
        for (int c = 0; c <= 99; c++) {
            int own = c;
            if (by(w -> w.cover = own).steps(n) == 0) {
                return c;
            }
        }
        return NONE;
    }

    int rate(int n) {
        if (n < 0 || n > 20) {
            return BAD;
        }
        for (int r = 0; r <= 9; r++) {
            int rate = r;
            if (by(w -> w.interest = rate).steps(n) == 0) {
                return r;
            }
        }
        return NONE;
    }

    private int least(int[] times, int what) {
        int least = now.copy().stepsToNine(), best = NONE;
        for (int p = 0; p < times.length; p++) {
            if (times[p] < least) {
                least = times[p];
                best = p;
            }
        }
        return best == NONE ? NONE : what == 0 ? best : least;
    }

    int gift(int v, int what) {
        if (v < 0 || v > 99 || what < 0 || what > 1) {
            return BAD;
        }
        int[] times = new int[now.people.size()];
        for (int p = 0; p < times.length; p++) {
            World w = now.copy();
            w.people.get(p).hand = Math.min(999, w.people.get(p).hand + v);
            times[p] = w.stepsToNine();
        }
        return least(times, what);
    }

    // ---- secrets

    int told(int p, int what) {
        if (no(p) || what < 0 || what > 1) {
            return BAD;
        }
        World quiet = by(World::stepsToNine);
        World loud = now.copy();
        loud.rumour(p);
        loud.stepsToNine();
        int bits = 0;
        for (int q = 0; q < now.people.size(); q++) {
            int sign = Integer.compare(loud.people.get(q).brazen, quiet.people.get(q).brazen);
            bits += sign == (what == 0 ? 1 : -1) ? 1 << q : 0;
        }
        return bits;
    }

    int whisper(int what) {
        if (what < 0 || what > 1) {
            return BAD;
        }
        int[] times = new int[now.people.size()];
        for (int p = 0; p < times.length; p++) {
            int who = p;
            times[p] = by(w -> w.rumour(who)).stepsToNine();
        }
        return least(times, what);
    }

    // ---- faces

    int note(int p, int week, boolean is) {
        if (no(p) || week < 0 || week > 9) {
            return BAD;
        }
        if (week < now.week) {
            return STATE;
        }
        if (now.noted.size() == 6) {
            return FULL;
        }
        now.noted.add(new Face(p, week, is));
        return now.noted.size();
    }

    int forget(int n) {
        int had = now.noted.size();
        if (n < 0 || n > had) {
            return BAD;
        }
        now.noted.subList(n, had).clear();
        return had;
    }

    private boolean isNoted(int set) {
        World w = now.copy();
        w.set(set);
        while (w.week <= 9) {
            int week = w.week;
            List<Integer> brazen = w.step();
            if (now.noted.stream().anyMatch(f -> f.week == week && f.is != brazen.contains(f.who))) {
                return false;
            }
        }
        return true;
    }

    int fits(int what) {
        if (what < 0 || what > 3) {
            return BAD;
        }
        List<Integer> fit = new ArrayList<>();
        for (int set = 0; set < plans(); set++) {
            if (now.admits(set) && isNoted(set)) {
                fit.add(set);
            }
        }
        if (what == 0) {
            return fit.size();
        }
        if (fit.isEmpty()) {
            return NONE;
        }
        if (what == 1) {
            return fit.get(0);
        }
        int bits = 0;
        for (int i = 0; i < now.incidents.size(); i++) {
            int bit = 1 << i;
            long in = fit.stream().filter(s -> (s & bit) != 0).count();
            bits += in == (what == 2 ? fit.size() : 0) ? bit : 0;
        }
        return bits;
    }

    // ---- by a seed

    int drift(int seed, int n, int what) {
        if (n < 1 || n > 20 || what < 0 || what > 1) {
            return BAD;
        }
        if (now.people.isEmpty()) {
            return STATE;
        }
        World w = now.copy();
        int times = 0;
        for (int i = 0; i < n; i++) {
            seed = seed * 1103515245 + 12345;
            int bits = 0;
            for (int b = 16; b <= 30; b++) {
                bits += (seed & 1 << b) != 0 ? 1 << b - 16 : 0;
            }
            Person p = w.people.get(bits % w.people.size());
            p.hand = Math.min(999, p.hand + bits % 10);
            times += w.step().size();
        }
        return what == 0 ? times : w.people.stream().mapToInt(p -> p.hand).sum();
    }

    // ---- images, sheets

    int keep(int k) {
        if (k < 0 || k > 1) {
            return BAD;
        }
        int was = images[k] == null ? 0 : 1;
        images[k] = now.copy();
        return was;
    }

    int back(int k) {
        if (k < 0 || k > 1) {
            return BAD;
        }
        if (images[k] == null) {
            return STATE;
        }
        now = images[k].copy();
        return now.week;
    }

    int sheet(int k, int lane, int n) {
        if (k < 0 || k > 3 || lane < 0 || lane > 2 || n > 40) {
            return BAD;
        }
        try {
            sheets[k] = lane == 0 ? new byte[n] : lane == 1 ? new short[n] : new int[n];
            return 1;
        } catch (NegativeArraySizeException e) {
            return -14;
        }
    }

    int lay(int k, int i, int v) {
        if (k < 0 || k > 3) {
            return BAD;
        }
        try {
            if (sheets[k] instanceof byte[] b) {
                b[i] = (byte) v;
            } else if (sheets[k] instanceof short[] s) {
                s[i] = (short) v;
            } else {
                ((int[]) sheets[k])[i] = v;
            }
            return 1;
        } catch (NullPointerException e) {
            return -11;
        } catch (ArrayIndexOutOfBoundsException e) {
            return -12;
        }
    }

    private int cell(int k, int lane, int i) {
        return lane == 0 ? ((byte[]) sheets[k])[i] : lane == 1 ? ((short[]) sheets[k])[i] : ((int[]) sheets[k])[i];
    }

    int read(int k, int lane, int f, int n) {
        if (k < 0 || k > 3 || lane < 0 || lane > 2 || n < 0 || n > 20) {
            return BAD;
        }
        World w = now.copy();
        int came = 0;
        int found = 0;
        try {
            for (int i = 0; i < n; i++) {
                int p = cell(k, lane, f + 2 * i);
                int v = cell(k, lane, f + 2 * i + 1);
                if (w.draw(p, v) < 0) {
                    return -20 - i;
                }
                came++;
            }
        } catch (NullPointerException e) {
            found = 1;
        } catch (ArrayIndexOutOfBoundsException e) {
            found = 2;
        } catch (ClassCastException e) {
            found = 3;
        }
        now = w;
        torn = found;
        return came;
    }

    int count(int what) {
        Object s = sheets[0];
        int cells = s == null ? NONE : java.lang.reflect.Array.getLength(s);
        return pick(new int[] {now.people.stream().mapToInt(p -> p.hand).sum(),
            now.people.stream().mapToInt(p -> p.bank).sum(), now.noted.size(),
            (images[0] == null ? 0 : 1) + (images[1] == null ? 0 : 1), tape.length(), cells}, what);
    }
}
