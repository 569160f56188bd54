import java.util.Arrays;

/** A bank of embarrassments, as ../shared/DOC.md tells it. */
public final class BlushBank {
    public static final int BAD = -1, STATE = -2, FULL = -3, NONE = -4;

    private static final int PEOPLE_MOST = 4;
    private static final int INCIDENTS_MOST = 6;
    private static final int OCCASIONS_MOST = 6;
    private static final int NOTED_MOST = 6;
    private static final int IMAGES = 2;
    private static final int SHEETS = 4;
    private static final int LANES = 3;
    private static final int CELLS_MOST = 40;
    private static final int TAPE_MOST = 160;
    private static final int BLUSH_MOST = 999;
    private static final int TOLD_MOST = 99;
    private static final int COVER_MOST = 99;
    private static final int INTEREST_MOST = 9;
    private static final int SEEN_MOST = 9;
    private static final int LAST_WEEK = 9;
    private static final int WEEK_MOST = 99;
    private static final int WEEKS_MOST = 20;
    private static final int MODEST_WEEKS = 10;
    private static final int READ_MOST = 20;
    private static final int COVER_AT_FIRST = 20;
    private static final int INTEREST_AT_FIRST = 1;
    private static final int BISHOP = 1, BRIDE = 2, WIDOW = 3;
    private static final int KINDS = 4;
    private static final int NULL_FAULT = 1, INDEX_FAULT = 2, CAST_FAULT = 3, SIZE_FAULT = 4;

    private final Scribe scribe = new Scribe();
    private final Story story = new Story();
    private final Ledger ledger = new Ledger();
    private final Notes notes = new Notes();
    /** Weeks that are only thought of go here, so that asking changes nothing and makes nothing. */
    private final Ledger trial = new Ledger();
    /** How often each is brazen with no rumour told. */
    private final int[] untold = new int[PEOPLE_MOST];
    private final Image[] images = new Image[IMAGES];
    private final Sheet[] sheets = new Sheet[SHEETS];
    private int tornFault;

    public BlushBank() {
        for (int k = 0; k < IMAGES; k++) {
            images[k] = new Image();
        }
        for (int k = 0; k < SHEETS; k++) {
            sheets[k] = new Sheet();
        }
    }

    // ---- the text

    public int feed(int c) {
        if (!isWithin(c, 127)) {
            return BAD;
        }
        return scribe.append(c);
    }

    public int end(int n) {
        if (!isWithin(n, scribe.length)) {
            return BAD;
        }
        int had = scribe.length;
        scribe.length = n;
        return had;
    }

    public int text() {
        int answer = scribe.readTape();
        if (scribe.fault == 0) {
            story.copyFrom(scribe.story);
            ledger.copyFrom(scribe.ledger);
            notes.many = 0;
            for (int k = 0; k < IMAGES; k++) {
                images[k].there = false;
            }
        }
        return answer;
    }

    public int fault() {
        return scribe.fault;
    }

    public int rule(int what) {
        switch (what) {
            case 0: return ledger.people;
            case 1: return story.incidents;
            case 2: return story.occasions;
            case 3: return ledger.interest;
            case 4: return ledger.cover;
            case 5: return ledger.week;
            case 6: return ledger.deposited;
            default: return BAD;
        }
    }

    public int one(int p, int what) {
        if (!isOne(p)) {
            return BAD;
        }
        switch (what) {
            case 0: return ledger.kind[p];
            case 1: return ledger.hand[p];
            case 2: return ledger.bank[p];
            case 3: return ledger.brazen[p];
            default: return BAD;
        }
    }

    public int trip(int i, int what) {
        if (!isIncident(i)) {
            return BAD;
        }
        switch (what) {
            case 0: return story.tripOne[i];
            case 1: return story.tripWeek[i];
            case 2: return story.tripSize[i];
            case 3: return ledger.seen[i];
            case 4: return ledger.isDeposited(i) ? 1 : 0;
            case 5: return ledger.blushOf(story, i);
            default: return BAD;
        }
    }

    public int asked(int k, int what) {
        if (k < 0 || k >= story.occasions) {
            return BAD;
        }
        switch (what) {
            case 0: return story.askedOne[k];
            case 1: return story.askedWeek[k];
            case 2: return story.askedFor[k];
            default: return BAD;
        }
    }

    // ---- what is changed

    public int deposit(int i, boolean is) {
        if (!isIncident(i)) {
            return BAD;
        }
        if (story.tripWeek[i] < ledger.week) {
            return STATE;
        }
        int was = ledger.isDeposited(i) ? 1 : 0;
        int bit = 1 << i;
        ledger.deposited = is ? ledger.deposited | bit : ledger.deposited & ~bit;
        return was;
    }

    public int give(int p, int q, int v) {
        if (!isOne(p) || !isOne(q) || p == q || !isWithin(v, TOLD_MOST)) {
            return BAD;
        }
        if (ledger.hand[p] < v) {
            return STATE;
        }
        if (ledger.hand[q] + v > BLUSH_MOST) {
            return FULL;
        }
        ledger.hand[p] -= v;
        ledger.hand[q] += v;
        return ledger.hand[p];
    }

    public int draw(int p, int v) {
        return ledger.takeOut(p, v);
    }

    public int rumour(int p) {
        return isOne(p) ? ledger.spreadRumour(story, p) : BAD;
    }

    public int law(int what, int v) {
        if (what == 0 && isWithin(v, INTEREST_MOST)) {
            int was = ledger.interest;
            ledger.interest = v;
            return was;
        }
        if (what == 1 && isWithin(v, COVER_MOST)) {
            int was = ledger.cover;
            ledger.cover = v;
            return was;
        }
        return BAD;
    }

    public int teach(int p, int kind) {
        if (!isOne(p) || !isWithin(kind, KINDS - 1)) {
            return BAD;
        }
        int was = ledger.kind[p];
        ledger.kind[p] = kind;
        return was;
    }

    // ---- weeks

    public int go(int n) {
        if (!isWithin(n, WEEKS_MOST)) {
            return BAD;
        }
        if (ledger.week + n > WEEK_MOST) {
            return FULL;
        }
        return ledger.passWeeks(story, n);
    }

    public int ahead(int p, int n, int what) {
        if (!isOne(p) || !isWithin(n, WEEKS_MOST) || !isWithin(what, 3)) {
            return BAD;
        }
        trial.copyFrom(ledger);
        trial.passWeeks(story, n);
        switch (what) {
            case 0: return trial.hand[p];
            case 1: return trial.bank[p];
            case 2: return trial.brazen[p] - ledger.brazen[p];
            default: return trial.cover;
        }
    }

    public int first(int p) {
        if (!isOne(p)) {
            return BAD;
        }
        trial.copyFrom(ledger);
        for (int w = 0; w < WEEKS_MOST; w++) {
            trial.passWeek(story);
            if ((trial.faces >> p & 1) == 1) {
                return ledger.week + w;
            }
        }
        return NONE;
    }

    public int modest() {
        trial.copyFrom(ledger);
        int many = 0;
        for (int w = 0; w < MODEST_WEEKS; w++) {
            if (trial.passWeek(story) == 0) {
                many++;
            }
        }
        return many;
    }

    // ---- plans (up to WEEK 9, that one too)

    public int plan(int set) {
        if (!isWithin(set, allIncidents())) {
            return BAD;
        }
        return keepsThePast(set) ? timesByPlan(set) : STATE;
    }

    public int best(int what) {
        if (!isWithin(what, 1)) {
            return BAD;
        }
        // What is deposited now keeps the past: it is always one of the plans to choose from.
        int found = ledger.deposited;
        int times = timesByPlan(found);
        for (int set = 0; set <= allIncidents(); set++) {
            if (keepsThePast(set)) {
                int now = timesByPlan(set);
                if (now < times || now == times && isSmaller(set, found)) {
                    found = set;
                    times = now;
                }
            }
        }
        return what == 0 ? found : times;
    }

    public int save(int p) {
        if (!isOne(p)) {
            return BAD;
        }
        int found = NONE;
        for (int set = 0; set <= allIncidents(); set++) {
            if (keepsThePast(set) && (found == NONE || isSmaller(set, found))) {
                timesByPlan(set);
                found = trial.brazen[p] == ledger.brazen[p] ? set : found;
            }
        }
        return found;
    }

    // ---- runs

    public int run(int what) {
        if (!isWithin(what, 2)) {
            return BAD;
        }
        trial.copyFrom(ledger);
        trial.runToCounter();
        switch (what) {
            case 0: return trial.sumAtBank();
            case 1: return trial.cover;
            default: return trial.whoHasNothingThere();
        }
    }

    public int holds() {
        for (int c = 0; c <= COVER_MOST; c++) {
            trial.copyFrom(ledger);
            trial.cover = c;
            trial.runToCounter();
            if (trial.sumAtBank() == 0) {
                return c;
            }
        }
        return NONE;
    }

    public int cover(int n) {
        if (!isWithin(n, WEEKS_MOST)) {
            return BAD;
        }
        for (int c = 0; c <= COVER_MOST; c++) {
            trial.copyFrom(ledger);
            trial.cover = c;
            if (staysModest(n)) {
                return c;
            }
        }
        return NONE;
    }

    public int rate(int n) {
        if (!isWithin(n, WEEKS_MOST)) {
            return BAD;
        }
        for (int r = 0; r <= INTEREST_MOST; r++) {
            trial.copyFrom(ledger);
            trial.interest = r;
            if (staysModest(n)) {
                return r;
            }
        }
        return NONE;
    }

    public int gift(int v, int what) {
        if (!isWithin(v, TOLD_MOST) || !isWithin(what, 1)) {
            return BAD;
        }
        int least = timesByPlan(ledger.deposited);
        int found = NONE;
        for (int p = 0; p < ledger.people; p++) {
            trial.copyFrom(ledger);
            trial.putInHand(p, v);
            int times = trial.passToLastWeek(story);
            if (times < least) {
                least = times;
                found = p;
            }
        }
        return found == NONE || what == 0 ? found : least;
    }

    // ---- secrets

    public int told(int p, int what) {
        if (!isOne(p) || !isWithin(what, 1)) {
            return BAD;
        }
        trial.copyFrom(ledger);
        trial.passToLastWeek(story);
        System.arraycopy(trial.brazen, 0, untold, 0, PEOPLE_MOST);
        timesByRumour(p);
        int bits = 0;
        for (int q = 0; q < ledger.people; q++) {
            int more = trial.brazen[q] - untold[q];
            if (what == 0 ? more > 0 : more < 0) {
                bits |= 1 << q;
            }
        }
        return bits;
    }

    public int whisper(int what) {
        if (!isWithin(what, 1)) {
            return BAD;
        }
        int least = timesByPlan(ledger.deposited);
        int found = NONE;
        for (int p = 0; p < ledger.people; p++) {
            int times = timesByRumour(p);
            if (times < least) {
                least = times;
                found = p;
            }
        }
        return found == NONE || what == 0 ? found : least;
    }

    // ---- faces

    public int note(int p, int week, boolean is) {
        if (!isOne(p) || !isWithin(week, LAST_WEEK)) {
            return BAD;
        }
        if (week < ledger.week) {
            return STATE;
        }
        return notes.append(p, week, is);
    }

    public int forget(int n) {
        if (!isWithin(n, notes.many)) {
            return BAD;
        }
        int had = notes.many;
        notes.many = n;
        return had;
    }

    public int fits(int what) {
        if (!isWithin(what, 3)) {
            return BAD;
        }
        int many = 0;
        int least = NONE;
        int inAll = allIncidents();
        int inSome = 0;
        for (int set = 0; set <= allIncidents(); set++) {
            if (keepsThePast(set) && isAsNoted(set)) {
                least = many == 0 ? set : least;
                many++;
                inAll &= set;
                inSome |= set;
            }
        }
        if (what == 0) {
            return many;
        }
        if (what == 1 || many == 0) {
            return least;
        }
        return what == 2 ? inAll : allIncidents() & ~inSome;
    }

    // ---- by a seed

    public int drift(int seed, int n, int what) {
        if (n < 1 || n > WEEKS_MOST || !isWithin(what, 1)) {
            return BAD;
        }
        if (ledger.people == 0) {
            return STATE;
        }
        trial.copyFrom(ledger);
        int times = 0;
        int now = seed;
        for (int w = 0; w < n; w++) {
            now = now * 1103515245 + 12345;
            int bits = now >>> 16 & 0x7FFF;
            trial.putInHand(bits % ledger.people, bits % 10);
            times += trial.passWeek(story);
        }
        return what == 0 ? times : trial.sumInHand();
    }

    // ---- images, sheets

    public int keep(int k) {
        if (!isWithin(k, IMAGES - 1)) {
            return BAD;
        }
        Image image = images[k];
        int was = image.there ? 1 : 0;
        image.ledger.copyFrom(ledger);
        image.notes.copyFrom(notes);
        image.there = true;
        return was;
    }

    public int back(int k) {
        if (!isWithin(k, IMAGES - 1)) {
            return BAD;
        }
        Image image = images[k];
        if (!image.there) {
            return STATE;
        }
        ledger.copyFrom(image.ledger);
        notes.copyFrom(image.notes);
        return ledger.week;
    }

    public int sheet(int k, int lane, int n) {
        if (!isWithin(k, SHEETS - 1) || !isWithin(lane, LANES - 1) || n > CELLS_MOST) {
            return BAD;
        }
        if (n < 0) {
            return -10 - SIZE_FAULT;
        }
        sheets[k].renew(lane, n);
        return 1;
    }

    public int lay(int k, int i, int v) {
        if (!isWithin(k, SHEETS - 1)) {
            return BAD;
        }
        Sheet sheet = sheets[k];
        int found = sheet.faultAt(sheet.lane, i);
        if (found != 0) {
            return -10 - found;
        }
        sheet.put(i, v);
        return 1;
    }

    public int read(int k, int lane, int f, int n) {
        if (!isWithin(k, SHEETS - 1) || !isWithin(lane, LANES - 1) || !isWithin(n, READ_MOST)) {
            return BAD;
        }
        Sheet sheet = sheets[k];
        trial.copyFrom(ledger);
        int came = 0;
        int found = 0;
        for (int i = 0; i < n && found == 0; i++) {
            int at = f + 2 * i;
            found = sheet.faultOfPair(lane, at);
            if (found == 0) {
                if (trial.takeOut(sheet.cells[at], sheet.cells[at + 1]) < 0) {
                    return -20 - i;
                }
                came++;
            }
        }
        ledger.copyFrom(trial);
        tornFault = found;
        return came;
    }

    public int torn() {
        return tornFault;
    }

    public int count(int what) {
        switch (what) {
            case 0: return ledger.sumInHand();
            case 1: return ledger.sumAtBank();
            case 2: return notes.many;
            case 3: return (images[0].there ? 1 : 0) + (images[1].there ? 1 : 0);
            case 4: return scribe.length;
            case 5: return sheets[0].lane == Sheet.NOTHING ? NONE : sheets[0].size;
            default: return BAD;
        }
    }

    // ---- helpers

    private static boolean isWithin(int v, int most) {
        return v >= 0 && v <= most;
    }

    private boolean isOne(int p) {
        return p >= 0 && p < ledger.people;
    }

    private boolean isIncident(int i) {
        return i >= 0 && i < story.incidents;
    }

    private int allIncidents() {
        return (1 << story.incidents) - 1;
    }

    private boolean keepsThePast(int set) {
        int unlike = set ^ ledger.deposited;
        for (int i = 0; i < story.incidents; i++) {
            if (story.tripWeek[i] < ledger.week && (unlike >> i & 1) == 1) {
                return false;
            }
        }
        return true;
    }

    /** Fewer incidents are smaller; of as many, the least by bits. */
    private static boolean isSmaller(int set, int than) {
        int many = Integer.bitCount(set);
        int manyThan = Integer.bitCount(than);
        return many < manyThan || many == manyThan && set < than;
    }

    private int timesByPlan(int set) {
        trial.copyFrom(ledger);
        trial.deposited = set;
        return trial.passToLastWeek(story);
    }

    private int timesByRumour(int p) {
        trial.copyFrom(ledger);
        trial.spreadRumour(story, p);
        return trial.passToLastWeek(story);
    }

    private boolean staysModest(int n) {
        // Nothing is asked for behind the last week: weeks further on need not be gone through.
        int weeks = Math.min(n, LAST_WEEK + 1 - trial.week);
        for (int w = 0; w < weeks; w++) {
            if (trial.passWeek(story) > 0) {
                return false;
            }
        }
        return true;
    }

    private boolean isAsNoted(int set) {
        trial.copyFrom(ledger);
        trial.deposited = set;
        for (int w = ledger.week; w <= LAST_WEEK; w++) {
            trial.passWeek(story);
            if (!notes.agree(w, trial.faces)) {
                return false;
            }
        }
        return true;
    }

    /** What a text alone tells: incidents and occasions, but for what may change of them. */
    private static final class Story {
        int incidents;
        final int[] tripOne = new int[INCIDENTS_MOST];
        final int[] tripWeek = new int[INCIDENTS_MOST];
        final int[] tripSize = new int[INCIDENTS_MOST];
        int occasions;
        final int[] askedOne = new int[OCCASIONS_MOST];
        final int[] askedWeek = new int[OCCASIONS_MOST];
        final int[] askedFor = new int[OCCASIONS_MOST];

        void copyFrom(Story o) {
            incidents = o.incidents;
            System.arraycopy(o.tripOne, 0, tripOne, 0, INCIDENTS_MOST);
            System.arraycopy(o.tripWeek, 0, tripWeek, 0, INCIDENTS_MOST);
            System.arraycopy(o.tripSize, 0, tripSize, 0, INCIDENTS_MOST);
            occasions = o.occasions;
            System.arraycopy(o.askedOne, 0, askedOne, 0, OCCASIONS_MOST);
            System.arraycopy(o.askedWeek, 0, askedWeek, 0, OCCASIONS_MOST);
            System.arraycopy(o.askedFor, 0, askedFor, 0, OCCASIONS_MOST);
        }

        boolean knowsAllOf(int people) {
            for (int i = 0; i < incidents; i++) {
                if (tripOne[i] >= people) {
                    return false;
                }
            }
            for (int k = 0; k < occasions; k++) {
                if (askedOne[k] >= people) {
                    return false;
                }
            }
            return true;
        }
    }

    /** All that changes as weeks go. */
    private static final class Ledger {
        int people;
        final int[] kind = new int[PEOPLE_MOST];
        final int[] hand = new int[PEOPLE_MOST];
        final int[] bank = new int[PEOPLE_MOST];
        final int[] brazen = new int[PEOPLE_MOST];
        final int[] seen = new int[INCIDENTS_MOST];
        int deposited;
        int interest = INTEREST_AT_FIRST;
        int cover = COVER_AT_FIRST;
        int week;
        /** Who was brazen in the week that went last (bits). */
        int faces;

        void copyFrom(Ledger o) {
            people = o.people;
            System.arraycopy(o.kind, 0, kind, 0, PEOPLE_MOST);
            System.arraycopy(o.hand, 0, hand, 0, PEOPLE_MOST);
            System.arraycopy(o.bank, 0, bank, 0, PEOPLE_MOST);
            System.arraycopy(o.brazen, 0, brazen, 0, PEOPLE_MOST);
            System.arraycopy(o.seen, 0, seen, 0, INCIDENTS_MOST);
            deposited = o.deposited;
            interest = o.interest;
            cover = o.cover;
            week = o.week;
            faces = o.faces;
        }

        boolean isDeposited(int i) {
            return (deposited >> i & 1) == 1;
        }

        int blushOf(Story story, int i) {
            int sum = story.tripSize[i] + seen[i];
            switch (kind[story.tripOne[i]]) {
                case BISHOP: return 2 * sum;
                case WIDOW: return sum / 2;
                default: return sum;
            }
        }

        void putInHand(int p, int v) {
            hand[p] = Math.min(BLUSH_MOST, hand[p] + v);
        }

        void putAtBank(int p, int v) {
            bank[p] = Math.min(BLUSH_MOST, bank[p] + v);
        }

        int takeOut(int p, int v) {
            if (p < 0 || p >= people || !isWithin(v, TOLD_MOST)) {
                return BAD;
            }
            if (bank[p] < v || cover < v) {
                return STATE;
            }
            if (hand[p] + v > BLUSH_MOST) {
                return FULL;
            }
            bank[p] -= v;
            cover -= v;
            hand[p] += v;
            return cover;
        }

        int spreadRumour(Story story, int p) {
            int changed = 0;
            for (int i = 0; i < story.incidents; i++) {
                if (story.tripOne[i] == p && story.tripWeek[i] >= week && seen[i] != SEEN_MOST) {
                    seen[i] = SEEN_MOST;
                    changed++;
                }
            }
            return changed;
        }

        /** How often somebody is brazen in the n weeks that go. */
        int passWeeks(Story story, int n) {
            int times = 0;
            for (int w = 0; w < n; w++) {
                times += passWeek(story);
            }
            return times;
        }

        int passToLastWeek(Story story) {
            int times = 0;
            for (int w = week; w <= LAST_WEEK; w++) {
                times += passWeek(story);
            }
            return times;
        }

        int passWeek(Story story) {
            faces = 0;
            for (int i = 0; i < story.incidents; i++) {
                if (story.tripWeek[i] == week) {
                    befall(story, i);
                }
            }
            int times = 0;
            for (int k = 0; k < story.occasions; k++) {
                if (story.askedWeek[k] == week && !meets(story.askedOne[k], story.askedFor[k])) {
                    times++;
                }
            }
            closeWeek();
            return times;
        }

        private void befall(Story story, int i) {
            int blush = blushOf(story, i);
            if (isDeposited(i)) {
                putAtBank(story.tripOne[i], blush);
            } else {
                putInHand(story.tripOne[i], blush);
            }
        }

        private boolean meets(int p, int asks) {
            int fromHand = Math.min(hand[p], asks);
            int fromBank = Math.min(asks - fromHand, Math.min(bank[p], cover));
            int missing = asks - fromHand - fromBank;
            int fromCover = 0;
            if (kind[p] == BRIDE && bank[p] == fromBank) {
                fromCover = Math.min(missing, cover - fromBank);
            }
            if (fromCover < missing) {
                brazen[p]++;
                faces |= 1 << p;
                return false;
            }
            hand[p] -= fromHand;
            bank[p] -= fromBank;
            cover -= fromBank + fromCover;
            return true;
        }

        private void closeWeek() {
            for (int p = 0; p < people; p++) {
                hand[p] -= (hand[p] + 9) / 10;
                putAtBank(p, bank[p] * interest / 10);
            }
            cover = Math.min(COVER_MOST, cover + 1);
            week++;
        }

        /** Cover only gets less as they take: whom it refused once, it refuses in every later round. */
        void runToCounter() {
            for (int p = 0; p < people; p++) {
                if (bank[p] <= cover) {
                    cover -= bank[p];
                    putInHand(p, bank[p]);
                    bank[p] = 0;
                }
            }
        }

        int whoHasNothingThere() {
            int bits = 0;
            for (int p = 0; p < people; p++) {
                if (bank[p] == 0) {
                    bits |= 1 << p;
                }
            }
            return bits;
        }

        int sumInHand() {
            int sum = 0;
            for (int p = 0; p < people; p++) {
                sum += hand[p];
            }
            return sum;
        }

        int sumAtBank() {
            int sum = 0;
            for (int p = 0; p < people; p++) {
                sum += bank[p];
            }
            return sum;
        }
    }

    /** Faces that were seen: who was brazen in which week, or was not. */
    private static final class Notes {
        int many;
        private final int[] who = new int[NOTED_MOST];
        private final int[] when = new int[NOTED_MOST];
        private final int[] was = new int[NOTED_MOST];

        int append(int p, int week, boolean is) {
            if (many >= NOTED_MOST) {
                return FULL;
            }
            who[many] = p;
            when[many] = week;
            was[many] = is ? 1 : 0;
            many++;
            return many;
        }

        boolean agree(int week, int faces) {
            for (int j = 0; j < many; j++) {
                if (when[j] == week && (faces >> who[j] & 1) != was[j]) {
                    return false;
                }
            }
            return true;
        }

        void copyFrom(Notes o) {
            many = o.many;
            System.arraycopy(o.who, 0, who, 0, NOTED_MOST);
            System.arraycopy(o.when, 0, when, 0, NOTED_MOST);
            System.arraycopy(o.was, 0, was, 0, NOTED_MOST);
        }
    }

    private static final class Image {
        boolean there;
        final Ledger ledger = new Ledger();
        final Notes notes = new Notes();
    }

    /** A row of bytes, shorts or ints; it says itself what the machine would find. */
    private static final class Sheet {
        static final int NOTHING = -1;
        int lane = NOTHING;
        int size;
        final int[] cells = new int[CELLS_MOST];

        void renew(int newLane, int n) {
            lane = newLane;
            size = n;
            Arrays.fill(cells, 0);
        }

        void put(int i, int v) {
            switch (lane) {
                case 0: cells[i] = (byte) v; break;
                case 1: cells[i] = (short) v; break;
                default: cells[i] = v; break;
            }
        }

        int faultAt(int asLane, int i) {
            if (lane == NOTHING) {
                return NULL_FAULT;
            }
            if (asLane != lane) {
                return CAST_FAULT;
            }
            return i < 0 || i >= size ? INDEX_FAULT : 0;
        }

        int faultOfPair(int asLane, int i) {
            int found = faultAt(asLane, i);
            return found != 0 ? found : faultAt(asLane, i + 1);
        }
    }

    /** The tape, and what reads it into a story and a ledger of its own till all of it is taken. */
    private static final class Scribe {
        private static final int NAME = 0, NUMBER = 1, SEMICOLON = 2, END = 3;
        private static final int TRIP = 4, ASKED = 5, INTEREST = 6, COVER = 7, NO_WORD = -1;
        private static final int NUMBERS_MOST = 4;
        /** How many numbers stand behind each word. */
        private static final int[] NUMBERS_OF = {1, 1, 1, 1, 4, 3, 1, 1};
        /** The greatest of each, four places a word. */
        private static final int[] BOUNDS = {
            99, 0, 0, 0,
            99, 0, 0, 0,
            99, 0, 0, 0,
            99, 0, 0, 0,
            3, 9, 9, 9,
            3, 9, 30, 0,
            9, 0, 0, 0,
            99, 0, 0, 0
        };

        final Story story = new Story();
        final Ledger ledger = new Ledger();
        int length;
        int fault;
        private final byte[] tape = new byte[TAPE_MOST];
        private final int[] numbers = new int[NUMBERS_MOST];
        private int faultPlace;
        private int next;
        private int token;
        private int start;
        private boolean hasInterest;
        private boolean hasCover;

        int append(int c) {
            if (length >= TAPE_MOST) {
                return FULL;
            }
            tape[length] = (byte) c;
            length++;
            return length;
        }

        /** How many lines, or -10 less the place of the fault; the tape is empty then. */
        int readTape() {
            begin();
            int lines = 0;
            for (int most = 0; most <= TAPE_MOST; most++) {
                nextToken();
                if (fault == 0 && token != END) {
                    readLine();
                    lines++;
                }
                if (fault != 0 || token == END) {
                    break;
                }
            }
            if (fault == 0 && !story.knowsAllOf(ledger.people)) {
                fault = 6;
                faultPlace = length;
            }
            length = 0;
            return fault == 0 ? lines : -10 - faultPlace;
        }

        private void begin() {
            story.incidents = 0;
            story.occasions = 0;
            // No week goes in the scribe's own ledger: all else of it is as it was made.
            ledger.people = 0;
            ledger.interest = INTEREST_AT_FIRST;
            ledger.cover = COVER_AT_FIRST;
            fault = 0;
            next = 0;
            hasInterest = false;
            hasCover = false;
        }

        private void refuse(int found) {
            fault = found;
            faultPlace = start;
        }

        private void nextToken() {
            while (next < length && tape[next] == ' ') {
                next++;
            }
            start = next;
            if (next >= length) {
                token = END;
            } else if (isLetter(next)) {
                token = NAME;
                while (next < length && isLetter(next)) {
                    next++;
                }
            } else if (isFigure(next)) {
                token = NUMBER;
                while (next < length && isFigure(next)) {
                    next++;
                }
                if (next - start > 2) {
                    refuse(1);
                }
            } else if (tape[next] == ';') {
                token = SEMICOLON;
                next++;
            } else {
                refuse(1);
            }
        }

        private boolean isLetter(int i) {
            return tape[i] >= 'a' && tape[i] <= 'z';
        }

        private boolean isFigure(int i) {
            return tape[i] >= '0' && tape[i] <= '9';
        }

        private void readLine() {
            int word = token == NAME ? wordRead() : NO_WORD;
            if (word == NO_WORD) {
                refuse(2);
                return;
            }
            int tooOften = faultOfWord(word);
            if (tooOften != 0) {
                refuse(tooOften);
                return;
            }
            for (int j = 0; j < NUMBERS_OF[word] && fault == 0; j++) {
                numbers[j] = readNumber(BOUNDS[word * NUMBERS_MOST + j]);
            }
            if (fault == 0) {
                expect(SEMICOLON);
            }
            if (fault == 0) {
                tell(word);
            }
        }

        private void expect(int wanted) {
            nextToken();
            if (fault == 0 && token != wanted) {
                refuse(2);
            }
        }

        private int readNumber(int most) {
            expect(NUMBER);
            if (fault != 0) {
                return 0;
            }
            int value = 0;
            for (int i = start; i < next; i++) {
                value = value * 10 + tape[i] - '0';
            }
            if (value > most) {
                refuse(3);
            }
            return value;
        }

        private int wordRead() {
            if (isWord("plain")) {
                return 0;
            }
            if (isWord("bishop")) {
                return BISHOP;
            }
            if (isWord("bride")) {
                return BRIDE;
            }
            if (isWord("widow")) {
                return WIDOW;
            }
            if (isWord("trip")) {
                return TRIP;
            }
            if (isWord("asked")) {
                return ASKED;
            }
            if (isWord("interest")) {
                return INTEREST;
            }
            return isWord("cover") ? COVER : NO_WORD;
        }

        private boolean isWord(String word) {
            if (word.length() != next - start) {
                return false;
            }
            for (int i = 0; i < word.length(); i++) {
                if (tape[start + i] != word.charAt(i)) {
                    return false;
                }
            }
            return true;
        }

        private int faultOfWord(int word) {
            switch (word) {
                case INTEREST: return hasInterest ? 4 : 0;
                case COVER: return hasCover ? 4 : 0;
                case TRIP: return story.incidents >= INCIDENTS_MOST ? 5 : 0;
                case ASKED: return story.occasions >= OCCASIONS_MOST ? 5 : 0;
                default: return ledger.people >= PEOPLE_MOST ? 5 : 0;
            }
        }

        private void tell(int word) {
            switch (word) {
                case TRIP: tellTrip(); break;
                case ASKED: tellAsked(); break;
                case INTEREST:
                    ledger.interest = numbers[0];
                    hasInterest = true;
                    break;
                case COVER:
                    ledger.cover = numbers[0];
                    hasCover = true;
                    break;
                default:
                    ledger.kind[ledger.people] = word;
                    ledger.hand[ledger.people] = numbers[0];
                    ledger.people++;
                    break;
            }
        }

        private void tellTrip() {
            int i = story.incidents;
            story.tripOne[i] = numbers[0];
            story.tripWeek[i] = numbers[1];
            story.tripSize[i] = numbers[2];
            ledger.seen[i] = numbers[3];
            story.incidents++;
        }

        private void tellAsked() {
            int k = story.occasions;
            story.askedOne[k] = numbers[0];
            story.askedWeek[k] = numbers[1];
            story.askedFor[k] = numbers[2];
            story.occasions++;
        }
    }
}
