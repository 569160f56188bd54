import java.util.function.Consumer;
import java.util.function.Supplier;
import java.util.function.ToIntFunction;

/** The boundary sentences of the document about images, sheets and counts (promises 34 to 40). */
public final class SheetEdgesTest {
    private static final int BAD = -1, STATE = -2, NONE = -4;
    private static final int MIN = Integer.MIN_VALUE, MAX = Integer.MAX_VALUE;
    private static final int[] NO_SHEET = {-1, 4, MIN, MAX};
    private static final int[] NO_LANE = {-1, 3, MIN, MAX};
    private static final Checks c = new Checks();
    private static final Twins lived = new Twins(c, Pasts::lived);

    public static void main(String[] args) {
        keepBounds();
        keepWhetherThereWas();
        imagesOfAll();
        imagesOfAllThatChanges();
        imagesOfNoText();
        backBounds();
        backAgain();
        sheetBounds();
        sheetOfCells();
        sheetIsNew();
        layBounds();
        layFaults();
        lowestBitsOfBytes();
        lowestBitsOfShorts();
        allBitsOfInts();
        readBounds();
        readNoTimes();
        readTwentyTimes();
        readFromCellF();
        readHalfOfOne();
        readOfNothing();
        readOfAnotherLane();
        readRefusedByDraw();
        readOneBehindAnother();
        readFirstMet();
        tornOfLatestRead();
        tornOfRefusedReads();
        countBounds();
        countAnswers();
        c.finish();
    }

    private static void keepBounds() {
        c.at("keep: IMAGE k (0, 1). BAD");
        int[] wrong = {-1, 2, MIN, MAX};
        for (int k : wrong) {
            lived.still("keep(" + k + ")", y -> y.keep(k), BAD);
        }
    }

    private static void keepWhetherThereWas() {
        c.at("keep: whether there was one (1, 0)");
        BlushBank x = Checks.told("plain 5;");
        c.due("keep(1)", x.keep(1), 0);
        c.due("count(3)", x.count(3), 1);
        c.due("back(0)", x.back(0), STATE);
        c.due("keep(0)", x.keep(0), 0);
        c.due("count(3)", x.count(3), 2);
        c.due("keep(0)", x.keep(0), 1);
        c.due("keep(1)", x.keep(1), 1);
        c.due("count(3)", x.count(3), 2);
        c.due("keep(0) of nobody", new BlushBank().keep(0), 0);
    }

    private static void imagesOfAll() {
        c.at("back: all is as IMAGE k: WEEK");
        BlushBank x = Pasts.lived();
        c.due("back(0)", x.back(0), 0);
        c.due("rule(5)", x.rule(5), 0);
        c.due("rule(6)", x.rule(6), 2);
        c.due("rule(4)", x.rule(4), 25);
        c.due("one(0, 1)", x.one(0, 1), 20);
        c.due("one(0, 3)", x.one(0, 3), 0);
        c.due("one(1, 2)", x.one(1, 2), 0);
        c.due("count(2)", x.count(2), 1);
        c.due("back(1)", x.back(1), 2);
        c.due("rule(5)", x.rule(5), 2);
        c.due("rule(6)", x.rule(6), 10);
        c.due("rule(4)", x.rule(4), 27);
        c.due("one(0, 1)", x.one(0, 1), 23);
        c.due("one(0, 3)", x.one(0, 3), 1);
        c.due("one(1, 2)", x.one(1, 2), 36);
        c.due("count(2)", x.count(2), 2);
        c.due("count(3), both are there still", x.count(3), 2);
    }

    private static void imagesOfAllThatChanges() {
        c.at("IMAGE k is PEOPLE (all of them), INCIDENTS (SEEN BY, DEPOSITED), INTEREST, COVER, WEEK, what was NOTED");
        Supplier<BlushBank> kept = () -> {
            BlushBank x = Checks.told("plain 9;bride 8;trip 0 3 1 1;trip 1 2 2 2;asked 0 2 30;asked 1 0 30;cover 33;");
            x.deposit(0, true);
            x.go(1);
            x.note(0, 2, true);
            x.keep(1);
            return x;
        };
        Twins back = new Twins(c, kept);
        back.still("back(1), at once", y -> y.back(1), 1);
        back.still("back(1), behind go()", behind(y -> y.go(4)), 1);
        back.still("back(1), behind deposit(0)", behind(y -> y.deposit(0, false)), 1);
        back.still("back(1), behind deposit(1)", behind(y -> y.deposit(1, true)), 1);
        back.still("back(1), behind give()", behind(y -> y.give(0, 1, 3)), 1);
        back.still("back(1), behind rumour(0)", behind(y -> y.rumour(0)), 1);
        back.still("back(1), behind rumour(1)", behind(y -> y.rumour(1)), 1);
        back.still("back(1), behind law(0)", behind(y -> y.law(0, 9)), 1);
        back.still("back(1), behind law(1)", behind(y -> y.law(1, 1)), 1);
        back.still("back(1), behind teach()", behind(y -> y.teach(0, 1)), 1);
        back.still("back(1), behind note()", behind(y -> y.note(1, 5, true)), 1);
        back.still("back(1), behind forget()", behind(y -> y.forget(0)), 1);
        back.still("back(1), behind another face", behind(y -> {
            y.forget(0);
            y.note(0, 2, false);
        }), 1);
        back.still("back(1), behind a face of another one", behind(y -> {
            y.forget(0);
            y.note(1, 2, true);
        }), 1);
        back.still("back(1), behind a face of another WEEK", behind(y -> {
            y.forget(0);
            y.note(0, 3, true);
        }), 1);
    }

    private static ToIntFunction<BlushBank> behind(Consumer<BlushBank> change) {
        return x -> {
            change.accept(x);
            return x.back(1);
        };
    }

    private static void imagesOfNoText() {
        c.at("IMAGES are gone (behind a text that is taken); THE TAPE, SHEETS are in no IMAGE");
        BlushBank x = Pasts.lived();
        x.feed(' ');
        x.sheet(0, 1, 7);
        c.due("back(0)", x.back(0), 0);
        c.due("count(4)", x.count(4), 9);
        c.due("count(5)", x.count(5), 7);
        c.due("fault()", x.fault(), 1);
        c.due("torn()", x.torn(), 2);
        c.due("text()", x.text(), 1);
        c.due("count(3)", x.count(3), 0);
        c.due("back(0)", x.back(0), STATE);
        c.due("back(1)", x.back(1), STATE);
    }

    private static void backBounds() {
        c.at("back: BAD; STATE: there is none");
        int[] wrong = {-1, 2, MIN, MAX};
        for (int k : wrong) {
            lived.still("back(" + k + ")", y -> y.back(k), BAD);
        }
        Twins one = new Twins(c, () -> {
            BlushBank x = Checks.told("plain 50;");
            x.keep(1);
            x.go(3);
            return x;
        });
        one.still("back(0)", y -> y.back(0), STATE);
        one.still("back(2), BAD ahead of STATE", y -> y.back(2), BAD);
    }

    private static void backAgain() {
        c.at("back: an IMAGE may be gone back to again and again");
        BlushBank x = Checks.told("plain 50;");
        x.keep(0);
        for (int i = 0; i < 3; i++) {
            x.go(2);
            c.due("back(0)", x.back(0), 0);
            c.due("one(0, 1)", x.one(0, 1), 50);
            x.go(20);
        }
        x.back(0);
        c.due("go(20), up to 99 anew", x.go(20), 0);
    }

    private static void sheetBounds() {
        c.at("sheet: SHEETS 0 to 3, lanes 0 to 2. BAD: also n above 40; -10 - 4");
        BlushBank x = new BlushBank();
        for (int k = 0; k < 4; k++) {
            for (int lane = 0; lane < 3; lane++) {
                c.due("sheet(" + k + ", " + lane + ", 40)", x.sheet(k, lane, 40), 1);
                c.due("sheet(" + k + ", " + lane + ", 0)", x.sheet(k, lane, 0), 1);
            }
        }
        int[] tooMany = {41, 99, MAX};
        for (int n : tooMany) {
            lived.still("sheet(0, 1, " + n + ")", y -> y.sheet(0, 1, n), BAD);
        }
        int[] below = {-1, -40, MIN};
        for (int n : below) {
            lived.still("sheet(0, 1, " + n + ")", y -> y.sheet(0, 1, n), -14);
            lived.still("sheet(1, 1, " + n + "), of nothing", y -> y.sheet(1, 1, n), -14);
        }
        for (int k : NO_SHEET) {
            lived.still("sheet(" + k + ", 0, 1)", y -> y.sheet(k, 0, 1), BAD);
            lived.still("sheet(" + k + ", 0, -1), BAD first", y -> y.sheet(k, 0, -1), BAD);
        }
        for (int lane : NO_LANE) {
            lived.still("sheet(0, " + lane + ", 1)", y -> y.sheet(0, lane, 1), BAD);
            lived.still("sheet(0, " + lane + ", -1), BAD first", y -> y.sheet(0, lane, -1), BAD);
        }
    }

    private static void sheetOfCells() {
        c.at("rows with 0 to 40 CELLS");
        for (int lane = 0; lane < 3; lane++) {
            for (int n = 0; n <= 40; n++) {
                BlushBank x = new BlushBank();
                c.due("sheet(0, " + lane + ", " + n + ")", x.sheet(0, lane, n), 1);
                c.due("count(5)", x.count(5), n);
                c.due("lay(0, " + (n - 1) + ", 1)", x.lay(0, n - 1, 1), n == 0 ? -12 : 1);
                c.due("lay(0, " + n + ", 1)", x.lay(0, n, 1), -12);
            }
        }
    }

    /** In week 1: plain ones 0 and 1 have 10 and 7 at the bank, 3 and 0 in hand; cover is 15. */
    private static BlushBank banked() {
        BlushBank x = Checks.told("plain 4;plain 0;trip 0 0 5 5;trip 1 0 3 4;interest 0;");
        x.deposit(0, true);
        x.deposit(1, true);
        x.go(1);
        x.law(1, 15);
        return x;
    }

    private static BlushBank laid(int k, int lane, int... cells) {
        BlushBank x = banked();
        x.sheet(k, lane, cells.length);
        for (int i = 0; i < cells.length; i++) {
            c.due("lay(" + k + ", " + i + ", " + cells[i] + ")", x.lay(k, i, cells[i]), 1);
        }
        return x;
    }

    private static void sheetIsNew() {
        c.at("sheet: a SHEET is a new row of CELLS 0");
        BlushBank x = laid(2, 2, 0, 5, 1, 5);
        c.due("sheet(2, 2, 40)", x.sheet(2, 2, 40), 1);
        c.due("read(2, 2, 0, 20)", x.read(2, 2, 0, 20), 20);
        c.due("one(0, 1), nothing was drawn", x.one(0, 1), 3);
        c.due("rule(4)", x.rule(4), 15);
        x.lay(2, 39, 5);
        x.sheet(2, 0, 40);
        c.due("read(2, 0, 0, 20), in another lane too", x.read(2, 0, 0, 20), 20);
        c.due("rule(4)", x.rule(4), 15);
        x = laid(2, 1, 0, 5);
        x.sheet(1, 1, 2);
        c.due("read(2, 1, 0, 1), each is one of its own", x.read(2, 1, 0, 1), 1);
        c.due("one(0, 1)", x.one(0, 1), 8);
    }

    private static void layBounds() {
        c.at("lay: BAD: k");
        for (int k : NO_SHEET) {
            lived.still("lay(" + k + ", 0, 1)", y -> y.lay(k, 0, 1), BAD);
            lived.still("lay(" + k + ", -1, 1), BAD first", y -> y.lay(k, -1, 1), BAD);
        }
    }

    private static void layFaults() {
        c.at("lay: -10 less the FAULT: NULL, INDEX");
        int[] places = {-1, 0, 39, 40, MIN, MAX};
        for (int i : places) {
            lived.still("lay(1, " + i + ", 1) of nothing", y -> y.lay(1, i, 1), -11);
        }
        int[] wrong = {-1, 5, 40, MIN, MAX};
        for (int i : wrong) {
            lived.still("lay(0, " + i + ", 1) of 5", y -> y.lay(0, i, 1), -12);
        }
        BlushBank x = Pasts.lived();
        c.due("lay(0, 0, 1)", x.lay(0, 0, 1), 1);
        c.due("lay(0, 4, 1)", x.lay(0, 4, 1), 1);
    }

    /** What one pair, the one 0 and v, draws of a sheet of that lane: so much, or it is refused. */
    private static void draws(int lane, int v, int want) {
        BlushBank x = laid(0, lane, 0, v);
        String name = v + " of lane " + lane;
        c.due("read(0, " + lane + ", 0, 1), " + name, x.read(0, lane, 0, 1), want < 0 ? -20 : 1);
        c.due("one(0, 1), " + name, x.one(0, 1), 3 + Math.max(want, 0));
    }

    private static void lowestBitsOfBytes() {
        c.at("lay: v (its lowest bits), of a BYTE");
        draws(0, 5, 5);
        draws(0, 256, 0);
        draws(0, 261, 5);
        draws(0, -251, 5);
        draws(0, 127, -1);
        draws(0, 128, -1);
        draws(0, 255, -1);
        draws(0, -1, -1);
        draws(0, MIN, 0);
        draws(0, MAX, -1);
        draws(0, 65536 + 7, 7);
    }

    private static void lowestBitsOfShorts() {
        c.at("lay: v (its lowest bits), of a SHORT");
        draws(1, 5, 5);
        draws(1, 256, -1);
        draws(1, 261, -1);
        draws(1, 65536, 0);
        draws(1, 65541, 5);
        draws(1, -65531, 5);
        draws(1, 32767, -1);
        draws(1, 32768, -1);
        draws(1, 65535, -1);
        draws(1, MIN, 0);
    }

    private static void allBitsOfInts() {
        c.at("lay: v, of an INT");
        draws(2, 5, 5);
        draws(2, 0, 0);
        draws(2, 256, -1);
        draws(2, 65536, -1);
        draws(2, 65541, -1);
        draws(2, -1, -1);
        draws(2, MIN, -1);
        draws(2, MAX, -1);
    }

    private static void readBounds() {
        c.at("read: n (0 to 20). BAD: k, lane, n");
        int[] wrong = {-1, 21, MIN, MAX};
        for (int n : wrong) {
            lived.still("read(0, 0, 0, " + n + ")", y -> y.read(0, 0, 0, n), BAD);
            lived.still("read(1, 0, 0, " + n + ") of nothing", y -> y.read(1, 0, 0, n), BAD);
        }
        for (int k : NO_SHEET) {
            lived.still("read(" + k + ", 0, 0, 1)", y -> y.read(k, 0, 0, 1), BAD);
        }
        for (int lane : NO_LANE) {
            lived.still("read(0, " + lane + ", 0, 1)", y -> y.read(0, lane, 0, 1), BAD);
            lived.still("read(1, " + lane + ", 0, 1) of nothing", y -> y.read(1, lane, 0, 1), BAD);
        }
    }

    private static void readNoTimes() {
        c.at("read: n 0 times: nothing is read");
        BlushBank x = laid(0, 0, 9, 9);
        int[] from = {0, 1, 2, 40, -1, MIN, MAX};
        for (int f : from) {
            x.read(0, 0, 2, 1);
            c.due("torn()", x.torn(), 2);
            c.due("read(0, 0, " + f + ", 0)", x.read(0, 0, f, 0), 0);
            c.due("torn()", x.torn(), 0);
        }
        c.due("rule(4)", x.rule(4), 15);
    }

    private static void readTwentyTimes() {
        c.at("read: n (0 to 20) times: how many came");
        int[] cells = new int[40];
        for (int i = 0; i < 15; i++) {
            cells[2 * i] = i < 10 ? 0 : 1;
            cells[2 * i + 1] = 1;
        }
        BlushBank x = laid(1, 0, cells);
        c.due("read(1, 0, 0, 20)", x.read(1, 0, 0, 20), 20);
        c.due("torn()", x.torn(), 0);
        c.due("one(0, 1)", x.one(0, 1), 13);
        c.due("one(1, 1)", x.one(1, 1), 5);
        c.due("one(1, 2)", x.one(1, 2), 2);
        c.due("rule(4)", x.rule(4), 0);
        x = laid(1, 0, cells);
        c.due("read(1, 0, 2, 20), the last is not there", x.read(1, 0, 2, 20), 19);
        c.due("torn()", x.torn(), 2);
        c.due("one(0, 1), those ahead came", x.one(0, 1), 12);
    }

    private static void readFromCellF() {
        c.at("read: two CELLS each from CELL f on");
        BlushBank x = laid(3, 2, 0, 1, 2, 1, 4);
        c.due("read(3, 2, 0, 1)", x.read(3, 2, 0, 1), 1);
        c.due("one(0, 1)", x.one(0, 1), 4);
        c.due("read(3, 2, 1, 1)", x.read(3, 2, 1, 1), 1);
        c.due("one(1, 1)", x.one(1, 1), 2);
        c.due("read(3, 2, 3, 1)", x.read(3, 2, 3, 1), 1);
        c.due("one(1, 1)", x.one(1, 1), 6);
        c.due("rule(4)", x.rule(4), 8);
        int[] outside = {-1, -2, 4, 5, 40, MIN, MIN + 1, MAX, MAX - 1};
        for (int f : outside) {
            c.due("read(3, 2, " + f + ", 20)", x.read(3, 2, f, 20), 0);
            c.due("torn()", x.torn(), 2);
            c.due("rule(4)", x.rule(4), 8);
        }
    }

    private static void readHalfOfOne() {
        c.at("read: what the machine refuses: those that were whole ahead come");
        BlushBank x = laid(0, 1, 0, 2, 9);
        c.due("read(0, 1, 0, 2), half of one is no one", x.read(0, 1, 0, 2), 1);
        c.due("torn()", x.torn(), 2);
        c.due("one(0, 1)", x.one(0, 1), 5);
        c.due("read(0, 1, 2, 1)", x.read(0, 1, 2, 1), 0);
        c.due("torn()", x.torn(), 2);
        x = laid(0, 1);
        c.due("read(0, 1, 0, 1) of 0 CELLS", x.read(0, 1, 0, 1), 0);
        c.due("torn()", x.torn(), 2);
    }

    private static void readOfNothing() {
        c.at("A FAULT is what the machine finds: 1 NULL (nothing)");
        int[] from = {0, -1, 40};
        for (int lane = 0; lane < 3; lane++) {
            for (int f : from) {
                BlushBank x = banked();
                c.due("read(2, " + lane + ", " + f + ", 20)", x.read(2, lane, f, 20), 0);
                c.due("torn()", x.torn(), 1);
                c.due("rule(4)", x.rule(4), 15);
            }
        }
    }

    private static void readOfAnotherLane() {
        c.at("A FAULT is what the machine finds: 3 CAST (another lane)");
        int[] from = {0, -1, 2, 40};
        for (int lane = 0; lane < 3; lane++) {
            for (int as = 0; as < 3; as++) {
                for (int f : from) {
                    BlushBank x = laid(2, lane, 0, 1);
                    String call = "read(2, " + as + ", " + f + ", 1) of lane " + lane;
                    c.due(call, x.read(2, as, f, 1), as == lane && f == 0 ? 1 : 0);
                    c.due("torn() behind " + call, x.torn(), as != lane ? 3 : f == 0 ? 0 : 2);
                }
            }
        }
        BlushBank x = laid(2, 0);
        c.due("read(2, 1, 0, 1) of 0 CELLS", x.read(2, 1, 0, 1), 0);
        c.due("torn()", x.torn(), 3);
    }

    private static void refused(int want, int n, int... cells) {
        Twins with = new Twins(c, () -> laid(0, 2, cells));
        with.still("read(0, 2, 0, " + n + ")", y -> y.read(0, 2, 0, n), want);
    }

    private static void readRefusedByDraw() {
        c.at("read: -20 less i: the i-th, whole, is refused by draw() (in whichever way): then none came");
        refused(-20, 1, 2, 0);
        refused(-20, 1, -1, 0);
        refused(-20, 1, MAX, 0);
        refused(-20, 1, MIN, 0);
        refused(-20, 1, 0, -1);
        refused(-20, 1, 0, 100);
        refused(-20, 1, 0, 11);
        refused(-20, 1, 1, 8);
        refused(-21, 2, 0, 1, 2, 1);
        refused(-22, 3, 0, 1, 1, 1, 0, 10);
        int[] last = new int[40];
        last[39] = 100;
        refused(-39, 20, last);
        Twins full = new Twins(c, () -> {
            BlushBank x = Pasts.rich(900);
            x.draw(1, 99);
            x.give(1, 0, 99);
            x.law(1, 99);
            x.sheet(0, 0, 2);
            x.lay(0, 1, 1);
            return x;
        });
        full.still("read(0, 0, 0, 1), more than 999", y -> y.read(0, 0, 0, 1), -20);
    }

    private static void readOneBehindAnother() {
        c.at("read: one behind another as by draw()");
        BlushBank x = laid(0, 0, 0, 8, 1, 7);
        c.due("read(0, 0, 0, 2), all of cover", x.read(0, 0, 0, 2), 2);
        c.due("rule(4)", x.rule(4), 0);
        refused(-21, 2, 0, 9, 1, 7);
        refused(-21, 2, 0, 10, 0, 1);
        x = laid(0, 0, 0, 10, 0, 0);
        c.due("read(0, 0, 0, 2)", x.read(0, 0, 0, 2), 2);
        c.due("one(0, 2)", x.one(0, 2), 0);
        refused(-22, 3, 0, 8, 1, 7, 0, 1);
    }

    private static void readFirstMet() {
        c.at("read: the first met");
        refused(-20, 20, 0, 100, 2, 0);
        refused(-21, 20, 0, 1, 0, 100, 9);
        refused(-20, 20, 2, 0);
        BlushBank x = laid(0, 2, 0, 1, 9);
        c.due("read(0, 2, 0, 20), the machine first", x.read(0, 2, 0, 20), 1);
        c.due("torn()", x.torn(), 2);
        x = laid(0, 2, 0, 100);
        c.due("read(0, 1, 0, 1), another lane first", x.read(0, 1, 0, 1), 0);
        c.due("torn()", x.torn(), 3);
    }

    private static void tornOfLatestRead() {
        c.at("torn: the FAULT of the latest read() that came to an end; 0");
        BlushBank x = laid(0, 0, 0, 1);
        c.due("torn() at first", x.torn(), 0);
        int[][] reads = {{1, 0, 0, 1}, {0, 0, 0, 2}, {0, 1, 0, 2}, {0, 0, 0, 1}, {0, 0, 1, 1}, {0, 0, 0, 0}, {3, 2, 0, 1}};
        int[] want = {1, 2, 3, 0, 2, 0, 1};
        for (int i = 0; i < reads.length; i++) {
            int[] r = reads[i];
            x.read(r[0], r[1], r[2], r[3]);
            c.due("torn() of read " + i, x.torn(), want[i]);
            c.due("torn() once more", x.torn(), want[i]);
        }
        x.lay(0, 2, 1);
        x.sheet(0, 0, -1);
        x.sheet(0, 0, 2);
        x.text();
        x.keep(0);
        x.back(0);
        c.due("torn(), no other call", x.torn(), 1);
    }

    private static void tornOfRefusedReads() {
        c.at("torn: a read() that is refused did not come to an end");
        int[][] before = {{0, 0, 0, 0}, {1, 0, 0, 1}, {0, 0, 2, 1}, {0, 1, 0, 1}};
        for (int fault = 0; fault < 4; fault++) {
            BlushBank x = laid(0, 0, 9, 9);
            x.read(before[fault][0], before[fault][1], before[fault][2], before[fault][3]);
            c.due("torn()", x.torn(), fault);
            c.due("read(0, 0, 0, 1), refused by draw()", x.read(0, 0, 0, 1), -20);
            c.due("torn()", x.torn(), fault);
            c.due("read(0, 0, 0, 21)", x.read(0, 0, 0, 21), BAD);
            c.due("torn()", x.torn(), fault);
        }
    }

    private static void countBounds() {
        c.at("count: 0 to 5. BAD");
        int[] wrong = {-1, 6, MIN, MAX};
        for (int w : wrong) {
            lived.still("count(" + w + ")", y -> y.count(w), BAD);
        }
    }

    private static void countAnswers() {
        c.at("count: 0 BLUSH in hand in all, 1 at THE BANK in all, 2 NOTED, 3 IMAGES, 4 bytes, 5 CELLS (NONE: nothing)");
        int[] want = {28, 54, 3, 2, 8, 5};
        for (int w = 0; w < 6; w++) {
            int what = w;
            lived.still("count(" + w + ")", y -> y.count(what), want[w]);
        }
        BlushBank x = new BlushBank();
        for (int k = 1; k < 4; k++) {
            x.sheet(k, 0, 3);
            c.due("count(5), of another sheet", x.count(5), NONE);
        }
        x.sheet(0, 2, 0);
        c.due("count(5) of 0 CELLS", x.count(5), 0);
        x.sheet(0, 1, 40);
        c.due("count(5)", x.count(5), 40);
        BlushBank rich = Pasts.rich(999);
        c.due("count(0)", rich.count(0), 999);
        c.due("count(1)", rich.count(1), 999);
    }
}
