import java.util.ArrayList;
import java.util.List;

/** All that can be asked of a bank, row by row, but for fault(). It uses the bank up: images and the tape are spent. */
final class Portrait {
    private final BlushBank x;
    private final List<String> rows = new ArrayList<>();

    private Portrait(BlushBank x) {
        this.x = x;
    }

    static List<String> of(BlushBank x) {
        Portrait p = new Portrait(x);
        p.standing("now");
        p.outlook();
        for (int k = 0; k < 4; k++) {
            p.cells(k);
        }
        for (int k = 0; k < 2; k++) {
            p.row("back(" + k + ")", x.back(k));
            p.standing("behind back(" + k + ")");
        }
        p.row("fits(0)", x.fits(0));
        p.row("text()", x.text());
        p.standing("behind text()");
        return p.rows;
    }

    private void row(String call, int answer) {
        rows.add(call + " = " + answer);
    }

    private void standing(String when) {
        for (int w = 0; w < 7; w++) {
            row(when + ": rule(" + w + ")", x.rule(w));
        }
        for (int p = 0; p < x.rule(0); p++) {
            for (int w = 0; w < 4; w++) {
                row(when + ": one(" + p + ", " + w + ")", x.one(p, w));
            }
        }
        for (int i = 0; i < x.rule(1); i++) {
            for (int w = 0; w < 6; w++) {
                row(when + ": trip(" + i + ", " + w + ")", x.trip(i, w));
            }
        }
        for (int k = 0; k < x.rule(2); k++) {
            for (int w = 0; w < 3; w++) {
                row(when + ": asked(" + k + ", " + w + ")", x.asked(k, w));
            }
        }
        for (int w = 0; w < 6; w++) {
            row(when + ": count(" + w + ")", x.count(w));
        }
        row(when + ": torn()", x.torn());
    }

    private void outlook() {
        for (int p = 0; p < x.rule(0); p++) {
            row("ahead(" + p + ", 9, 0)", x.ahead(p, 9, 0));
            row("first(" + p + ")", x.first(p));
        }
        for (int w = 0; w < 4; w++) {
            row("fits(" + w + ")", x.fits(w));
        }
    }

    /** A sheet's lane shows by what a read behind its end finds, its cells by what they draw. */
    private void cells(int k) {
        for (int lane = 0; lane < 3; lane++) {
            x.read(k, lane, 40, 1);
            row("torn() of sheet " + k + " as of lane " + lane, x.torn());
            for (int f = 0; x.torn() == 2 && f < 5; f++) {
                row("read(" + k + ", " + lane + ", " + f + ", 1)", x.read(k, lane, f, 1));
                row("count(0)", x.count(0));
                x.read(k, lane, 40, 1);
            }
        }
    }
}
