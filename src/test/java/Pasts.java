/** Banks that have lived, for tests that want much to be there, or very much. */
final class Pasts {
    private Pasts() { }

    /**
     * Something of everything, in week 3: blush in hand and at the bank, brazen ones, faces noted, two images,
     * sheets 0 (bytes) and 3 (ints), a fault 1, torn() 2, "plain 7;" on the tape. Of four incidents the last is to come.
     */
    static BlushBank lived() {
        BlushBank x = Checks.told("plain 20;bishop 3;bride 4;trip 0 0 5 4;trip 1 0 4 4;trip 1 2 3 1;trip 2 8 2 2;"
            + "asked 0 1 29;asked 2 2 9;cover 25;interest 5;");
        x.deposit(1, true);
        x.note(2, 8, false);
        x.keep(0);
        x.go(2);
        x.note(0, 5, false);
        x.deposit(3, true);
        x.keep(1);
        x.go(1);
        x.note(1, 9, false);
        x.sheet(0, 0, 5);
        x.lay(0, 0, 1);
        x.lay(0, 1, 2);
        x.lay(0, 4, 7);
        x.read(0, 0, 2, 2);
        x.sheet(3, 2, 3);
        x.lay(3, 0, 1);
        x.lay(3, 2, 3);
        x.feed('!');
        x.text();
        Checks.type(x, "plain 7;");
        return x;
    }

    /**
     * In week 6, interest 0, cover 99: bishops 0 and 1 have 999 each at the bank, of which 0 has taken so much into
     * his hand; an incident of 36 of his comes in week 8.
     */
    static BlushBank rich(int inHand) {
        BlushBank x = Checks.told("bishop 0;bishop 0;trip 0 0 9 9;trip 1 0 9 9;trip 0 8 9 9;interest 9;");
        x.deposit(0, true);
        x.deposit(1, true);
        x.go(6);
        x.law(0, 0);
        int left = inHand;
        for (int i = 0; i < 11 && left > 0; i++) {
            x.law(1, 99);
            x.draw(0, Math.min(left, 99));
            left -= Math.min(left, 99);
        }
        x.law(1, 99);
        return x;
    }

    /** Behind go() to that week; the text has nothing but a plain one with 50. */
    static BlushBank inWeek(int week) {
        BlushBank x = Checks.told("plain 50;");
        for (int left = week; left > 0; left -= 20) {
            x.go(Math.min(left, 20));
        }
        return x;
    }
}
