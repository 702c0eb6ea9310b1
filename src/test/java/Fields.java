import java.util.function.Supplier;

/** Fields from which the tests start; each call makes the same ones, with few calls. */
final class Fields {
    private Fields() {
    }

    /** So many rows, at the places 4, 14, 24 .., of the lengths 4, 7, 10 .., with the tilts 2, 3, 4, 0, 1, 2. */
    static ShadowRows rows(int rows) {
        ShadowRows x = new ShadowRows();
        for (int row = 0; row < rows; row++) {
            x.row(10 * row + 4, 3 * row + 4, (row + 2) % 5);
        }
        return x;
    }

    /**
     * So many rows, two or more, and something of all that there is: offers, traded rights, winds, a STOW, a history
     * of six states that differ, a text without a fault, and a state in the slot 0, but none in the slot 1.
     */
    static ShadowRows busy(int rows) {
        ShadowRows x = rows(rows);
        x.grant(1, 0, 7, 5);
        x.ask(1, 4, 20, 3);
        x.bid(0, 1, 4, 12, 5);
        x.match();
        x.save(0);
        x.ask(0, 2, 5, 9);
        x.bid(1, 0, 3, 7, 2);
        x.stow(6);
        x.wind(3, 5);
        x.wind(9, 8);
        x.tilt(0, 3);
        x.grant(0, 1, 0, 33);
        x.bid(0, 1, 4, 200, 0);
        x.wind(5, 2);
        Text.append(x, "t0=1;m;w0=3");
        return x;
    }

    /** Fills a field without rows: with all rows and offers that there can be, and purses. Of another kind all are others. */
    static ShadowRows fill(ShadowRows x, int kind) {
        for (int row = 0; row < 6; row++) {
            x.row(20 * row + 3 + 5 * kind, row + 1 + 3 * kind, (row + kind) % 5);
            x.ask(row, 9 - row, 100 + row + kind, 10 + row * row + kind);
        }
        for (int row = 0; row < 6; row++) {
            x.grant(row, (row + 1 + kind) % 6, row + kind, 700 + row + kind);
            x.bid((row + 1) % 6, row, 9 - row, 100 + row + kind, 999);
        }
        x.match();
        for (int i = 0; i < 10; i++) {
            x.wind(i, (i + kind) % 7);
            x.ask((i + kind) % 6, (i + kind) % 10, 50 + i + kind, 60 + i + kind);
            x.bid((i + kind) % 6, (i + 1 + 2 * kind) % 6, (i + kind) % 10, 70 + i + kind, 20 + i + kind);
        }
        x.stow(6 + kind);
        return x;
    }

    static ShadowRows full() {
        return fill(new ShadowRows(), 0);
    }

    static Supplier<ShadowRows> busyWith(int rows) {
        return () -> busy(rows);
    }

    /** Three rows of the length 20 and the tilt 4, one place apart; the row 1 stands in the middle. */
    static ShadowRows three() {
        ShadowRows x = new ShadowRows();
        x.row(100, 20, 4);
        x.row(101, 20, 4);
        x.row(102, 20, 4);
        return x;
    }

    /** Gives each row all rights over all others, in one hour. */
    static void grantAll(ShadowRows x, int hour) {
        int rows = x.count(0);
        for (int row = 0; row < rows; row++) {
            for (int over = 0; over < rows; over++) {
                x.grant(row, over, hour, 999);
            }
        }
    }

    /** All rows lie flat in all hours but this one. */
    static void stowAllBut(ShadowRows x, int hour) {
        for (int other = 0; other < 10; other++) {
            x.wind(other, other == hour ? 0 : 9);
        }
    }

    /** Values outside of a range, the first ones and the farthest ones among them. */
    static int[] outside(int least, int most) {
        return new int[] {
            Integer.MIN_VALUE, Integer.MIN_VALUE + 1, -1000000000, least - 1,
            most + 1, most + 256, 1 << 30, Integer.MAX_VALUE - 1, Integer.MAX_VALUE
        };
    }
}
