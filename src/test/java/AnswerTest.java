/** Promises 11 to 15: what there is; and the terms on yields. */
public final class AnswerTest {
    private static final int NO_SUCH = -1, BAD_VALUE = -2, NONE = -6;

    public static void main(String[] args) {
        ofRow();
        ofRowErrors();
        lowered();
        inHour();
        inHourErrors();
        nearestToBlame();
        over();
        offer();
        count();
        asksNothing();
        Due.end();
    }

    /** Heights 8, 8 and 5 at 0, 3 and 4, with all rights. */
    private static ShadowRows threeRows() {
        ShadowRows x = new ShadowRows();
        x.row(0, 4, 2);
        x.row(3, 2, 4);
        x.row(4, 5, 1);
        for (int hour = 0; hour < 10; hour++) {
            for (int row = 0; row < 3; row++) {
                for (int over = 0; over < 3; over++) {
                    x.grant(row, over, hour, 999);
                }
            }
        }
        return x;
    }

    private static void ofRow() {
        ShadowRows x = threeRows();
        int[][] due = {
            {0, 4, 2, 1000000000, 213, 280, 0, 5, 1},
            {3, 2, 4, 1000000000, 138, 260, 0, 10, 0},
            {4, 5, 1, 1000000000, 125, 200, 0, 5, 1}
        };
        for (int row = 0; row < 3; row++) {
            for (int what = 0; what < 9; what++) {
                Due.is("11: ofRow(" + row + ", " + what + ")", x.ofRow(row, what), due[row][what]);
            }
        }
        Due.is("15: the yields together", x.count(3), 476);
        x.wind(9, 9);
        Due.is("11: flat in one hour, shaded", x.ofRow(0, 4), 212);
        Due.is("11: flat in one hour, not shaded", x.ofRow(0, 5), 272);
        Due.is("11: no shade when flat", x.ofRow(0, 7), 4);
        Due.is("11: one hour less to blame 2", x.ofRow(1, 8), 0);
        x.wind(0, 9);
        x.wind(1, 9);
        Due.is("11: now 2 is to blame in the most hours", x.ofRow(1, 8), 2);
        x.tilt(2, 0);
        Due.is("11: flat rows shade nobody", x.ofRow(1, 7), 3);
        Due.is("11: a flat row has no shade", x.ofRow(2, 7), 0);
        Due.is("11: but somebody to blame", x.ofRow(2, 8), 1);
        ShadowRows z = new ShadowRows();
        z.row(0, 1, 2);
        z.row(1, 1, 4);
        z.grant(0, 1, 0, 1);
        Due.is("11: a shade of 1", z.inHour(1, 0, 2), 1);
        Due.is("11: an hour with a shade of 1", z.ofRow(1, 7), 1);
        ShadowRows y = new ShadowRows();
        y.row(0, 3, 3);
        Due.is("11: alone", y.ofRow(0, 4), 300);
        Due.is("11: nobody to blame", y.ofRow(0, 8), NONE);
        Due.is("11: no hour with shade", y.ofRow(0, 7), 0);
    }

    private static void ofRowErrors() {
        ShadowRows x = threeRows();
        Due.is("11: row -1", x.ofRow(-1, 0), NO_SUCH);
        Due.is("11: row 3", x.ofRow(3, 0), NO_SUCH);
        Due.is("11: row 6", x.ofRow(6, 0), NO_SUCH);
        Due.is("11: no row before a bad what", x.ofRow(3, 9), NO_SUCH);
        Due.is("11: what -1", x.ofRow(0, -1), BAD_VALUE);
        Due.is("11: what 9", x.ofRow(0, 9), BAD_VALUE);
        Due.is("11: what at int's end", x.ofRow(0, Integer.MIN_VALUE), BAD_VALUE);
    }

    /** Of length 10, with a neighbour 5 away: 2, 3, 4, 5 and 10 are lost, so that the tilt is 0 but in hour 4. */
    private static void lowered() {
        ShadowRows x = new ShadowRows();
        x.row(0, 10, 1);
        x.row(5, 1, 0);
        Due.is("11: lower in four hours", x.ofRow(0, 6), 4);
        x.tilt(0, 2);
        Due.is("11: lower in five hours", x.ofRow(0, 6), 5);
        x.wind(4, 7);
        Due.is("11: flat for the wind", x.ofRow(0, 6), 4);
        x.wind(9, 7);
        Due.is("11: flat for the wind, not lowered else", x.ofRow(0, 6), 4);
        x.grant(0, 1, 0, 18);
        Due.is("11: not lower with the right", x.ofRow(0, 6), 3);
        Due.is("11: not shaded yields: 20 * (1 + 5 + 4 + 3 + 2) + 100", x.ofRow(0, 5), 400);
        x.tilt(0, 0);
        Due.is("11: a tilt of 0 cannot be lower", x.ofRow(0, 6), 0);
    }

    private static void inHour() {
        ShadowRows x = threeRows();
        int[][] dueIn0 = {{2, 8, 0, NONE, 12}, {4, 8, 7, 0, 3}, {1, 5, 5, 1, 5}};
        int[][] dueIn6 = {{2, 8, 5, 1, 16}, {4, 8, 4, 2, 18}, {1, 5, 0, NONE, 25}};
        for (int row = 0; row < 3; row++) {
            for (int what = 0; what < 5; what++) {
                Due.is("12: inHour(" + row + ", 0, " + what + ")", x.inHour(row, 0, what), dueIn0[row][what]);
                Due.is("12: inHour(" + row + ", 6, " + what + ")", x.inHour(row, 6, what), dueIn6[row][what]);
            }
        }
        x.wind(6, 7);
        for (int row = 0; row < 3; row++) {
            Due.is("12: flat, tilt", x.inHour(row, 6, 0), 0);
            Due.is("12: flat, height", x.inHour(row, 6, 1), 0);
            Due.is("12: flat, shade", x.inHour(row, 6, 2), 0);
            Due.is("12: flat, to blame", x.inHour(row, 6, 3), NONE);
            Due.is("12: flat, yield", x.inHour(row, 6, 4), x.ofRow(row, 1));
        }
        x.tilt(0, 0);
        Due.is("12: without height no shade", x.inHour(0, 7, 2), 0);
        Due.is("12: but who is to blame", x.inHour(0, 7, 3), 1);
    }

    private static void inHourErrors() {
        ShadowRows x = threeRows();
        Due.is("12: row -1", x.inHour(-1, 0, 0), NO_SUCH);
        Due.is("12: row 3", x.inHour(3, 0, 0), NO_SUCH);
        Due.is("12: hour -1", x.inHour(0, -1, 0), NO_SUCH);
        Due.is("12: hour 10", x.inHour(0, 10, 0), NO_SUCH);
        Due.is("12: no hour before a bad what", x.inHour(0, 10, 5), NO_SUCH);
        Due.is("12: what -1", x.inHour(0, 0, -1), BAD_VALUE);
        Due.is("12: what 5", x.inHour(0, 0, 5), BAD_VALUE);
    }

    /** In hour 4, 20 high and 12 away comes up as 16 high and 8 away: to 4. */
    private static void nearestToBlame() {
        int[] places = {48, 52};
        int[] lengths = {5, 3};
        for (int far = 0; far < 2; far++) {
            ShadowRows x = new ShadowRows();
            x.row(places[far], lengths[far], 4);
            x.row(places[1 - far], lengths[1 - far], 4);
            x.row(54, 3, 4);
            for (int from = 0; from < 2; from++) {
                x.grant(from, 1 - from, 4, 999);
                x.grant(from, 2, 4, 999);
            }
            Due.is("12: as high as the other", x.over(0, 2, 4, 1), 8);
            Due.is("12: as high as the other", x.over(1, 2, 4, 1), 8);
            Due.is("12: the nearest is to blame", x.inHour(2, 4, 3), 1 - far);
            Due.is("12: the shade", x.inHour(2, 4, 2), 8);
            x.tilt(1 - far, 3);
            Due.is("12: a higher one is to blame, though farther", x.inHour(2, 4, 3), far);
        }
    }

    private static void over() {
        ShadowRows x = new ShadowRows();
        x.row(0, 10, 4);
        x.row(5, 5, 3);
        x.grant(0, 1, 4, 15);
        Due.is("13: right", x.over(0, 1, 4, 0), 15);
        Due.is("13: by its tilt in the hour", x.over(0, 1, 4, 1), 10);
        Due.is("13: by its own tilt", x.over(0, 1, 4, 2), 30);
        Due.is("13: where no shadow falls", x.over(1, 0, 4, 2), 0);
        Due.is("13: in the afternoon", x.over(1, 0, 5, 2), 5);
        Due.is("13: lowered in the afternoon", x.over(1, 0, 5, 1), 0);
        x.wind(4, 9);
        Due.is("13: flat", x.over(0, 1, 4, 1), 0);
        Due.is("13: its own tilt, though flat", x.over(0, 1, 4, 2), 30);
        Due.is("13: row -1", x.over(-1, 0, 0, 0), NO_SUCH);
        Due.is("13: row 2", x.over(2, 0, 0, 0), NO_SUCH);
        Due.is("13: other -1", x.over(0, -1, 0, 0), NO_SUCH);
        Due.is("13: other 2", x.over(0, 2, 0, 0), NO_SUCH);
        Due.is("13: hour -1", x.over(0, 1, -1, 0), NO_SUCH);
        Due.is("13: hour 10", x.over(0, 1, 10, 0), NO_SUCH);
        Due.is("13: no hour before the same row", x.over(0, 0, 10, 0), NO_SUCH);
        Due.is("13: the same row", x.over(1, 1, 0, 0), BAD_VALUE);
        Due.is("13: what -1", x.over(0, 1, 0, -1), BAD_VALUE);
        Due.is("13: what 3", x.over(0, 1, 0, 3), BAD_VALUE);
    }

    private static void offer() {
        ShadowRows x = threeRows();
        x.ask(2, 8, 33, 44);
        x.bid(1, 2, 7, 55, 66);
        int[][] due = {{2, 8, 33, 44, NONE}, {2, 7, 55, 66, 1}};
        for (int kind = 0; kind < 2; kind++) {
            for (int what = 0; what < 5; what++) {
                Due.is("14: offer(" + kind + ", 0, " + what + ")", x.offer(kind, 0, what), due[kind][what]);
            }
            Due.is("14: number -1", x.offer(kind, -1, 0), NO_SUCH);
            Due.is("14: number 1", x.offer(kind, 1, 0), NO_SUCH);
            Due.is("14: what -1", x.offer(kind, 0, -1), BAD_VALUE);
            Due.is("14: what 5", x.offer(kind, 0, 5), BAD_VALUE);
            Due.is("14: a bad what before no such one", x.offer(kind, 1, 5), BAD_VALUE);
        }
        Due.is("14: kind -1", x.offer(-1, 0, 0), BAD_VALUE);
        Due.is("14: kind 2", x.offer(2, 0, 0), BAD_VALUE);
        Due.is("14: a bad kind before no such one", x.offer(2, 9, 0), BAD_VALUE);
    }

    private static void count() {
        ShadowRows x = threeRows();
        x.ask(0, 0, 5, 5);
        x.ask(0, 1, 5, 5);
        x.bid(1, 0, 2, 3, 5);
        x.stow(9);
        Text.put(x, "m;");
        for (int hour = 0; hour < 10; hour++) {
            x.wind(hour, 9 - hour);
        }
        Due.is("15: rows", x.count(0), 3);
        Due.is("15: asks", x.count(1), 2);
        Due.is("15: bids", x.count(2), 1);
        Due.is("15: traded", x.count(4), 0);
        Due.is("15: STOW", x.count(5), 9);
        Due.is("15: pad", x.count(6), 2);
        Due.is("15: undo", x.count(7), 6);
        for (int hour = 0; hour < 10; hour++) {
            Due.is("15: wind", x.count(10 + hour), 9 - hour);
        }
        x.grant(1, 0, 0, 0);
        x.bid(1, 0, 0, 3, 5);
        x.match();
        Due.is("15: traded", x.count(4), 3);
        int[] bad = {-1, 8, 9, 20, Integer.MAX_VALUE, Integer.MIN_VALUE};
        for (int what : bad) {
            Due.is("15: count(" + what + ")", x.count(what), BAD_VALUE);
        }
    }

    private static void asksNothing() {
        ShadowRows x = new ShadowRows();
        x.row(0, 1, 1);
        x.row(1, 1, 1);
        x.ofRow(0, 8);
        x.inHour(0, 0, 4);
        x.over(0, 1, 0, 1);
        x.offer(0, 0, 0);
        x.count(3);
        Due.is("11 to 15: no changes", x.count(7), 2);
    }
}
