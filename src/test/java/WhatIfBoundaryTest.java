/** The boundary cases in the promises 16 to 18: worth, bestTilt, bestTilts. */
public final class WhatIfBoundaryTest {
    private static final int NO_SUCH = -1, BAD_VALUE = -2;
    private static final int MORE = 1000000;

    public static void main(String[] args) {
        nothingChanges();
        worthAsGranted();
        worthRight();
        worthOfTheRow();
        worthOfTheOther();
        worthOfAll();
        worthNothing();
        worthAsForGrant();
        worthWhatOutOfRange();
        worthRefusals();

        bestTiltLeast();
        bestTiltGreatest();
        bestTiltWhat();
        bestTiltNoSuch();
        bestTiltBadWhat();
        bestTiltRefusals();

        bestTiltsGreatest();
        bestTiltsLeast();
        bestTiltsLeastOfPairs();
        bestTiltsWhat();
        bestTiltsOutOfRange();
        Due.end();
    }

    private static void nothingChanges() {
        Doc.terms("Texts", "Ahead of the calls `worth`, `bestTilt`, `bestTilts` the interface says: ---- what if; nothing changes.");
        for (int i = 0; i < 3; i++) {
            int what = i;
            Twin.changesNothing(Fields.busyWith(6), "worth(0, 1, 0, 0, " + what + ")", x -> x.worth(0, 1, 0, 0, what));
            Twin.changesNothing(Fields.busyWith(6), "worth(5, 4, 9, 999, " + what + ")", x -> x.worth(5, 4, 9, 999, what));
            Twin.changesNothing(Fields.busyWith(2), "worth(0, 1, 4, 1, " + what + ")", x -> x.worth(0, 1, 4, 1, what));
        }
        for (int i = 0; i < 6; i++) {
            int row = i;
            Twin.changesNothing(Fields.busyWith(6), "bestTilt(" + row + ", 0)", x -> x.bestTilt(row, 0));
            Twin.changesNothing(Fields.busyWith(6), "bestTilt(" + row + ", 1)", x -> x.bestTilt(row, 1));
            Twin.changesNothing(Fields.busyWith(6), "bestTilts(" + row + ")", x -> x.bestTilts(row));
        }
        Twin.changesNothing(Fields.busyWith(6), "bestTilts(9)", x -> x.bestTilts(9));
        Twin.changesNothing(ShadowRows::new, "bestTilts(9) without rows", x -> x.bestTilts(9));
    }

    // ---- Promise 16

    /** Two rows, 80 high, of which the row 0 loses 2 on the way to the row 1 in the hour 4; its right is as told. */
    private static ShadowRows twoHigh(int right) {
        ShadowRows x = new ShadowRows();
        x.row(100, 20, 4);
        x.row(101, 20, 4);
        x.grant(0, 1, 4, right);
        return x;
    }

    private static void worthAsGranted() {
        Doc.promise(16, "Tells what the yields would be with a right by hand.");
        int[] rights = {0, 1, 20, 40, 999};
        for (int right : rights) {
            for (int hour = 0; hour < 10; hour++) {
                ShadowRows x = Fields.busy(6);
                int row = hour % 6;
                int over = (hour + 1 + right % 5) % 6;
                int[] before = {x.ofRow(row, 4), -x.ofRow(over, 4), x.count(3)};
                int[] worth = {x.worth(row, over, hour, right, 0), x.worth(row, over, hour, right, 1), x.worth(row, over, hour, right, 2)};
                x.grant(row, over, hour, right);
                int[] after = {x.ofRow(row, 4), -x.ofRow(over, 4), x.count(3)};
                for (int what = 0; what < 3; what++) {
                    Due.is("worth(" + row + ", " + over + ", " + hour + ", " + right + ", " + what + ")", worth[what], MORE + after[what] - before[what]);
                }
            }
        }
    }

    private static void worthRight() {
        Doc.promise(16, "`right`: 0 to 999");
        Due.is("none, and there is none", twoHigh(0).worth(0, 1, 4, 0, 0), MORE);
        Due.is("1 less than the tilt 1 needs", twoHigh(0).worth(0, 1, 4, 17, 0), MORE);
        Due.is("as much as the tilt 1 needs", twoHigh(0).worth(0, 1, 4, 18, 0), MORE + 100);
        Due.is("1 less than the tilt 4 needs", twoHigh(0).worth(0, 1, 4, 77, 0), MORE + 300);
        Due.is("as much as the tilt 4 needs", twoHigh(0).worth(0, 1, 4, 78, 0), MORE + 400);
        Due.is("the greatest", twoHigh(0).worth(0, 1, 4, 999, 0), MORE + 400);
        for (int right : Fields.outside(0, 999)) {
            Twin.refuses(Fields.busyWith(2), "worth(0, 1, 4, " + right + ", 0)", x -> x.worth(0, 1, 4, right, 0), BAD_VALUE);
        }
    }

    private static void worthOfTheRow() {
        Doc.promise(16, "`what`: 0 how much greater the yield of the row would be,");
        Due.is("as much greater as can be", twoHigh(0).worth(0, 1, 4, 999, 0), MORE + 400);
        Due.is("the same", twoHigh(999).worth(0, 1, 4, 999, 0), MORE);
        Due.is("the same tilt by another right", twoHigh(999).worth(0, 1, 4, 78, 0), MORE);
        Due.is("as much less as can be", twoHigh(999).worth(0, 1, 4, 0, 0), MORE - 400);
        Due.is("less by a tilt", twoHigh(999).worth(0, 1, 4, 77, 0), MORE - 100);
    }

    private static void worthOfTheOther() {
        Doc.promise(16, "1 how much less that of the row over which it has the right,");
        Due.is("as much less as can be", twoHigh(0).worth(0, 1, 4, 999, 1), MORE + 390);
        Due.is("the same", twoHigh(999).worth(0, 1, 4, 999, 1), MORE);
        Due.is("as much greater as can be", twoHigh(999).worth(0, 1, 4, 0, 1), MORE - 390);
        ShadowRows x = twoHigh(0);
        x.tilt(1, 0);
        Due.is("without height it has nothing to lose", x.worth(0, 1, 4, 999, 1), MORE);
        x.tilt(1, 1);
        Due.is("no more than its height", x.worth(0, 1, 4, 999, 1), MORE + 100);
    }

    private static void worthOfAll() {
        Doc.promise(16, "2 how much greater the yields of all rows together (all with 1000000 more)");
        Due.is("greater by 400 less 390", twoHigh(0).worth(0, 1, 4, 999, 2), MORE + 10);
        Due.is("the same", twoHigh(999).worth(0, 1, 4, 999, 2), MORE);
        Due.is("less by 10", twoHigh(999).worth(0, 1, 4, 0, 2), MORE - 10);
        ShadowRows x = twoHigh(0);
        x.tilt(1, 1);
        x.row(102, 20, 4);
        x.grant(0, 2, 4, 999);
        x.grant(1, 2, 4, 999);
        Due.is("a third one loses, too: 400 less 100 and less 290", x.worth(0, 1, 4, 999, 2), MORE + 10);
        Due.is("the row alone", x.worth(0, 1, 4, 999, 0), MORE + 400);
        Due.is("the other one alone", x.worth(0, 1, 4, 999, 1), MORE + 100);
        ShadowRows many = manyBehind(2);
        many.grant(0, 1, 0, 3);
        Due.is("all have more though the row has less", many.worth(0, 1, 0, 0, 2), MORE + 1);
        Due.is("the row has less", many.worth(0, 1, 0, 0, 0), MORE - 4);
        Due.is("the other one has more", many.worth(0, 1, 0, 0, 1), MORE - 1);
    }

    private static void worthNothing() {
        Doc.promise(16, "(all with 1000000 more)");
        for (int what = 0; what < 3; what++) {
            Due.is("where the shadow does not fall", twoHigh(0).worth(0, 1, 5, 999, what), MORE);
            Due.is("of the row that it does not come from", twoHigh(0).worth(1, 0, 4, 999, what), MORE);
            ShadowRows x = twoHigh(0);
            x.wind(4, 7);
            Due.is("when all lie flat", x.worth(0, 1, 4, 999, what), MORE);
            ShadowRows y = twoHigh(0);
            y.row(102, 1, 0);
            Due.is("with no right over a third one", y.worth(0, 1, 4, 999, what), MORE);
        }
    }

    private static void worthAsForGrant() {
        Doc.promise(16, "NO_SUCH and BAD_VALUE as for grant();");
        for (int no : Fields.outside(0, 1)) {
            Twin.refuses(Fields.busyWith(2), "worth(" + no + ", 1, 0, 1, 0)", x -> x.worth(no, 1, 0, 1, 0), NO_SUCH);
            Twin.refuses(Fields.busyWith(2), "worth(0, " + no + ", 0, 1, 0)", x -> x.worth(0, no, 0, 1, 0), NO_SUCH);
            Due.is("both no row", Fields.rows(2).worth(no, no, 0, 1, 0), NO_SUCH);
        }
        for (int hour : Fields.outside(0, 9)) {
            Twin.refuses(Fields.busyWith(2), "worth(0, 1, " + hour + ", 1, 0)", x -> x.worth(0, 1, hour, 1, 0), NO_SUCH);
        }
        for (int row = 0; row < 6; row++) {
            Due.is("the same row", Fields.rows(6).worth(row, row, 0, 1, 0), BAD_VALUE);
        }
        Due.is("no row at all", new ShadowRows().worth(0, 1, 0, 1, 0), NO_SUCH);
    }

    private static void worthWhatOutOfRange() {
        Doc.promise(16, "BAD_VALUE, too, if what is out of range.");
        for (int what : Fields.outside(0, 2)) {
            Twin.refuses(Fields.busyWith(2), "worth(0, 1, 0, 1, " + what + ")", x -> x.worth(0, 1, 0, 1, what), BAD_VALUE);
        }
    }

    private static void worthRefusals() {
        Doc.promise(16, "Returns the number; NO_SUCH and BAD_VALUE as for grant(); BAD_VALUE, too, if what is out of range.");
        int[] rows = {0, 1, -1, 2};
        int[] hours = {0, -1, 10};
        int[] rights = {0, -1, 1000};
        int[] whats = {0, -1, 3};
        for (int i = 0; i < 432; i++) {
            int row = rows[i / 108];
            int over = rows[i / 27 % 4];
            int hour = hours[i / 9 % 3];
            int right = rights[i / 3 % 3];
            int what = whats[i % 3];
            boolean noSuch = row < 0 || row > 1 || over < 0 || over > 1 || hour != 0;
            String call = "worth(" + row + ", " + over + ", " + hour + ", " + right + ", " + what + ")";
            if (noSuch || row == over || i % 9 > 0) {
                Twin.refuses(Fields.busyWith(2), call, x -> x.worth(row, over, hour, right, what), noSuch ? NO_SUCH : BAD_VALUE);
            }
        }
    }

    // ---- Promise 17

    /**
     * In the hour 0 alone: rows of the height 1, which shade each other nothing, 1 to 5 places behind the row 0. At the
     * first three of them 1 is lost, at the others 2. With the tilts 0 to 4 of the row 0, of the length 1, the heights
     * in the sun are 5, 1 + 5, 2 + 2, 3, 4; of the length 2 they are 5, 2 + 2, 4, 6, 8.
     */
    private static ShadowRows manyBehind(int length) {
        ShadowRows x = new ShadowRows();
        x.row(100, length, 4);
        for (int row = 1; row < 6; row++) {
            x.row(100 + row, 1, 1);
        }
        Fields.grantAll(x, 0);
        Fields.stowAllBut(x, 0);
        return x;
    }

    private static void bestTiltLeast() {
        Doc.promise(17, "of several the least one.");
        ShadowRows flat = Fields.rows(6);
        for (int hour = 0; hour < 10; hour++) {
            flat.wind(hour, 7);
        }
        for (int row = 0; row < 6; row++) {
            Due.is("flat in all hours", flat.bestTilt(row, 0), 0);
        }
        for (int limit = 0; limit <= 4; limit++) {
            ShadowRows x = new ShadowRows();
            x.row(100, 20, 2);
            x.row(101, 1, 0);
            x.grant(0, 1, 0, Math.max(0, 20 * limit - 1));
            Fields.stowAllBut(x, 0);
            Due.is("no more than its right", x.bestTilt(0, 0), limit);
            Due.is("together", x.bestTilt(0, 1), 20 * limit + 210);
        }
        ShadowRows x = new ShadowRows();
        x.row(100, 10, 0);
        x.row(105, 10, 2);
        x.row(115, 10, 2);
        Fields.grantAll(x, 4);
        Fields.stowAllBut(x, 4);
        Due.is("with the tilts 1 to 4 alike 50 of the heights are in the sun, with 0 there are 40", x.bestTilt(0, 0), 1);
        Due.is("together", x.bestTilt(0, 1), 50 * 5 + 300);
    }

    private static void bestTiltGreatest() {
        Doc.promise(17, "Finds the tilt of a row with which the yields of all rows together would be the greatest,");
        ShadowRows alone = new ShadowRows();
        alone.row(0, 20, 0);
        Due.is("the greatest tilt", alone.bestTilt(0, 0), 4);
        Due.is("the yield with it", alone.bestTilt(0, 1), 2600);
        ShadowRows one = manyBehind(1);
        Due.is("the tilt 1, as a higher one shades the others", one.bestTilt(0, 0), 1);
        Due.is("together", one.bestTilt(0, 1), 6 + 60);
        Due.is("now, with the tilt 4", one.count(3), 4 + 60);
        ShadowRows two = manyBehind(2);
        Due.is("the tilt 4, though it shades the others", two.bestTilt(0, 0), 4);
        two.grant(0, 1, 0, 3);
        Due.is("the tilt 0, as with its right it comes to the tilt 2 at the most", two.bestTilt(0, 0), 0);
        Due.is("together", two.bestTilt(0, 1), 5 + 70);
        Due.is("its own tilt stays", two.ofRow(0, 2), 4);
    }

    private static void bestTiltWhat() {
        Doc.promise(17, "`what`: 0 the tilt, 1 the yields together");
        ShadowRows x = Fields.busy(6);
        for (int row = 0; row < 6; row++) {
            int best = 0;
            int most = -1;
            int own = x.ofRow(row, 2);
            int tilt = x.bestTilt(row, 0);
            int together = x.bestTilt(row, 1);
            for (int i = 0; i <= 4; i++) {
                x.tilt(row, i);
                if (x.count(3) > most) {
                    most = x.count(3);
                    best = i;
                }
            }
            x.tilt(row, own);
            Due.is("the tilt of the row " + row, tilt, best);
            Due.is("the yields with it", together, most);
        }
    }

    private static void bestTiltNoSuch() {
        Doc.promise(17, "NO_SUCH if there is no such row;");
        for (int row : Fields.outside(0, 1)) {
            Twin.refuses(Fields.busyWith(2), "bestTilt(" + row + ", 0)", x -> x.bestTilt(row, 0), NO_SUCH);
        }
        Due.is("the row 6 of six", Fields.rows(6).bestTilt(6, 0), NO_SUCH);
        Due.isTrue("the row 5 of six", Fields.rows(6).bestTilt(5, 0) >= 0);
        Due.is("no row at all", new ShadowRows().bestTilt(0, 1), NO_SUCH);
    }

    private static void bestTiltBadWhat() {
        Doc.promise(17, "BAD_VALUE if what is neither 0 nor 1.");
        for (int what : Fields.outside(0, 1)) {
            Twin.refuses(Fields.busyWith(2), "bestTilt(0, " + what + ")", x -> x.bestTilt(0, what), BAD_VALUE);
        }
    }

    private static void bestTiltRefusals() {
        Doc.promise(17, "Returns the number; NO_SUCH if there is no such row; BAD_VALUE if what is neither 0 nor 1.");
        int[] rows = {-1, 2};
        for (int row : rows) {
            for (int what : Fields.outside(0, 1)) {
                Twin.refuses(Fields.busyWith(2), "bestTilt(" + row + ", " + what + ")", x -> x.bestTilt(row, what), NO_SUCH);
            }
        }
    }

    // ---- Promise 18

    private static void bestTiltsGreatest() {
        Doc.promise(18, "Finds the tilts of all rows with which their yields together would be the greatest;");
        Due.is("no rows", new ShadowRows().bestTilts(9), 0);
        ShadowRows alone = new ShadowRows();
        alone.row(200, 20, 0);
        Due.is("the greatest tilt", alone.bestTilts(0), 4);
        Due.is("the greatest yield", alone.bestTilts(9), 2600);
        ShadowRows six = new ShadowRows();
        for (int row = 0; row < 6; row++) {
            six.row(row == 0 ? 0 : 40 * row, 3, 0);
        }
        for (int row = 0; row < 6; row++) {
            Due.is("12 high, 14 are lost", six.bestTilts(row), 4);
        }
        Due.is("six alike", six.bestTilts(9), 6 * (12 * 30 + 30));
        for (int row = 0; row < 6; row++) {
            six.tilt(row, six.bestTilts(row));
        }
        Due.is("with these tilts they yield it", six.count(3), six.bestTilts(9));
        ShadowRows lower = Fields.three();
        Due.is("what the rights allow, in the hours in which nobody is in the way", lower.bestTilts(9), 2 * 80 * 15 + 600);
        int[] tilts = {4, 0, 4};
        for (int row = 0; row < 3; row++) {
            Due.is("the row in the middle is never up", lower.bestTilts(row), tilts[row]);
        }
    }

    private static void bestTiltsLeast() {
        Doc.promise(18, "of several those with the least tilt of the row 0, of these of the row 1, and so on.");
        for (int rows = 1; rows <= 6; rows++) {
            ShadowRows flat = Fields.rows(rows);
            Due.isTrue("not flat yet", flat.bestTilts(9) >= flat.count(3));
            for (int hour = 0; hour < 10; hour++) {
                flat.wind(hour, 7);
            }
            for (int row = 0; row < rows; row++) {
                Due.is("flat in all hours", flat.bestTilts(row), 0);
            }
        }
        for (int limit = 0; limit <= 4; limit++) {
            ShadowRows x = new ShadowRows();
            x.row(100, 20, 4);
            x.row(101, 1, 0);
            x.grant(0, 1, 0, Math.max(0, 20 * limit - 1));
            Fields.stowAllBut(x, 0);
            Due.is("no more than its right", x.bestTilts(0), limit);
            Due.is("in the shadow none, if there is one", x.bestTilts(1), limit == 0 ? 4 : 0);
            Due.is("together", x.bestTilts(9), (limit == 0 ? 4 : 20 * limit) + 210);
            ShadowRows y = new ShadowRows();
            y.row(101, 1, 4);
            y.row(100, 20, 0);
            y.grant(1, 0, 0, Math.max(0, 20 * limit - 1));
            Fields.stowAllBut(y, 0);
            Due.is("the other row has the right", y.bestTilts(1), limit);
            Due.is("in its shadow none, if there is one", y.bestTilts(0), limit == 0 ? 4 : 0);
        }
    }

    /**
     * In the hour 4 alone: a row of the length 5 and 2 places behind it, where 4 are lost, one of the length 4. 20 of
     * the heights are in the sun with the tilt 4 in front and any behind, and with the tilt 4 behind and 1 to 4 in front.
     */
    private static void bestTiltsLeastOfPairs() {
        Doc.promise(18, "of these of the row 1, and so on.");
        for (int front = 0; front < 6; front++) {
            for (int behind = 0; behind < 6; behind++) {
                if (front != behind) {
                    pairOf(front, behind);
                }
            }
        }
    }

    private static void pairOf(int front, int behind) {
        ShadowRows x = new ShadowRows();
        for (int row = 0; row < 6; row++) {
            x.row(row == front ? 100 : row == behind ? 102 : 10 * row, row == front ? 5 : row == behind ? 4 : 1, 0);
        }
        x.grant(front, behind, 4, 999);
        Fields.stowAllBut(x, 4);
        for (int row = 0; row < 6; row++) {
            int due = front < behind && row == front ? 1 : behind < front && row == behind ? 0 : 4;
            Due.is("the row " + row + ", " + front + " before " + behind, x.bestTilts(row), due);
        }
        Due.is("together", x.bestTilts(9), (20 + 4 * 4) * 5 + 13 * 10);
    }

    private static void bestTiltsWhat() {
        Doc.promise(18, "`what`: 0 to the number of rows less 1: the tilt of this row; 9: the yields together");
        for (int rows = 0; rows <= 6; rows++) {
            ShadowRows x = Fields.rows(rows);
            for (int row = 0; row < rows; row++) {
                int tilt = x.bestTilts(row);
                Due.isTrue("the row " + row + " of " + rows, tilt >= 0 && tilt <= 4);
            }
            Due.isTrue("together", x.bestTilts(9) >= x.count(3));
            for (int what = rows; what <= 8; what++) {
                int no = what;
                int of = rows;
                Twin.refuses(() -> Fields.rows(of), "bestTilts(" + what + ") with " + rows + " rows", y -> y.bestTilts(no), BAD_VALUE);
            }
        }
    }

    private static void bestTiltsOutOfRange() {
        Doc.promise(18, "Returns the number; BAD_VALUE if what is out of range.");
        for (int what : Fields.outside(0, 9)) {
            Twin.refuses(Fields.busyWith(2), "bestTilts(" + what + ")", x -> x.bestTilts(what), BAD_VALUE);
            Due.is("bestTilts(" + what + ") with six rows", Fields.rows(6).bestTilts(what), BAD_VALUE);
            Due.is("bestTilts(" + what + ") without rows", new ShadowRows().bestTilts(what), BAD_VALUE);
        }
    }
}
