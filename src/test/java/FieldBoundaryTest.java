/** The boundary cases in the promises 1 to 6: a new object, row, tilt, wind, stow, grant. */
public final class FieldBoundaryTest {
    private static final int NO_SUCH = -1, BAD_VALUE = -2, BAD_TEXT = -3, TOO_MANY = -4, NOT_POSSIBLE = -5;

    public static void main(String[] args) {
        newObject();

        rowIsAChange();
        rowPlace();
        rowLength();
        rowTilt();
        rowNumber();
        rowOutOfRange();
        rowTooMany();
        rowAtThisPlace();
        rowRefusals();

        tiltIsAChange();
        tiltRange();
        tiltPrevious();
        tiltNoSuchRow();
        tiltOutOfRange();

        windIsAChange();
        windRange();
        windPrevious();
        windNoSuchHour();
        windOutOfRange();

        stowIsAChange();
        stowRange();
        stowPrevious();
        stowOutOfRange();

        grantIsAChange();
        grantRange();
        grantPrevious();
        grantNoSuch();
        grantBadValue();
        grantRefusals();
        Due.end();
    }

    // ---- Promise 1

    private static void newObject() {
        Doc.promise(1, "Creates a field without rows.");
        ShadowRows x = new ShadowRows();
        int[] counts = {0, 0, 0, 0, 0, 7, 0, 0, BAD_VALUE, BAD_VALUE, 0, 0, 0, 0, 0, 0, 0, 0, 0, 0, BAD_VALUE};
        for (int what = 0; what < counts.length; what++) {
            Due.is("count(" + what + ")", x.count(what), counts[what]);
        }
        for (int row = -1; row <= 6; row++) {
            Due.is("ofRow(" + row + ", 0)", x.ofRow(row, 0), NO_SUCH);
            Due.is("inHour(" + row + ", 0, 0)", x.inHour(row, 0, 0), NO_SUCH);
            Due.is("tilt(" + row + ", 0)", x.tilt(row, 0), NO_SUCH);
            Due.is("bestTilt(" + row + ", 0)", x.bestTilt(row, 0), NO_SUCH);
            Due.is("bestTilts(" + row + ")", x.bestTilts(row), BAD_VALUE);
            Due.is("ask(" + row + ", 0, 1, 1)", x.ask(row, 0, 1, 1), NO_SUCH);
        }
        Due.is("bestTilts(9)", x.bestTilts(9), 0);
        Due.is("match()", new ShadowRows().match(), 0);
        Due.is("takeBack(0, 0)", x.takeBack(0, 0), NO_SUCH);
        Due.is("takeBack(1, 0)", x.takeBack(1, 0), NO_SUCH);
        Due.is("fault()", x.fault(), 0);
        Due.is("carryOut()", x.carryOut(), BAD_TEXT);
        Due.is("wipe()", x.wipe(), 0);
        Due.is("undo()", x.undo(), NOT_POSSIBLE);
        Due.is("restore(0)", x.restore(0), NOT_POSSIBLE);
        Due.is("restore(1)", x.restore(1), NOT_POSSIBLE);
        Due.is("save(0)", x.save(0), 0);
        Twin.alike(ShadowRows::new, FieldBoundaryTest::madeAfterOthers, "a new object after a busy one");
    }

    private static ShadowRows madeAfterOthers() {
        Fields.busy(6).bestTilts(9);
        return new ShadowRows();
    }

    // ---- Promise 2

    private static void rowIsAChange() {
        Doc.promise(2, "Builds a row. This is a change.");
        ShadowRows x = new ShadowRows();
        x.row(7, 2, 3);
        Due.is("one can be undone", x.count(7), 1);
        Due.is("undone", x.undo(), 0);
        Due.is("no row", x.count(0), 0);
        Due.is("no row 0", x.ofRow(0, 0), NO_SUCH);
        Due.is("the place is free, and the number", x.row(7, 5, 1), 0);
        Due.is("the new length", x.ofRow(0, 1), 5);
        for (int rows = 0; rows <= 5; rows++) {
            int before = rows;
            Twin.undoes(() -> Fields.rows(before), "row(200, 20, 4)", y -> y.row(200, 20, 4));
        }
    }

    private static void rowPlace() {
        Doc.promise(2, "`place`: 0 to 200");
        int[] allowed = {0, 1, 199, 200};
        for (int place : allowed) {
            ShadowRows x = new ShadowRows();
            Due.is("row(" + place + ", 1, 1)", x.row(place, 1, 1), 0);
            Due.is("its place", x.ofRow(0, 0), place);
        }
        for (int place : Fields.outside(0, 200)) {
            Twin.refuses(Fields.busyWith(3), "row(" + place + ", 1, 1)", x -> x.row(place, 1, 1), BAD_VALUE);
            Due.is("row(" + place + ", 1, 1), no row yet", new ShadowRows().row(place, 1, 1), BAD_VALUE);
        }
    }

    private static void rowLength() {
        Doc.promise(2, "`length`: 1 to 20");
        int[] allowed = {1, 2, 19, 20};
        for (int length : allowed) {
            ShadowRows x = new ShadowRows();
            Due.is("row(1, " + length + ", 1)", x.row(1, length, 1), 0);
            Due.is("its length", x.ofRow(0, 1), length);
        }
        for (int length : Fields.outside(1, 20)) {
            Twin.refuses(Fields.busyWith(3), "row(1, " + length + ", 1)", x -> x.row(1, length, 1), BAD_VALUE);
            Due.is("row(1, " + length + ", 1), no row yet", new ShadowRows().row(1, length, 1), BAD_VALUE);
        }
    }

    private static void rowTilt() {
        Doc.promise(2, "`tilt`: 0 to 4");
        for (int tilt = 0; tilt <= 4; tilt++) {
            ShadowRows x = new ShadowRows();
            Due.is("row(1, 1, " + tilt + ")", x.row(1, 1, tilt), 0);
            Due.is("its tilt", x.ofRow(0, 2), tilt);
        }
        for (int tilt : Fields.outside(0, 4)) {
            Twin.refuses(Fields.busyWith(3), "row(1, 1, " + tilt + ")", x -> x.row(1, 1, tilt), BAD_VALUE);
            Due.is("row(1, 1, " + tilt + "), no row yet", new ShadowRows().row(1, 1, tilt), BAD_VALUE);
        }
    }

    private static void rowNumber() {
        Doc.promise(2, "Returns its number;");
        ShadowRows x = new ShadowRows();
        for (int row = 0; row < 6; row++) {
            Due.is("row number " + row, x.row(200 - row, 1, 1), row);
        }
    }

    private static void rowOutOfRange() {
        Doc.promise(2, "BAD_VALUE if an argument is out of range;");
        Due.is("all three too small", new ShadowRows().row(-1, 0, -1), BAD_VALUE);
        Due.is("all three too great", new ShadowRows().row(201, 21, 5), BAD_VALUE);
        Due.is("all three at the least", new ShadowRows().row(0, 1, 0), 0);
        Due.is("all three at the greatest", new ShadowRows().row(200, 20, 4), 0);
    }

    private static void rowTooMany() {
        Doc.promise(2, "TOO_MANY if there are 6 rows;");
        Due.is("five are there", Fields.rows(5).row(0, 1, 1), 5);
        Twin.refuses(Fields.busyWith(6), "row(0, 1, 1)", x -> x.row(0, 1, 1), TOO_MANY);
        Twin.refuses(Fields.busyWith(6), "row(200, 20, 4)", x -> x.row(200, 20, 4), TOO_MANY);
        ShadowRows x = Fields.rows(6);
        x.row(0, 1, 1);
        x.undo();
        Due.is("there are five again", x.row(0, 1, 1), 5);
    }

    private static void rowAtThisPlace() {
        Doc.promise(2, "NOT_POSSIBLE if a row is at this place.");
        for (int row = 0; row < 5; row++) {
            int place = 10 * row + 4;
            Twin.refuses(Fields.busyWith(5), "row(" + place + ", 1, 1)", x -> x.row(place, 1, 1), NOT_POSSIBLE);
            Due.is("one place less", Fields.rows(5).row(place - 1, 1, 1), 5);
            Due.is("one place more", Fields.rows(5).row(place + 1, 1, 1), 5);
        }
        ShadowRows x = new ShadowRows();
        x.row(0, 1, 0);
        Due.is("at 0", x.row(0, 2, 3), NOT_POSSIBLE);
        x.row(200, 1, 0);
        Due.is("at 200", x.row(200, 2, 3), NOT_POSSIBLE);
        x.undo();
        Due.is("at 200 no row is any more", x.row(200, 2, 3), 1);
    }

    private static void rowRefusals() {
        Doc.promise(2, "BAD_VALUE if an argument is out of range; TOO_MANY if there are 6 rows; NOT_POSSIBLE if a row is at this place.");
        int[][] bad = {{-1, 1, 1}, {201, 1, 1}, {4, 0, 1}, {4, 21, 1}, {4, 1, -1}, {4, 1, 5}, {0, 0, 0}};
        for (int[] a : bad) {
            String call = "row(" + a[0] + ", " + a[1] + ", " + a[2] + ")";
            Twin.refuses(Fields.busyWith(6), call + " with six rows", x -> x.row(a[0], a[1], a[2]), BAD_VALUE);
            Twin.refuses(Fields.busyWith(2), call + " with two rows", x -> x.row(a[0], a[1], a[2]), BAD_VALUE);
        }
        Twin.refuses(Fields.busyWith(6), "row(4, 1, 1), six rows, one at this place", x -> x.row(4, 1, 1), TOO_MANY);
        Twin.refuses(Fields.busyWith(6), "row(54, 1, 1), six rows, one at this place", x -> x.row(54, 1, 1), TOO_MANY);
        Twin.refuses(Fields.busyWith(2), "row(4, 1, 1), a row at this place", x -> x.row(4, 1, 1), NOT_POSSIBLE);
    }

    // ---- Promise 3

    private static void tiltIsAChange() {
        Doc.promise(3, "Changes the tilt of a row. This is a change.");
        Twin.undoes(() -> Fields.rows(5), "tilt(0, 0)", y -> y.tilt(0, 0));
        Twin.undoes(() -> Fields.rows(5), "tilt(4, 4)", y -> y.tilt(4, 4));
        ShadowRows x = Fields.rows(6);
        x.tilt(5, 4);
        for (int row = 0; row < 5; row++) {
            Due.is("the tilt of another row stays", x.ofRow(row, 2), (row + 2) % 5);
        }
        Due.is("the last row's", x.ofRow(5, 2), 4);
    }

    private static void tiltRange() {
        Doc.promise(3, "`tilt`: 0 to 4");
        ShadowRows x = Fields.rows(1);
        for (int tilt = 0; tilt <= 4; tilt++) {
            x.tilt(0, tilt);
            Due.is("tilt " + tilt, x.ofRow(0, 2), tilt);
        }
    }

    private static void tiltPrevious() {
        Doc.promise(3, "Returns the previous one;");
        ShadowRows x = Fields.rows(6);
        for (int row = 0; row < 6; row++) {
            Due.is("the one that it was built with", x.tilt(row, 4), (row + 2) % 5);
            Due.is("the greatest", x.tilt(row, 0), 4);
            Due.is("the least", x.tilt(row, 0), 0);
        }
    }

    private static void tiltNoSuchRow() {
        Doc.promise(3, "NO_SUCH if there is no such row;");
        for (int row : Fields.outside(0, 2)) {
            Twin.refuses(Fields.busyWith(3), "tilt(" + row + ", 1)", x -> x.tilt(row, 1), NO_SUCH);
            Due.is("tilt(" + row + ", -1)", Fields.rows(3).tilt(row, -1), NO_SUCH);
            Due.is("tilt(" + row + ", 5)", Fields.rows(3).tilt(row, 5), NO_SUCH);
        }
        Due.is("no row at all", new ShadowRows().tilt(0, 0), NO_SUCH);
        Due.is("the row 6 of six", Fields.rows(6).tilt(6, 0), NO_SUCH);
        ShadowRows x = Fields.rows(2);
        x.undo();
        Due.is("a row that is undone", x.tilt(1, 0), NO_SUCH);
    }

    private static void tiltOutOfRange() {
        Doc.promise(3, "BAD_VALUE if tilt is out of range.");
        for (int tilt : Fields.outside(0, 4)) {
            Twin.refuses(Fields.busyWith(3), "tilt(0, " + tilt + ")", x -> x.tilt(0, tilt), BAD_VALUE);
            Due.is("tilt(2, " + tilt + ")", Fields.rows(3).tilt(2, tilt), BAD_VALUE);
        }
    }

    // ---- Promise 4

    private static void windIsAChange() {
        Doc.promise(4, "Changes the wind of an hour. This is a change.");
        Twin.undoes(() -> Fields.rows(5), "wind(0, 9)", y -> y.wind(0, 9));
        Twin.undoes(() -> Fields.rows(5), "wind(9, 9)", y -> y.wind(9, 9));
        Twin.undoes(ShadowRows::new, "wind(9, 1)", y -> y.wind(9, 1));
        ShadowRows x = new ShadowRows();
        x.wind(9, 3);
        for (int hour = 0; hour < 9; hour++) {
            Due.is("the wind of another hour stays", x.count(10 + hour), 0);
        }
        Due.is("the last hour's", x.count(19), 3);
    }

    private static void windRange() {
        Doc.promise(4, "`wind`: 0 to 9");
        ShadowRows x = new ShadowRows();
        for (int wind = 0; wind <= 9; wind++) {
            x.wind(0, wind);
            x.wind(9, 9 - wind);
            Due.is("the wind of the hour 0", x.count(10), wind);
            Due.is("the wind of the hour 9", x.count(19), 9 - wind);
        }
    }

    private static void windPrevious() {
        Doc.promise(4, "Returns the previous one;");
        ShadowRows x = new ShadowRows();
        for (int hour = 0; hour < 10; hour++) {
            Due.is("at first", x.wind(hour, 9), 0);
            Due.is("the greatest", x.wind(hour, 9), 9);
            Due.is("the greatest", x.wind(hour, 0), 9);
            Due.is("the least", x.wind(hour, hour), 0);
        }
    }

    private static void windNoSuchHour() {
        Doc.promise(4, "NO_SUCH if there is no such hour;");
        for (int hour : Fields.outside(0, 9)) {
            Twin.refuses(Fields.busyWith(3), "wind(" + hour + ", 1)", x -> x.wind(hour, 1), NO_SUCH);
            Due.is("wind(" + hour + ", -1)", new ShadowRows().wind(hour, -1), NO_SUCH);
            Due.is("wind(" + hour + ", 10)", new ShadowRows().wind(hour, 10), NO_SUCH);
        }
        Due.is("without rows there are hours", new ShadowRows().wind(9, 1), 0);
    }

    private static void windOutOfRange() {
        Doc.promise(4, "BAD_VALUE if wind is out of range.");
        for (int wind : Fields.outside(0, 9)) {
            Twin.refuses(Fields.busyWith(3), "wind(0, " + wind + ")", x -> x.wind(0, wind), BAD_VALUE);
            Due.is("wind(9, " + wind + ")", new ShadowRows().wind(9, wind), BAD_VALUE);
        }
    }

    // ---- Promise 5

    private static void stowIsAChange() {
        Doc.promise(5, "Changes STOW. This is a change.");
        Twin.undoes(() -> Fields.rows(5), "stow(1)", y -> y.stow(1));
        Twin.undoes(() -> Fields.rows(5), "stow(10)", y -> y.stow(10));
        Twin.undoes(ShadowRows::new, "stow(6)", y -> y.stow(6));
    }

    private static void stowRange() {
        Doc.promise(5, "`stow`: 1 to 10");
        ShadowRows x = new ShadowRows();
        x.row(0, 1, 1);
        for (int stow = 1; stow <= 10; stow++) {
            x.stow(stow);
            Due.is("STOW", x.count(5), stow);
        }
        x.wind(0, 9);
        Due.is("with 10 no wind is too strong", x.inHour(0, 0, 0), 1);
        x.stow(1);
        Due.is("with 1 a wind of 0 is not too strong", x.inHour(0, 1, 0), 1);
        x.wind(1, 1);
        Due.is("with 1 a wind of 1 is", x.inHour(0, 1, 0), 0);
    }

    private static void stowPrevious() {
        Doc.promise(5, "Returns the previous value;");
        ShadowRows x = new ShadowRows();
        Due.is("at first", x.stow(1), 7);
        Due.is("the least", x.stow(10), 1);
        Due.is("the greatest", x.stow(10), 10);
        Due.is("the same again", x.stow(7), 10);
    }

    private static void stowOutOfRange() {
        Doc.promise(5, "BAD_VALUE if stow is out of range.");
        for (int stow : Fields.outside(1, 10)) {
            Twin.refuses(Fields.busyWith(3), "stow(" + stow + ")", x -> x.stow(stow), BAD_VALUE);
            Due.is("stow(" + stow + ") without rows", new ShadowRows().stow(stow), BAD_VALUE);
        }
    }

    // ---- Promise 6

    private static void grantIsAChange() {
        Doc.promise(6, "Sets a right by hand. This is a change.");
        Twin.undoes(() -> Fields.rows(5), "grant(0, 1, 0, 999)", y -> y.grant(0, 1, 0, 999));
        Twin.undoes(() -> Fields.rows(5), "grant(4, 3, 9, 1)", y -> y.grant(4, 3, 9, 1));
        ShadowRows x = Fields.rows(2);
        x.grant(0, 1, 4, 7);
        Due.is("no purse pays for it", x.ofRow(0, 3), 1000000000);
        Due.is("nor does it count as traded", x.count(4), 0);
    }

    private static void grantRange() {
        Doc.promise(6, "`right`: 0 to 999");
        ShadowRows x = Fields.rows(2);
        int[] allowed = {0, 1, 998, 999, 0};
        for (int right : allowed) {
            x.grant(1, 0, 9, right);
            Due.is("a right of " + right, x.over(1, 0, 9, 0), right);
        }
    }

    private static void grantPrevious() {
        Doc.promise(6, "Returns the previous one;");
        ShadowRows x = Fields.rows(6);
        int[][] pairs = {{0, 1}, {1, 0}, {0, 5}, {5, 0}, {4, 5}, {5, 4}};
        for (int[] pair : pairs) {
            for (int hour = 0; hour < 10; hour++) {
                Due.is("at first", x.grant(pair[0], pair[1], hour, 999), 0);
                Due.is("the greatest", x.grant(pair[0], pair[1], hour, 0), 999);
                Due.is("the least", x.grant(pair[0], pair[1], hour, 10 + hour), 0);
            }
        }
        for (int[] pair : pairs) {
            for (int hour = 0; hour < 10; hour++) {
                Due.is("its own", x.grant(pair[0], pair[1], hour, 0), 10 + hour);
            }
        }
    }

    private static void grantNoSuch() {
        Doc.promise(6, "NO_SUCH if there is no such row or hour;");
        for (int no : Fields.outside(0, 2)) {
            Twin.refuses(Fields.busyWith(3), "grant(" + no + ", 1, 0, 1)", x -> x.grant(no, 1, 0, 1), NO_SUCH);
            Twin.refuses(Fields.busyWith(3), "grant(0, " + no + ", 0, 1)", x -> x.grant(0, no, 0, 1), NO_SUCH);
            Due.is("both no row", Fields.rows(3).grant(no, no, 0, 1), NO_SUCH);
        }
        for (int hour : Fields.outside(0, 9)) {
            Twin.refuses(Fields.busyWith(3), "grant(0, 1, " + hour + ", 1)", x -> x.grant(0, 1, hour, 1), NO_SUCH);
        }
        Due.is("the row 6 of six", Fields.rows(6).grant(6, 0, 0, 1), NO_SUCH);
        Due.is("over the row 6 of six", Fields.rows(6).grant(0, 6, 0, 1), NO_SUCH);
        Due.is("no row at all", new ShadowRows().grant(0, 1, 0, 1), NO_SUCH);
    }

    private static void grantBadValue() {
        Doc.promise(6, "BAD_VALUE if both rows are the same, or right is out of range.");
        for (int row = 0; row < 6; row++) {
            int same = row;
            Twin.refuses(Fields.busyWith(6), "grant(" + row + ", " + row + ", 0, 1)", x -> x.grant(same, same, 0, 1), BAD_VALUE);
        }
        for (int right : Fields.outside(0, 999)) {
            Twin.refuses(Fields.busyWith(3), "grant(0, 1, 0, " + right + ")", x -> x.grant(0, 1, 0, right), BAD_VALUE);
            Due.is("the same row, and a right of " + right, Fields.rows(3).grant(2, 2, 9, right), BAD_VALUE);
        }
    }

    /** Each value that is right, too small, too great, or the same row, with each of the others. */
    private static void grantRefusals() {
        Doc.promise(6, "NO_SUCH if there is no such row or hour; BAD_VALUE if both rows are the same, or right is out of range.");
        int[] rows = {0, 1, -1, 2};
        int[] hours = {0, 9, -1, 10};
        int[] rights = {0, 999, -1, 1000};
        for (int i = 0; i < 256; i++) {
            int row = rows[i / 64];
            int over = rows[i / 16 % 4];
            int hour = hours[i / 4 % 4];
            int right = rights[i % 4];
            boolean noSuch = row < 0 || row > 1 || over < 0 || over > 1 || hour < 0 || hour > 9;
            boolean bad = row == over || right < 0 || right > 999;
            String call = "grant(" + row + ", " + over + ", " + hour + ", " + right + ")";
            if (noSuch || bad) {
                Twin.refuses(Fields.busyWith(2), call, x -> x.grant(row, over, hour, right), noSuch ? NO_SUCH : BAD_VALUE);
            } else {
                Due.is(call, Fields.rows(2).grant(row, over, hour, right), 0);
            }
        }
    }
}
