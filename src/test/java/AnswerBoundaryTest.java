/** The boundary cases in the promises 11 to 15: ofRow, inHour, over, offer, count. */
public final class AnswerBoundaryTest {
    private static final int NO_SUCH = -1, BAD_VALUE = -2, NONE = -6;
    private static final int PURSE = 1000000000;

    public static void main(String[] args) {
        ofRowAsBuilt();
        ofRowPurse();
        ofRowYield();
        ofRowUnshaded();
        ofRowLower();
        ofRowHoursWithShade();
        ofRowBlame();
        ofRowNoSuch();
        ofRowBadWhat();
        ofRowRefusals();

        inHourWhat();
        inHourEachHour();
        inHourNoSuch();
        inHourBadWhat();
        inHourRefusals();

        overRight();
        overHeightInTheHour();
        overHeightWithItsOwnTilt();
        overNoSuch();
        overBadValue();
        overRefusals();

        offerInTheirOrder();
        offerKind();
        offerWhat();
        offerOutOfRange();
        offerNoSuch();
        offerRefusals();

        countOfAll();
        countYields();
        countTraded();
        countStowAndPad();
        countUndo();
        countWinds();
        countOutOfRange();
        answersChangeNothing();
        Due.end();
    }

    // ---- Promise 11

    private static void ofRowAsBuilt() {
        Doc.promise(11, "`what`: 0 its place, 1 its length, 2 its tilt,");
        ShadowRows x = new ShadowRows();
        int[][] rows = {{0, 20, 4}, {200, 1, 0}, {199, 19, 3}, {1, 2, 1}, {100, 10, 2}, {99, 11, 0}};
        for (int[] row : rows) {
            x.row(row[0], row[1], row[2]);
        }
        for (int row = 0; row < 6; row++) {
            for (int what = 0; what < 3; what++) {
                Due.is("ofRow(" + row + ", " + what + ")", x.ofRow(row, what), rows[row][what]);
            }
        }
        x.tilt(5, 4);
        Due.is("the tilt now", x.ofRow(5, 2), 4);
        x.wind(0, 9);
        Due.is("its own tilt, whatever the wind is", x.ofRow(0, 2), 4);
    }

    private static void ofRowPurse() {
        Doc.promise(11, "3 its purse, and 1000000000,");
        ShadowRows x = Fields.rows(2);
        Due.is("0", x.ofRow(0, 3), PURSE);
        x.ask(0, 0, 1, 1);
        x.bid(1, 0, 0, 1, 1);
        x.match();
        Due.is("1", x.ofRow(0, 3), PURSE + 1);
        Due.is("-1", x.ofRow(1, 3), PURSE - 1);
        x.ask(1, 0, 1, 1);
        x.bid(0, 1, 0, 1, 1);
        x.match();
        Due.is("0 again", x.ofRow(1, 3), PURSE);
        ShadowRows y = Fields.rows(2);
        for (int i = 0; i < 100; i++) {
            y.ask(0, i % 10, 200, 999);
            y.bid(1, 0, i % 10, 200, 999);
            y.match();
            y.grant(1, 0, i % 10, 0);
        }
        Due.is("100 times 200 units for 999", y.ofRow(1, 3), PURSE - 19980000);
        Due.is("the seller's", y.ofRow(0, 3), PURSE + 19980000);
    }

    private static void ofRowYield() {
        Doc.promise(11, "4 its yield,");
        ShadowRows x = new ShadowRows();
        x.row(0, 1, 0);
        Due.is("the least: its length in each hour", x.ofRow(0, 4), 10);
        x.tilt(0, 1);
        Due.is("a height of 1", x.ofRow(0, 4), 40);
        for (int hour = 0; hour < 10; hour++) {
            x.wind(hour, 7);
        }
        Due.is("flat in all hours", x.ofRow(0, 4), 10);
        ShadowRows y = Fields.three();
        Due.is("it keeps to its rights, and has no height in any hour", y.ofRow(1, 4), 200);
        Due.is("on the edge it has a height in five hours", y.ofRow(0, 4), 80 * 15 + 200);
    }

    /** In the hour 4 the row 0, 80 high, comes up to 78 on the row 1, which is 80 high. */
    private static void ofRowUnshaded() {
        Doc.promise(11, "5 what its yield would be if nobody shaded it (with its tilts in the hours),");
        ShadowRows x = Fields.three();
        Due.is("lower in all hours", x.ofRow(1, 5), 200);
        Fields.grantAll(x, 4);
        Due.is("80 high in the hour 4", x.ofRow(1, 5), 80 * 5 + 200);
        Due.is("2 of them in the sun", x.ofRow(1, 4), 2 * 5 + 200);
        x.tilt(1, 3);
        Due.is("60 high", x.ofRow(1, 5), 60 * 5 + 200);
        Due.is("none of them in the sun", x.ofRow(1, 4), 200);
        x.wind(4, 7);
        Due.is("flat", x.ofRow(1, 5), 200);
        ShadowRows y = new ShadowRows();
        y.row(0, 20, 4);
        Due.is("alone", y.ofRow(0, 5), 2600);
        Due.is("alone, the same", y.ofRow(0, 4), 2600);
    }

    private static void ofRowLower() {
        Doc.promise(11, "6 in how many hours it lies lower than its tilt, but not for the wind,");
        ShadowRows x = Fields.three();
        Due.is("in all hours", x.ofRow(1, 6), 10);
        Due.is("in the hours 0 to 4", x.ofRow(0, 6), 5);
        for (int hour = 0; hour < 10; hour++) {
            x.wind(hour, 7);
            Due.is("flat for the wind in the hours up to " + hour, x.ofRow(1, 6), 9 - hour);
        }
        ShadowRows y = Fields.three();
        y.tilt(1, 0);
        Due.is("the tilt 0 is never lower", y.ofRow(1, 6), 0);
        y.tilt(1, 4);
        y.grant(1, 2, 0, 78);
        Due.is("lower by one tilt, and 1 less than it needs", y.ofRow(1, 6), 10);
        Due.is("its tilt then", y.inHour(1, 0, 0), 3);
        y.grant(1, 2, 0, 79);
        Due.is("as much as it needs", y.ofRow(1, 6), 9);
        ShadowRows alone = new ShadowRows();
        alone.row(0, 20, 4);
        for (int tilt = 0; tilt <= 4; tilt++) {
            alone.tilt(0, tilt);
            Due.is("in no hour with the tilt " + tilt, alone.ofRow(0, 6), 0);
        }
        alone.wind(0, 9);
        Due.is("the wind does not count", alone.ofRow(0, 6), 0);
    }

    /** The row 1 is 20 high, between two rows that are 2 high; 1 is lost between them, 2 in the hours 4 and 5. */
    private static void ofRowHoursWithShade() {
        Doc.promise(11, "7 in how many hours it has shade (above 0),");
        ShadowRows x = new ShadowRows();
        x.row(99, 2, 1);
        x.row(100, 20, 1);
        x.row(101, 2, 1);
        for (int hour = 0; hour < 10; hour++) {
            Fields.grantAll(x, hour);
            x.grant(0, 1, hour, 0);
            x.grant(2, 1, hour, 0);
        }
        Due.is("without rights they come up to 0", x.ofRow(1, 7), 0);
        int[] due = {1, 2, 3, 4, 4, 4, 5, 6, 7, 8};
        for (int hour = 0; hour < 10; hour++) {
            x.grant(hour < 5 ? 0 : 2, 1, hour, 1);
            Due.is("a shade of 1 in the hours up to " + hour, x.ofRow(1, 7), due[hour]);
        }
        x.tilt(0, 2);
        x.tilt(2, 2);
        Due.is("4 high they would come up to 2 in the hours 4 and 5, without the right", x.ofRow(1, 7), 8);
        for (int hour = 0; hour < 10; hour++) {
            x.grant(hour < 5 ? 0 : 2, 1, hour, 3);
        }
        Due.is("all hours", x.ofRow(1, 7), 10);
        x.tilt(1, 0);
        Due.is("a row without height has none", x.ofRow(1, 7), 0);
        x.tilt(1, 1);
        x.wind(0, 7);
        Due.is("nor has it any in an hour in which all lie flat", x.ofRow(1, 7), 9);
        Due.is("the first one in the hours 5 to 9", x.ofRow(0, 7), 5);
    }

    private static void ofRowBlame() {
        Doc.promise(11, "8 the row to blame in the most hours, of several the lowest one (NONE)");
        blameOfOuterRows(new int[] {99, 101, 100}, 2, 0, 1);
        blameOfOuterRows(new int[] {101, 99, 100}, 2, 0, 1);
        blameOfOuterRows(new int[] {99, 100, 101}, 1, 0, 2);
        blameOfOuterRows(new int[] {100, 101, 99}, 0, 1, 2);
        ShadowRows last = Fields.rows(6);
        for (int over = 0; over < 5; over++) {
            last.grant(5, over, 9, 999);
        }
        Due.is("the last of six rows", last.ofRow(4, 8), 5);
        Due.is("for the one before it, too", last.ofRow(3, 8), 5);
        last.wind(9, 9);
        Due.is("nobody any more", last.ofRow(4, 8), NONE);
    }

    /** The first and the second have lower and higher numbers; each one's shadow falls on the middle in five hours. */
    private static void blameOfOuterRows(int[] places, int middle, int first, int second) {
        ShadowRows x = new ShadowRows();
        for (int place : places) {
            x.row(place, 20, 1);
        }
        for (int hour = 0; hour < 10; hour++) {
            Fields.grantAll(x, hour);
            x.grant(first, middle, hour, 0);
            x.grant(second, middle, hour, 0);
        }
        int from = places[second] == 99 ? 0 : 5;
        Due.is("nobody in any hour", x.ofRow(middle, 8), NONE);
        x.grant(second, middle, from, 999);
        Due.is("one hour does", x.ofRow(middle, 8), second);
        x.grant(first, middle, 9 - from, 999);
        Due.is("of two with one hour the lowest", x.ofRow(middle, 8), first);
        x.grant(second, middle, from + 4, 999);
        Due.is("two hours are more than one", x.ofRow(middle, 8), second);
        for (int hour = 0; hour < 10; hour++) {
            x.grant(first, middle, hour, 999);
            x.grant(second, middle, hour, 999);
        }
        Due.is("of two with five hours the lowest", x.ofRow(middle, 8), first);
        x.wind(9 - from, 9);
        Due.is("five hours are more than four", x.ofRow(middle, 8), second);
        x.tilt(middle, 0);
        Due.is("also if it has no height to be shaded", x.ofRow(middle, 8), second);
    }

    private static void ofRowNoSuch() {
        Doc.promise(11, "Returns something about a row.");
        for (int rows = 0; rows <= 6; rows++) {
            ShadowRows x = Fields.rows(rows);
            for (int what = 0; what <= 8; what++) {
                Due.isTrue("the last of " + rows + " is there, " + what, rows == 0 || x.ofRow(rows - 1, what) != NO_SUCH);
                Due.is("one more than " + rows + ", " + what, x.ofRow(rows, what), NO_SUCH);
                Due.is("the row -1, " + what, x.ofRow(-1, what), NO_SUCH);
            }
        }
    }

    private static void ofRowBadWhat() {
        Doc.promise(11, "BAD_VALUE if what is out of range.");
        for (int what : Fields.outside(0, 8)) {
            Twin.refuses(Fields.busyWith(2), "ofRow(0, " + what + ")", x -> x.ofRow(0, what), BAD_VALUE);
        }
    }

    private static void ofRowRefusals() {
        Doc.promise(11, "Returns the number; NO_SUCH if there is no such row; BAD_VALUE if what is out of range.");
        for (int row : Fields.outside(0, 1)) {
            Twin.refuses(Fields.busyWith(2), "ofRow(" + row + ", 0)", x -> x.ofRow(row, 0), NO_SUCH);
            Twin.refuses(Fields.busyWith(2), "ofRow(" + row + ", -1)", x -> x.ofRow(row, -1), NO_SUCH);
            Twin.refuses(Fields.busyWith(2), "ofRow(" + row + ", 9)", x -> x.ofRow(row, 9), NO_SUCH);
        }
    }

    // ---- Promise 12

    /** In the hour 4 the row 0, 40 high, comes up to 38 on the row 1, which is 30, 38 or 40 high. */
    private static void inHourWhat() {
        Doc.promise(12, "`what`: 0 its tilt, 1 its height, 2 its shade, 3 the row to blame (NONE), 4 its yield");
        int[][] lengths = {{15, 30, 30, 15}, {19, 38, 38, 19}, {20, 40, 38, 30}};
        for (int[] due : lengths) {
            ShadowRows x = new ShadowRows();
            x.row(0, 20, 2);
            x.row(1, due[0], 2);
            x.grant(0, 1, 4, 38);
            Due.is("its tilt", x.inHour(1, 4, 0), 2);
            Due.is("its height", x.inHour(1, 4, 1), due[1]);
            Due.is("its shade", x.inHour(1, 4, 2), due[2]);
            Due.is("to blame", x.inHour(1, 4, 3), 0);
            Due.is("its yield", x.inHour(1, 4, 4), due[3]);
            Due.is("nobody shades the first one", x.inHour(0, 4, 2), 0);
            Due.is("nobody is to blame", x.inHour(0, 4, 3), NONE);
            Due.is("its yield", x.inHour(0, 4, 4), 40 * 5 + 20);
            x.wind(4, 7);
            for (int row = 0; row < 2; row++) {
                int[] flat = {0, 0, 0, NONE, x.ofRow(row, 1)};
                for (int what = 0; what < 5; what++) {
                    Due.is("flat, " + what, x.inHour(row, 4, what), flat[what]);
                }
            }
        }
    }

    /** Of three rows with the tilt 1, each one has the right to come up in just one hour. */
    private static void inHourEachHour() {
        Doc.promise(12, "Returns something about a row in an hour.");
        for (int with = 0; with < 10; with++) {
            ShadowRows x = Fields.three();
            for (int row = 0; row < 3; row++) {
                x.tilt(row, 1);
            }
            Fields.grantAll(x, with);
            for (int hour = 0; hour < 10; hour++) {
                Due.is("the middle one's tilt in the hour " + hour, x.inHour(1, hour, 0), hour == with ? 1 : 0);
                Due.is("its height", x.inHour(1, hour, 1), hour == with ? 20 : 0);
                int front = hour < 5 ? 0 : 2;
                Due.is("who is to blame for its shade", x.inHour(1, hour, 3), hour == with ? front : NONE);
            }
        }
    }

    private static void inHourNoSuch() {
        Doc.promise(12, "NO_SUCH if there is no such row or hour;");
        for (int row : Fields.outside(0, 1)) {
            Twin.refuses(Fields.busyWith(2), "inHour(" + row + ", 0, 0)", x -> x.inHour(row, 0, 0), NO_SUCH);
        }
        for (int hour : Fields.outside(0, 9)) {
            Twin.refuses(Fields.busyWith(2), "inHour(0, " + hour + ", 0)", x -> x.inHour(0, hour, 0), NO_SUCH);
        }
        Due.is("the row 6 of six", Fields.rows(6).inHour(6, 0, 0), NO_SUCH);
        Due.is("the row 5 of six in the hour 9", Fields.rows(6).inHour(5, 9, 3), NONE);
        Due.is("no row at all", new ShadowRows().inHour(0, 0, 0), NO_SUCH);
    }

    private static void inHourBadWhat() {
        Doc.promise(12, "BAD_VALUE if what is out of range.");
        for (int what : Fields.outside(0, 4)) {
            Twin.refuses(Fields.busyWith(2), "inHour(0, 0, " + what + ")", x -> x.inHour(0, 0, what), BAD_VALUE);
        }
    }

    private static void inHourRefusals() {
        Doc.promise(12, "Returns the number; NO_SUCH if there is no such row or hour; BAD_VALUE if what is out of range.");
        int[] rows = {0, -1, 2};
        int[] hours = {0, -1, 10};
        int[] whats = {0, -1, 5};
        for (int i = 1; i < 27; i++) {
            int row = rows[i / 9];
            int hour = hours[i / 3 % 3];
            int what = whats[i % 3];
            String call = "inHour(" + row + ", " + hour + ", " + what + ")";
            Twin.refuses(Fields.busyWith(2), call, x -> x.inHour(row, hour, what), i >= 3 ? NO_SUCH : BAD_VALUE);
        }
    }

    // ---- Promise 13

    private static void overRight() {
        Doc.promise(13, "Returns the right of a row over another one in an hour, or how high its shadow comes up there.");
        ShadowRows x = Fields.rows(6);
        x.grant(5, 0, 9, 999);
        Due.is("set", x.over(5, 0, 9, 0), 999);
        Due.is("at first", x.over(5, 0, 8, 0), 0);
        Due.is("the other way", x.over(0, 5, 9, 0), 0);
        x.wind(9, 9);
        Due.is("a right stays in the wind", x.over(5, 0, 9, 0), 999);
    }

    private static void overHeightInTheHour() {
        Doc.promise(13, "`what`: 0 the right, 1 the height by its tilt in the hour,");
        ShadowRows x = Fields.three();
        Due.is("no tilt in the hour", x.over(1, 2, 4, 1), 0);
        x.grant(1, 2, 4, 17);
        Due.is("1 less than a tilt of 1 needs", x.over(1, 2, 4, 1), 0);
        x.grant(1, 2, 4, 18);
        Due.is("as much as it needs", x.over(1, 2, 4, 1), 18);
        x.grant(1, 2, 4, 999);
        Due.is("all of it", x.over(1, 2, 4, 1), 78);
        Due.is("where it does not fall", x.over(1, 0, 4, 1), 0);
        x.wind(4, 7);
        Due.is("flat", x.over(1, 2, 4, 1), 0);
    }

    private static void overHeightWithItsOwnTilt() {
        Doc.promise(13, "2 the height if it had its own tilt");
        ShadowRows x = Fields.three();
        Due.is("without rights", x.over(1, 2, 4, 2), 78);
        Due.is("where it does not fall", x.over(1, 0, 4, 2), 0);
        x.wind(4, 9);
        Due.is("in the wind", x.over(1, 2, 4, 2), 78);
        x.tilt(1, 0);
        Due.is("its own tilt is 0", x.over(1, 2, 4, 2), 0);
        ShadowRows y = new ShadowRows();
        y.row(0, 3, 1);
        y.row(1, 1, 1);
        y.row(2, 1, 1);
        Due.is("3 less 2", y.over(0, 1, 4, 2), 1);
        Due.is("3 less 4", y.over(0, 2, 4, 2), 0);
    }

    private static void overNoSuch() {
        Doc.promise(13, "NO_SUCH if there is no such row or hour;");
        for (int row : Fields.outside(0, 1)) {
            Twin.refuses(Fields.busyWith(2), "over(" + row + ", 0, 0, 0)", x -> x.over(row, 0, 0, 0), NO_SUCH);
            Twin.refuses(Fields.busyWith(2), "over(0, " + row + ", 0, 0)", x -> x.over(0, row, 0, 0), NO_SUCH);
            Due.is("both no row", Fields.rows(2).over(row, row, 0, 0), NO_SUCH);
        }
        for (int hour : Fields.outside(0, 9)) {
            Twin.refuses(Fields.busyWith(2), "over(0, 1, " + hour + ", 0)", x -> x.over(0, 1, hour, 0), NO_SUCH);
        }
        Due.is("the row 6 of six", Fields.rows(6).over(6, 0, 0, 0), NO_SUCH);
        Due.is("over the row 6 of six", Fields.rows(6).over(0, 6, 0, 0), NO_SUCH);
        Due.is("no row at all", new ShadowRows().over(0, 1, 0, 0), NO_SUCH);
    }

    private static void overBadValue() {
        Doc.promise(13, "BAD_VALUE if both rows are the same, or what is out of range.");
        for (int row = 0; row < 6; row++) {
            for (int what = 0; what < 3; what++) {
                Due.is("the same row", Fields.rows(6).over(row, row, 9, what), BAD_VALUE);
            }
        }
        Twin.refuses(Fields.busyWith(2), "over(1, 1, 0, 0)", x -> x.over(1, 1, 0, 0), BAD_VALUE);
        for (int what : Fields.outside(0, 2)) {
            Twin.refuses(Fields.busyWith(2), "over(0, 1, 0, " + what + ")", x -> x.over(0, 1, 0, what), BAD_VALUE);
        }
    }

    private static void overRefusals() {
        Doc.promise(13, "Returns the number; NO_SUCH if there is no such row or hour; BAD_VALUE if both rows are the same, or what is out of range.");
        int[] rows = {0, 1, -1, 2};
        int[] hours = {0, -1, 10};
        int[] whats = {0, -1, 3};
        for (int i = 0; i < 144; i++) {
            int row = rows[i / 36];
            int other = rows[i / 9 % 4];
            int hour = hours[i / 3 % 3];
            int what = whats[i % 3];
            boolean noSuch = row < 0 || row > 1 || other < 0 || other > 1 || hour != 0;
            String call = "over(" + row + ", " + other + ", " + hour + ", " + what + ")";
            if (noSuch || row == other || what != 0) {
                Twin.refuses(Fields.busyWith(2), call, x -> x.over(row, other, hour, what), noSuch ? NO_SUCH : BAD_VALUE);
            }
        }
    }

    // ---- Promise 14

    private static ShadowRows tenOfEach() {
        ShadowRows x = Fields.rows(6);
        for (int i = 0; i < 10; i++) {
            x.ask(i % 6, i, 200 - i, 999 - i);
            x.bid((i + 1) % 6, i % 6, 9 - i, 1 + i, i);
        }
        return x;
    }

    private static void offerInTheirOrder() {
        Doc.promise(14, "Returns something about an ask or a bid, in their order.");
        ShadowRows x = tenOfEach();
        for (int i = 0; i < 10; i++) {
            int[] ask = {i % 6, i, 200 - i, 999 - i, NONE};
            int[] bid = {i % 6, 9 - i, 1 + i, i, (i + 1) % 6};
            for (int what = 0; what < 5; what++) {
                Due.is("offer(0, " + i + ", " + what + ")", x.offer(0, i, what), ask[what]);
                Due.is("offer(1, " + i + ", " + what + ")", x.offer(1, i, what), bid[what]);
            }
        }
    }

    private static void offerKind() {
        Doc.promise(14, "`kind`: 0 an ask, 1 a bid");
        ShadowRows x = Fields.rows(2);
        x.ask(0, 0, 11, 0);
        Due.is("the ask", x.offer(0, 0, 2), 11);
        Due.is("no bid", x.offer(1, 0, 2), NO_SUCH);
        x.takeBack(0, 0);
        x.bid(0, 1, 0, 22, 0);
        Due.is("no ask", x.offer(0, 0, 2), NO_SUCH);
        Due.is("the bid", x.offer(1, 0, 2), 22);
    }

    private static void offerWhat() {
        Doc.promise(14, "`what`: 0 the seller, 1 the hour, 2 its units, 3 its price, 4 the buyer (NONE for an ask)");
        ShadowRows x = Fields.rows(6);
        x.ask(5, 9, 200, 999);
        x.ask(0, 0, 1, 0);
        x.bid(5, 0, 9, 200, 999);
        x.bid(0, 5, 0, 1, 0);
        int[][] due = {{5, 9, 200, 999, NONE}, {0, 0, 1, 0, NONE}, {0, 9, 200, 999, 5}, {5, 0, 1, 0, 0}};
        for (int i = 0; i < 4; i++) {
            for (int what = 0; what < 5; what++) {
                Due.is("offer(" + i / 2 + ", " + i % 2 + ", " + what + ")", x.offer(i / 2, i % 2, what), due[i][what]);
            }
        }
    }

    private static void offerOutOfRange() {
        Doc.promise(14, "BAD_VALUE if kind or what is out of range;");
        for (int kind : Fields.outside(0, 1)) {
            Twin.refuses(Fields.busyWith(2), "offer(" + kind + ", 0, 0)", x -> x.offer(kind, 0, 0), BAD_VALUE);
        }
        for (int what : Fields.outside(0, 4)) {
            Twin.refuses(Fields.busyWith(2), "offer(0, 0, " + what + ")", x -> x.offer(0, 0, what), BAD_VALUE);
            Twin.refuses(Fields.busyWith(2), "offer(1, 0, " + what + ")", x -> x.offer(1, 0, what), BAD_VALUE);
        }
    }

    private static void offerNoSuch() {
        Doc.promise(14, "NO_SUCH if there is no such one.");
        for (int number : Fields.outside(0, 1)) {
            Twin.refuses(Fields.busyWith(2), "offer(0, " + number + ", 0)", x -> x.offer(0, number, 0), NO_SUCH);
            Twin.refuses(Fields.busyWith(2), "offer(1, " + number + ", 4)", x -> x.offer(1, number, 4), NO_SUCH);
        }
        for (int kind = 0; kind < 2; kind++) {
            Due.is("nothing there yet", new ShadowRows().offer(kind, 0, 0), NO_SUCH);
            Due.is("one more than ten", tenOfEach().offer(kind, 10, 0), NO_SUCH);
            ShadowRows x = tenOfEach();
            x.takeBack(kind, 0);
            Due.is("the tenth of nine", x.offer(kind, 9, 0), NO_SUCH);
        }
    }

    private static void offerRefusals() {
        Doc.promise(14, "Returns the number; BAD_VALUE if kind or what is out of range; NO_SUCH if there is no such one.");
        int[] kinds = {0, 1, -1, 2};
        int[] numbers = {0, -1, 2};
        int[] whats = {0, 4, -1, 5};
        for (int i = 0; i < 48; i++) {
            int kind = kinds[i / 12];
            int number = numbers[i / 4 % 3];
            int what = whats[i % 4];
            boolean bad = i / 24 == 1 || i % 4 >= 2;
            String call = "offer(" + kind + ", " + number + ", " + what + ")";
            if (bad || number != 0) {
                Twin.refuses(Fields.busyWith(2), call, x -> x.offer(kind, number, what), bad ? BAD_VALUE : NO_SUCH);
            }
        }
    }

    // ---- Promise 15

    private static void countOfAll() {
        Doc.promise(15, "`what`: 0 rows, 1 asks, 2 bids,");
        ShadowRows x = new ShadowRows();
        Due.is("no rows", x.count(0), 0);
        Due.is("no asks", x.count(1), 0);
        Due.is("no bids", x.count(2), 0);
        for (int row = 1; row <= 6; row++) {
            x.row(row, 1, 1);
            Due.is("rows", x.count(0), row);
        }
        for (int offer = 1; offer <= 10; offer++) {
            x.ask(0, 0, 1, 1);
            Due.is("asks", x.count(1), offer);
            Due.is("bids before", x.count(2), offer - 1);
            x.bid(0, 1, 0, 1, 1);
            Due.is("bids", x.count(2), offer);
        }
        x.row(9, 1, 1);
        x.ask(0, 0, 1, 1);
        x.bid(0, 1, 0, 1, 1);
        Due.is("as many rows as there may be", x.count(0), 6);
        Due.is("as many asks as there may be", x.count(1), 10);
        Due.is("as many bids as there may be", x.count(2), 10);
    }

    private static void countYields() {
        Doc.promise(15, "3 the yields of all rows together,");
        ShadowRows x = new ShadowRows();
        Due.is("no rows", x.count(3), 0);
        int sum = 0;
        for (int row = 0; row < 6; row++) {
            x.row(40 * row, 13, 1);
            sum += 13 * 30 + 130;
            Due.is("so far from each other that 14 are lost", x.count(3), sum);
        }
        ShadowRows busy = Fields.busy(6);
        sum = 0;
        for (int row = 0; row < 6; row++) {
            sum += busy.ofRow(row, 4);
        }
        Due.is("of all rows", busy.count(3), sum);
    }

    private static void countTraded() {
        Doc.promise(15, "4 units that were traded so far,");
        ShadowRows x = Fields.rows(2);
        Due.is("none", x.count(4), 0);
        for (int i = 1; i <= 3; i++) {
            x.ask(0, i, 200, 1);
            x.bid(1, 0, i, 200, 1);
            Due.is("not before they are matched", x.count(4), 200 * i - 200);
            x.match();
            Due.is("all of them", x.count(4), 200 * i);
        }
        x.match();
        Due.is("nothing is added", x.count(4), 600);
        x.undo();
        x.undo();
        Due.is("undone ones are not traded", x.count(4), 400);
    }

    private static void countStowAndPad() {
        Doc.promise(15, "5 STOW, 6 the length of the pad,");
        ShadowRows x = new ShadowRows();
        Due.is("STOW at first", x.count(5), 7);
        x.stow(1);
        Due.is("the least STOW", x.count(5), 1);
        x.stow(10);
        Due.is("the greatest STOW", x.count(5), 10);
        Due.is("an empty pad", x.count(6), 0);
        x.put('x');
        Due.is("one character", x.count(6), 1);
        Text.write(x, "12345678901234567890123456789012345678901234567890123456789012345678901234567890");
        Due.is("80 characters", x.count(6), 80);
        x.put('x');
        Due.is("no more", x.count(6), 80);
        x.wipe();
        Due.is("wiped", x.count(6), 0);
    }

    private static void countUndo() {
        Doc.promise(15, "7 how many changes can be undone,");
        ShadowRows x = new ShadowRows();
        for (int changes = 0; changes <= 8; changes++) {
            Due.is("after " + changes + " changes", x.count(7), Math.min(6, changes));
            x.wind(0, changes);
        }
        for (int left = 5; left >= 0; left--) {
            x.undo();
            Due.is("after undo()", x.count(7), left);
        }
        x.undo();
        Due.is("none is left", x.count(7), 0);
    }

    private static void countWinds() {
        Doc.promise(15, "10 to 19 the winds of the hours");
        ShadowRows x = new ShadowRows();
        for (int hour = 0; hour < 10; hour++) {
            Due.is("at first", x.count(10 + hour), 0);
            x.wind(hour, 9 - hour);
        }
        for (int hour = 0; hour < 10; hour++) {
            Due.is("the wind of the hour " + hour, x.count(10 + hour), 9 - hour);
        }
    }

    private static void countOutOfRange() {
        Doc.promise(15, "Returns a number.");
        for (int what = 0; what <= 7; what++) {
            Due.isTrue("count(" + what + ")", Fields.busy(2).count(what) >= 0);
        }
        Doc.promise(15, "Returns the number; BAD_VALUE if what is out of range.");
        int[] between = {8, 9};
        for (int what : between) {
            Twin.refuses(Fields.busyWith(2), "count(" + what + ")", x -> x.count(what), BAD_VALUE);
        }
        for (int what : Fields.outside(0, 19)) {
            Twin.refuses(Fields.busyWith(2), "count(" + what + ")", x -> x.count(what), BAD_VALUE);
        }
    }

    private static void answersChangeNothing() {
        Doc.terms("Texts", "Ahead of the calls `ofRow`, `inHour`, `over`, `offer`, `count` the interface says: ---- what there is.");
        for (int i = 0; i < 9; i++) {
            int what = i;
            Twin.changesNothing(Fields.busyWith(6), "ofRow(1, " + what + ")", x -> x.ofRow(1, what));
            Twin.changesNothing(Fields.busyWith(6), "inHour(1, 4, " + what + ")", x -> x.inHour(1, 4, what));
            Twin.changesNothing(Fields.busyWith(6), "over(0, 1, 4, " + what + ")", x -> x.over(0, 1, 4, what));
            Twin.changesNothing(Fields.busyWith(6), "offer(0, 0, " + what + ")", x -> x.offer(0, 0, what));
            Twin.changesNothing(Fields.busyWith(6), "offer(1, 0, " + what + ")", x -> x.offer(1, 0, what));
        }
        for (int i = 0; i < 20; i++) {
            int what = i;
            Twin.changesNothing(Fields.busyWith(6), "count(" + what + ")", x -> x.count(what));
        }
    }
}
