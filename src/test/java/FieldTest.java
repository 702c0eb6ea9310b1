/** Promises 1 to 6: a new object, rows, tilts, winds, STOW, rights; and the terms on shadows and rights. */
public final class FieldTest {
    private static final int NO_SUCH = -1, BAD_VALUE = -2, TOO_MANY = -4, NOT_POSSIBLE = -5, NONE = -6;

    public static void main(String[] args) {
        newObject();
        row();
        rowErrors();
        tilt();
        wind();
        stow();
        grant();
        eachRightIsItsOwn();
        shadowsByHour();
        shadowsRoundUp();
        tiltsByRights();
        Due.end();
    }

    private static void newObject() {
        ShadowRows x = new ShadowRows();
        Due.is("1: rows", x.count(0), 0);
        Due.is("1: asks", x.count(1), 0);
        Due.is("1: bids", x.count(2), 0);
        Due.is("1: yields", x.count(3), 0);
        Due.is("1: traded", x.count(4), 0);
        Due.is("1: STOW", x.count(5), 7);
        Due.is("1: pad", x.count(6), 0);
        Due.is("1: undo", x.count(7), 0);
        for (int hour = 0; hour < 10; hour++) {
            Due.is("1: wind", x.count(10 + hour), 0);
        }
        Due.is("1: no row", x.ofRow(0, 0), NO_SUCH);
        Due.is("1: nothing to undo", x.undo(), NOT_POSSIBLE);
        Due.is("1: nothing saved in 0", x.restore(0), NOT_POSSIBLE);
        Due.is("1: nothing saved in 1", x.restore(1), NOT_POSSIBLE);
        Due.is("1: an empty pad has its fault at 0", x.fault(), 0);
        x.row(0, 1, 1);
        Due.is("1: two objects share nothing", new ShadowRows().count(0), 0);
    }

    private static void row() {
        ShadowRows x = new ShadowRows();
        Due.is("2: first", x.row(0, 1, 0), 0);
        Due.is("2: second", x.row(200, 20, 4), 1);
        Due.is("2: in between", x.row(100, 7, 2), 2);
        Due.is("2: place 0", x.ofRow(0, 0), 0);
        Due.is("2: place 1", x.ofRow(1, 0), 200);
        Due.is("2: place 2", x.ofRow(2, 0), 100);
        Due.is("2: length 0", x.ofRow(0, 1), 1);
        Due.is("2: length 1", x.ofRow(1, 1), 20);
        Due.is("2: length 2", x.ofRow(2, 1), 7);
        Due.is("2: tilt 0", x.ofRow(0, 2), 0);
        Due.is("2: tilt 1", x.ofRow(1, 2), 4);
        Due.is("2: tilt 2", x.ofRow(2, 2), 2);
        Due.is("2: purse", x.ofRow(1, 3), 1000000000);
        Due.is("2: a change", x.count(7), 3);
        Due.is("2: right of a new row", x.over(0, 2, 4, 0), 0);
    }

    private static void rowErrors() {
        ShadowRows x = new ShadowRows();
        for (int place = 10; place < 15; place++) {
            x.row(place, 1, 1);
        }
        Due.is("2: place -1", x.row(-1, 1, 0), BAD_VALUE);
        Due.is("2: place 201", x.row(201, 1, 0), BAD_VALUE);
        Due.is("2: length 0", x.row(1, 0, 0), BAD_VALUE);
        Due.is("2: length 21", x.row(1, 21, 0), BAD_VALUE);
        Due.is("2: tilt -1", x.row(1, 1, -1), BAD_VALUE);
        Due.is("2: tilt 5", x.row(1, 1, 5), BAD_VALUE);
        Due.is("2: bad before taken", x.row(10, 0, 0), BAD_VALUE);
        Due.is("2: taken by the first", x.row(10, 2, 2), NOT_POSSIBLE);
        Due.is("2: taken", x.row(12, 2, 2), NOT_POSSIBLE);
        Due.is("2: taken by the last", x.row(14, 2, 2), NOT_POSSIBLE);
        Due.is("2: errors change nothing", x.count(0), 5);
        Due.is("2: errors record nothing", x.count(7), 5);
        Due.is("2: sixth", x.row(15, 1, 1), 5);
        Due.is("2: seventh", x.row(16, 1, 1), TOO_MANY);
        Due.is("2: too many before taken", x.row(12, 1, 1), TOO_MANY);
        Due.is("2: bad before too many", x.row(16, 1, 9), BAD_VALUE);
        Due.is("2: int's ends", x.row(Integer.MIN_VALUE, Integer.MAX_VALUE, 0), BAD_VALUE);
    }

    private static void tilt() {
        ShadowRows x = new ShadowRows();
        Due.is("3: no row", x.tilt(0, 1), NO_SUCH);
        x.row(5, 3, 2);
        Due.is("3: previous", x.tilt(0, 4), 2);
        Due.is("3: previous 4", x.tilt(0, 0), 4);
        Due.is("3: now", x.ofRow(0, 2), 0);
        Due.is("3: a change", x.count(7), 3);
        Due.is("3: row -1", x.tilt(-1, 0), NO_SUCH);
        Due.is("3: row 1", x.tilt(1, 0), NO_SUCH);
        Due.is("3: no row before a bad tilt", x.tilt(1, 9), NO_SUCH);
        Due.is("3: tilt -1", x.tilt(0, -1), BAD_VALUE);
        Due.is("3: tilt 5", x.tilt(0, 5), BAD_VALUE);
        Due.is("3: errors change nothing", x.ofRow(0, 2), 0);
        Due.is("3: errors record nothing", x.count(7), 3);
    }

    private static void wind() {
        ShadowRows x = new ShadowRows();
        x.row(5, 3, 2);
        Due.is("4: previous", x.wind(9, 9), 0);
        Due.is("4: previous 9", x.wind(9, 6), 9);
        Due.is("4: now", x.count(19), 6);
        Due.is("4: others", x.count(18), 0);
        Due.is("4: below STOW", x.inHour(0, 9, 0), 2);
        x.wind(9, 7);
        Due.is("4: at STOW", x.inHour(0, 9, 0), 0);
        x.wind(9, 8);
        Due.is("4: above STOW", x.inHour(0, 9, 1), 0);
        Due.is("4: other hours stand", x.inHour(0, 8, 0), 2);
        Due.is("4: wind 0", x.wind(9, 0), 8);
        Due.is("4: not flat any more", x.inHour(0, 9, 0), 2);
        Due.is("4: a change", x.count(7), 6);
        Due.is("4: hour -1", x.wind(-1, 0), NO_SUCH);
        Due.is("4: hour 10", x.wind(10, 0), NO_SUCH);
        Due.is("4: no hour before a bad wind", x.wind(10, 10), NO_SUCH);
        Due.is("4: wind -1", x.wind(0, -1), BAD_VALUE);
        Due.is("4: wind 10", x.wind(0, 10), BAD_VALUE);
        Due.is("4: errors change nothing", x.count(10), 0);
        ShadowRows y = new ShadowRows();
        y.wind(10, 0);
        y.wind(0, 10);
        Due.is("4: errors record nothing", y.count(7), 0);
    }

    private static void stow() {
        ShadowRows x = new ShadowRows();
        x.row(5, 3, 2);
        Due.is("5: previous", x.stow(10), 7);
        Due.is("5: previous 10", x.stow(1), 10);
        Due.is("5: now", x.count(5), 1);
        Due.is("5: no wind is below any STOW", x.inHour(0, 0, 0), 2);
        x.wind(0, 1);
        Due.is("5: flat", x.inHour(0, 0, 0), 0);
        x.stow(10);
        x.wind(0, 9);
        Due.is("5: never flat with 10", x.inHour(0, 0, 0), 2);
        Due.is("5: a change", x.count(7), 6);
        Due.is("5: 0", x.stow(0), BAD_VALUE);
        Due.is("5: 11", x.stow(11), BAD_VALUE);
        Due.is("5: errors change nothing", x.count(5), 10);
        ShadowRows y = new ShadowRows();
        y.stow(0);
        Due.is("5: errors record nothing", y.count(7), 0);
    }

    private static void grant() {
        ShadowRows x = new ShadowRows();
        x.row(0, 1, 0);
        x.row(1, 1, 0);
        Due.is("6: previous", x.grant(0, 1, 3, 999), 0);
        Due.is("6: previous 999", x.grant(0, 1, 3, 0), 999);
        Due.is("6: set", x.grant(1, 0, 9, 17), 0);
        Due.is("6: now", x.over(1, 0, 9, 0), 17);
        Due.is("6: not the other way", x.over(0, 1, 9, 0), 0);
        Due.is("6: not in another hour", x.over(1, 0, 8, 0), 0);
        Due.is("6: a change", x.count(7), 5);
        Due.is("6: row -1", x.grant(-1, 0, 0, 0), NO_SUCH);
        Due.is("6: row 2", x.grant(2, 0, 0, 0), NO_SUCH);
        Due.is("6: over -1", x.grant(0, -1, 0, 0), NO_SUCH);
        Due.is("6: over 2", x.grant(0, 2, 0, 0), NO_SUCH);
        Due.is("6: hour -1", x.grant(0, 1, -1, 0), NO_SUCH);
        Due.is("6: hour 10", x.grant(0, 1, 10, 0), NO_SUCH);
        Due.is("6: no hour before the same row", x.grant(0, 0, 10, 0), NO_SUCH);
        Due.is("6: no row before a bad right", x.grant(0, 2, 0, 1000), NO_SUCH);
        Due.is("6: the same row", x.grant(1, 1, 0, 0), BAD_VALUE);
        Due.is("6: right -1", x.grant(0, 1, 0, -1), BAD_VALUE);
        Due.is("6: right 1000", x.grant(0, 1, 0, 1000), BAD_VALUE);
        Due.is("6: errors record nothing", x.count(7), 5);
    }

    /** In some of the hours, as an object is used for at most 512 calls. */
    private static void eachRightIsItsOwn() {
        int[][] hours = {{0, 1, 2, 3, 4}, {5, 6, 7, 8, 9}, {0, 2, 5, 8, 9}};
        for (int[] some : hours) {
            ShadowRows x = new ShadowRows();
            for (int row = 0; row < 6; row++) {
                x.row(row, 1, 0);
            }
            for (int i = 0; i < 36 * some.length; i++) {
                x.grant(i / 6 % 6, i % 6, some[i / 36], 500 + i);
            }
            for (int i = 0; i < 36 * some.length; i++) {
                boolean same = i / 6 % 6 == i % 6;
                Due.is("6: right " + i, x.over(i / 6 % 6, i % 6, some[i / 36], 0), same ? BAD_VALUE : 500 + i);
            }
        }
    }

    /** With the slopes 6, 4, 3, 2, 1 there and back, and 12 apart: 4, 6, 8, 12 and 24 are lost. */
    private static void shadowsByHour() {
        ShadowRows x = new ShadowRows();
        x.row(50, 10, 4);
        x.row(62, 1, 0);
        x.row(38, 1, 0);
        int[] up = {36, 34, 32, 28, 16};
        for (int hour = 0; hour < 10; hour++) {
            int high = up[hour < 5 ? hour : 9 - hour];
            Due.is("shadow towards greater, hour " + hour, x.over(0, 1, hour, 2), hour < 5 ? high : 0);
            Due.is("shadow towards lesser, hour " + hour, x.over(0, 2, hour, 2), hour < 5 ? 0 : high);
            Due.is("a row without height has no shadow, hour " + hour, x.over(1, 0, hour, 2), 0);
        }
        x.tilt(0, 1);
        Due.is("shadow below 0", x.over(0, 1, 4, 2), 0);
        Due.is("shadow of 10 at 12", x.over(0, 1, 0, 2), 6);
    }

    private static void shadowsRoundUp() {
        ShadowRows x = new ShadowRows();
        x.row(0, 20, 4);
        x.row(1, 1, 0);
        x.row(4, 1, 0);
        x.row(5, 1, 0);
        Due.is("2 / 6 rounded up", x.over(0, 1, 0, 2), 79);
        Due.is("2 / 4 rounded up", x.over(0, 1, 1, 2), 79);
        Due.is("2 / 3 rounded up", x.over(0, 1, 2, 2), 79);
        Due.is("2 / 2", x.over(0, 1, 3, 2), 79);
        Due.is("2 / 1", x.over(0, 1, 4, 2), 78);
        Due.is("8 / 6 rounded up", x.over(0, 2, 0, 2), 78);
        Due.is("8 / 4", x.over(0, 2, 1, 2), 78);
        Due.is("8 / 3 rounded up", x.over(0, 2, 2, 2), 77);
        Due.is("10 / 6 rounded up", x.over(0, 3, 0, 2), 78);
        Due.is("10 / 4 rounded up", x.over(0, 3, 1, 2), 77);
        Due.is("10 / 3 rounded up", x.over(0, 3, 2, 2), 76);
    }

    /** A row of length 10 in hour 4; 5 away 10 are lost, 8 away 16. */
    private static void tiltsByRights() {
        ShadowRows x = new ShadowRows();
        x.row(100, 10, 4);
        x.row(105, 1, 0);
        x.row(108, 1, 0);
        Due.is("tilt without rights", x.inHour(0, 4, 0), 1);
        Due.is("the other way nothing is in the way", x.inHour(0, 5, 0), 4);
        x.grant(0, 1, 4, 19);
        Due.is("one less than it needs, and none over the other", x.inHour(0, 4, 0), 1);
        x.grant(0, 2, 4, 999);
        Due.is("one less than it needs", x.inHour(0, 4, 0), 2);
        x.grant(0, 1, 4, 20);
        Due.is("just what it needs", x.inHour(0, 4, 0), 3);
        x.grant(0, 1, 4, 999);
        Due.is("all", x.inHour(0, 4, 0), 4);
        x.grant(0, 2, 4, 23);
        Due.is("the farther one counts, too", x.inHour(0, 4, 0), 3);
        x.tilt(0, 2);
        Due.is("up to its own", x.inHour(0, 4, 0), 2);
        x.grant(1, 0, 4, 0);
        Due.is("other rows' rights are theirs", x.inHour(0, 4, 0), 2);
        x.row(99, 20, 4);
        Due.is("the shadow of the new row over others", x.inHour(3, 4, 0), 0);
        Due.is("nobody to blame", x.inHour(0, 4, 3), NONE);
    }
}
