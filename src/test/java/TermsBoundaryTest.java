/**
 * The boundary cases in the terms: conventions, rows and hours, shadows, rights, yields.
 * Those on trades stand in TradeBoundaryTest, those on texts in TextBoundaryTest.
 */
public final class TermsBoundaryTest {
    private static final int NO_SUCH = -1, BAD_VALUE = -2, BAD_TEXT = -3, TOO_MANY = -4, NOT_POSSIBLE = -5, NONE = -6;
    private static final int[] SLOPE = {6, 4, 3, 2, 1, 1, 2, 3, 4, 6};
    private static final int PURSE = 1000000000;

    public static void main(String[] args) {
        as512Calls();
        errorCodes();
        firstErrorThatApplies();
        errorsChangeNothing();
        noneIsNoError();
        numberedFromZero();
        numbersBelowZero();
        constants();

        upToSixRows();
        whatARowHas();
        tenHours();
        stowByWind();

        heights();
        slopesAndSuns();
        directions();
        shadowsAtAllDistances();
        shadowsOfAllHeights();

        rightsAtFirst();
        rightsOfPairsAndHours();
        tiltAtTheRight();
        tiltOverAllOthers();
        tiltUpToItsOwn();

        shadeUpToItsOwnHeight();
        shadeIsTheGreatest();
        blameTheHighest();
        blameTheNearest();
        blameNobody();
        yieldInAnHour();
        yieldOfARow();
        Due.end();
    }

    // ---- What it is

    private static void as512Calls() {
        Doc.terms("What it is", "An object is used for at most 512 calls after it has been made; what later calls answer is free.");
        ShadowRows x = new ShadowRows();
        for (int call = 1; call <= 512; call++) {
            Due.is("call " + call, x.wind(0, call % 10), (call - 1) % 10);
        }
        ShadowRows y = new ShadowRows();
        y.row(0, 1, 1);
        for (int call = 2; call < 512; call++) {
            y.tilt(0, call % 5);
        }
        Due.is("undo() as the last call", y.undo(), 5);
    }

    // ---- CONVENTIONS

    private static void errorCodes() {
        Doc.terms("CONVENTIONS", "A method that fails returns one of the error codes NO_SUCH (-1), BAD_VALUE (-2), BAD_TEXT (-3), TOO_MANY (-4) and NOT_POSSIBLE (-5);");
        ShadowRows x = Fields.rows(6);
        Due.is("NO_SUCH", x.tilt(6, 0), -1);
        Due.is("BAD_VALUE", x.tilt(0, 5), -2);
        Due.is("BAD_TEXT", x.carryOut(), -3);
        Due.is("TOO_MANY", x.row(0, 1, 0), -4);
        Due.is("NOT_POSSIBLE", x.restore(0), -5);
    }

    /** All orders of refusals stand with the promises; here one of each pair of codes that meet. */
    private static void firstErrorThatApplies() {
        Doc.terms("CONVENTIONS", "it names its errors in the order in which they are checked, and the first one that applies is returned.");
        ShadowRows x = Fields.rows(6);
        Due.is("NO_SUCH before BAD_VALUE", x.tilt(6, 5), NO_SUCH);
        Due.is("BAD_VALUE before NO_SUCH", x.takeBack(2, 0), BAD_VALUE);
        Due.is("BAD_VALUE before TOO_MANY and NOT_POSSIBLE", x.row(4, 0, 0), BAD_VALUE);
        Due.is("TOO_MANY before NOT_POSSIBLE", x.row(4, 1, 0), TOO_MANY);
        Due.is("BAD_VALUE before NOT_POSSIBLE", x.restore(2), BAD_VALUE);
        for (int i = 0; i < 10; i++) {
            x.ask(0, 0, 1, 1);
            x.bid(0, 1, 0, 1, 1);
        }
        Due.is("NO_SUCH before TOO_MANY", x.ask(6, 0, 1, 1), NO_SUCH);
        Due.is("BAD_VALUE before TOO_MANY", x.bid(0, 0, 0, 1, 1), BAD_VALUE);
    }

    private static void errorsChangeNothing() {
        Doc.terms("CONVENTIONS", "A call that returns an error changes nothing.");
        Twin.changesNothing(Fields.busyWith(6), "a refused call of each method", TermsBoundaryTest::refusedCalls);
        Twin.changesNothing(Fields.busyWith(2), "a refused call of each method", TermsBoundaryTest::refusedCalls);
        Twin.changesNothing(ShadowRows::new, "a refused call of each method", TermsBoundaryTest::refusedCalls);
        Due.is("all were refused", refusedCalls(Fields.busy(6)), 22);
        Due.is("all were refused", refusedCalls(new ShadowRows()), 22);
    }

    /** Returns how many were refused. */
    private static int refusedCalls(ShadowRows x) {
        int[] answers = {
            x.row(201, 1, 1), x.tilt(0, 5), x.wind(10, 1), x.stow(11), x.grant(0, 0, 0, 1), x.ask(0, 0, 201, 1),
            x.bid(0, 1, 0, 1, 1000), x.takeBack(0, 10), x.ofRow(0, 9), x.inHour(0, 10, 0), x.over(0, 0, 0, 0),
            x.offer(0, 0, 5), x.count(20), x.worth(0, 1, 0, 1000, 0), x.bestTilt(0, 2), x.bestTilts(8), x.put(0),
            x.put(32), x.save(2), x.restore(1), x.restore(2), x.takeBack(1, 10)
        };
        int refused = 0;
        for (int answer : answers) {
            refused += answer < 0 && answer != NONE ? 1 : 0;
        }
        return refused;
    }

    private static void noneIsNoError() {
        Doc.terms("CONVENTIONS", "NONE (-6) is not an error; it is returned only if no error applies.");
        ShadowRows x = new ShadowRows();
        Due.is("nobody is asked about", x.ofRow(0, 8), NO_SUCH);
        Due.is("nobody is asked about in an hour", x.inHour(0, 0, 3), NO_SUCH);
        Due.is("there is no ask that has no buyer", x.offer(0, 0, 4), NO_SUCH);
        Due.is("there is no text without a fault", x.fault(), 0);
        x.row(0, 1, 1);
        x.ask(0, 0, 1, 1);
        x.put('m');
        Due.is("nobody to blame", x.ofRow(0, 8), -6);
        Due.is("nobody to blame in an hour", x.inHour(0, 0, 3), -6);
        Due.is("no buyer", x.offer(0, 0, 4), -6);
        Due.is("no fault", x.fault(), -6);
        Due.is("no such hour", x.inHour(0, 10, 3), NO_SUCH);
        Due.is("no such ask", x.offer(0, 1, 4), NO_SUCH);
        Due.is("no such row", x.ofRow(1, 8), NO_SUCH);
    }

    private static void numberedFromZero() {
        Doc.terms("CONVENTIONS", "Everything is numbered from 0.");
        ShadowRows x = new ShadowRows();
        Due.is("the first row", x.row(9, 2, 3), 0);
        Due.is("its place", x.ofRow(0, 0), 9);
        x.wind(0, 5);
        Due.is("the first hour", x.count(10), 5);
        x.ask(0, 0, 7, 1);
        Due.is("the first ask", x.offer(0, 0, 2), 7);
        x.row(10, 2, 3);
        x.bid(0, 1, 0, 8, 1);
        Due.is("the first bid", x.offer(1, 0, 2), 8);
        x.put('x');
        Due.is("the first character", x.fault(), 0);
        Due.is("the first slot", x.save(0), 2);
    }

    private static void numbersBelowZero() {
        Doc.terms("CONVENTIONS", "Numbers that can be below 0 are returned with more, as told.");
        ShadowRows x = Fields.rows(2);
        x.ask(0, 0, 1, 1);
        x.bid(1, 0, 0, 1, 1);
        x.match();
        Due.is("a purse of -1", x.ofRow(1, 3), 999999999);
        Due.is("a purse of 1", x.ofRow(0, 3), 1000000001);
        ShadowRows y = new ShadowRows();
        y.row(0, 1, 1);
        y.row(1, 1, 1);
        y.grant(0, 1, 0, 1);
        Due.is("a worth of 0", y.worth(0, 1, 0, 0, 0), 1000000);
        y.tilt(0, 2);
        Due.is("a worth of -1", y.worth(0, 1, 0, 0, 0), 999999);
    }

    private static void constants() {
        Doc.terms("Texts", "The constants: `NO_SUCH = -1, BAD_VALUE = -2, BAD_TEXT = -3, TOO_MANY = -4, NOT_POSSIBLE = -5, NONE = -6`: Error codes, and NONE: there is none.");
        Due.is("NO_SUCH", ShadowRows.NO_SUCH, NO_SUCH);
        Due.is("BAD_VALUE", ShadowRows.BAD_VALUE, BAD_VALUE);
        Due.is("BAD_TEXT", ShadowRows.BAD_TEXT, BAD_TEXT);
        Due.is("TOO_MANY", ShadowRows.TOO_MANY, TOO_MANY);
        Due.is("NOT_POSSIBLE", ShadowRows.NOT_POSSIBLE, NOT_POSSIBLE);
        Due.is("NONE", ShadowRows.NONE, NONE);
    }

    // ---- Rows, hours

    private static void upToSixRows() {
        Doc.terms("Rows, hours", "There are up to 6 rows, numbered in the order in which they were built.");
        ShadowRows x = new ShadowRows();
        int[] places = {200, 0, 100, 199, 1, 50};
        for (int row = 0; row < 6; row++) {
            Due.is("no row " + row + " yet", x.ofRow(row, 0), NO_SUCH);
            Due.is("row " + row, x.row(places[row], row + 1, 1), row);
        }
        Due.is("one more", x.row(150, 1, 1), TOO_MANY);
        for (int row = 0; row < 6; row++) {
            Due.is("the place of row " + row, x.ofRow(row, 0), places[row]);
        }
        Due.is("no row 6", x.ofRow(6, 0), NO_SUCH);
        Due.is("six", x.count(0), 6);
    }

    private static void whatARowHas() {
        Doc.terms("Rows, hours", "A row has a place (0 to 200; no two rows have the same place), a length (1 to 20), a tilt (0 to 4), and a purse (0 at first; it can be below 0).");
        ShadowRows x = new ShadowRows();
        x.row(0, 1, 0);
        x.row(200, 20, 4);
        int[][] due = {{0, 1, 0, PURSE}, {200, 20, 4, PURSE}};
        for (int row = 0; row < 2; row++) {
            for (int what = 0; what < 4; what++) {
                Due.is("ofRow(" + row + ", " + what + ")", x.ofRow(row, what), due[row][what]);
            }
        }
        Due.is("the same place", x.row(0, 1, 0), NOT_POSSIBLE);
        Due.is("the same place", x.row(200, 20, 4), NOT_POSSIBLE);
        x.ask(0, 0, 200, 999);
        x.bid(1, 0, 0, 200, 999);
        x.match();
        Due.is("a purse far below 0", x.ofRow(1, 3), PURSE - 199800);
        x.row(3, 1, 1);
        Due.is("the purse of a new row", x.ofRow(2, 3), PURSE);
    }

    private static void tenHours() {
        Doc.terms("Rows, hours", "There are 10 hours, 0 to 9, each with a wind (0 to 9; 0 at first).");
        ShadowRows x = new ShadowRows();
        for (int hour = 0; hour < 10; hour++) {
            Due.is("at first", x.count(10 + hour), 0);
            Due.is("up to 9", x.wind(hour, 9), 0);
            Due.is("down to 0", x.wind(hour, 0), 9);
            x.wind(hour, 9 - hour);
        }
        for (int hour = 0; hour < 10; hour++) {
            Due.is("each has its own", x.count(10 + hour), 9 - hour);
        }
        Due.is("no hour 10", x.wind(10, 0), NO_SUCH);
        Due.is("no hour -1", x.wind(-1, 0), NO_SUCH);
    }

    private static void stowByWind() {
        Doc.terms("Rows, hours", "With the setting STOW (1 to 10; 7 at first): in an hour whose wind is at least STOW, all rows lie flat.");
        ShadowRows first = new ShadowRows();
        first.row(0, 1, 1);
        first.wind(0, 6);
        Due.is("a wind of 6 at first", first.inHour(0, 0, 0), 1);
        first.wind(0, 7);
        Due.is("a wind of 7 at first", first.inHour(0, 0, 0), 0);
        for (int stow = 1; stow <= 10; stow++) {
            ShadowRows x = new ShadowRows();
            for (int row = 0; row < 6; row++) {
                x.row(40 * row, 1, 4 - row / 2);
            }
            x.stow(stow);
            for (int hour = 0; hour < 10; hour++) {
                x.wind(hour, hour);
            }
            for (int hour = 0; hour < 10; hour++) {
                for (int row = 0; row < 6; row++) {
                    Due.is("STOW " + stow + ", wind " + hour + ", row " + row, x.inHour(row, hour, 0), hour >= stow ? 0 : 4 - row / 2);
                }
            }
        }
    }

    // ---- Shadows

    private static void heights() {
        Doc.terms("Shadows", "The height of a row with the tilt t is its length times t.");
        for (int length = 1; length <= 20; length++) {
            ShadowRows x = new ShadowRows();
            x.row(0, length, 0);
            for (int tilt = 0; tilt <= 4; tilt++) {
                x.tilt(0, tilt);
                Due.is("length " + length + ", tilt " + tilt, x.inHour(0, 9, 1), length * tilt);
            }
        }
    }

    /** 12 places apart 24 / slope is lost; a height of 1 yields the sun, and 1 for the length. */
    private static void slopesAndSuns() {
        Doc.terms("Shadows", "The slope of the hours 0 to 9 is 6, 4, 3, 2, 1, 1, 2, 3, 4, 6; the sun of the hours 0 to 9 is 1, 2, 3, 4, 5, 5, 4, 3, 2, 1.");
        ShadowRows x = new ShadowRows();
        x.row(100, 1, 1);
        x.row(112, 10, 4);
        x.row(88, 10, 4);
        int[] up = {36, 34, 32, 28, 16, 16, 28, 32, 34, 36};
        int[] yields = {2, 3, 4, 5, 6, 6, 5, 4, 3, 2};
        for (int hour = 0; hour < 10; hour++) {
            int from = hour < 5 ? 2 : 1;
            Due.is("the slope of the hour " + hour, x.over(from, 0, hour, 2), up[hour]);
        }
        ShadowRows alone = new ShadowRows();
        alone.row(0, 1, 1);
        for (int hour = 0; hour < 10; hour++) {
            Due.is("the sun of the hour " + hour, alone.inHour(0, hour, 4), yields[hour]);
        }
    }

    private static void directions() {
        Doc.terms("Shadows", "In the hours 0 to 4 shadows fall towards greater places, in the hours 5 to 9 towards lesser ones.");
        ShadowRows x = Fields.three();
        for (int hour = 0; hour < 10; hour++) {
            boolean morning = hour < 5;
            Due.isTrue("towards greater places in the hour " + hour, x.over(1, 2, hour, 2) > 0 == morning);
            Due.isTrue("towards lesser places in the hour " + hour, x.over(1, 0, hour, 2) > 0 == !morning);
        }
        ShadowRows ends = new ShadowRows();
        ends.row(200, 20, 4);
        ends.row(0, 20, 4);
        Due.is("from 0 to 200 in the hour 4", ends.over(1, 0, 4, 2), 0);
        Due.is("from 0 to 200 in the hour 3", ends.over(1, 0, 3, 2), 0);
        Due.is("from 0 to 200 in the hour 0: 80 less 67", ends.over(1, 0, 0, 2), 13);
        Due.is("from 200 to 0 in the hour 9: 80 less 67", ends.over(0, 1, 9, 2), 13);
        Due.is("from 0 to 200 in the hour 9", ends.over(1, 0, 9, 2), 0);
        Due.is("from 200 to 0 in the hour 0", ends.over(0, 1, 0, 2), 0);
    }

    /** The least whole number that is not below 2 * distance / slope. */
    private static int lost(int distance, int hour) {
        int lost = 0;
        while (lost * SLOPE[hour] < 2 * distance) {
            lost++;
        }
        return lost;
    }

    /** From a row of the height 80, at 0 or at 200, to each other place in each hour. */
    private static void shadowsAtAllDistances() {
        Doc.terms("Shadows", "The shadow of a row that has the height h in an hour comes up, at a place at the distance d towards which it falls, to h less 2 * d / slope (rounded up), but not below 0; at other places to 0.");
        for (int first = 1; first <= 200; first += 5) {
            ShadowRows up = new ShadowRows();
            ShadowRows down = new ShadowRows();
            up.row(0, 20, 4);
            down.row(200, 20, 4);
            for (int i = 0; i < 5; i++) {
                up.row(first + i, 1, 0);
                down.row(200 - first - i, 1, 0);
            }
            for (int i = 0; i < 5; i++) {
                for (int hour = 0; hour < 10; hour++) {
                    int high = Math.max(0, 80 - lost(first + i, hour));
                    String at = "at the distance " + (first + i) + " in the hour " + hour;
                    Due.is(at + ", towards greater places", up.over(0, i + 1, hour, 2), hour < 5 ? high : 0);
                    Due.is(at + ", towards lesser places", down.over(0, i + 1, hour, 2), hour < 5 ? 0 : high);
                }
            }
        }
    }

    /** Of all heights that there are, where the shadow ends in each hour: it comes up to 1, to 0, and would come up to less than 0. */
    private static void shadowsOfAllHeights() {
        Doc.terms("Shadows", "to h less 2 * d / slope (rounded up), but not below 0");
        for (int length = 1; length <= 20; length++) {
            for (int tilt = 0; tilt <= 4; tilt++) {
                for (int hour = 0; hour < 10; hour++) {
                    shadowEnds(length, tilt, hour);
                }
            }
        }
    }

    private static void shadowEnds(int length, int tilt, int hour) {
        ShadowRows x = new ShadowRows();
        int own = hour < 5 ? 0 : 200;
        x.row(own, length, tilt);
        int end = length * tilt * SLOPE[hour] / 2;
        for (int distance = Math.max(1, end - 1); distance <= Math.min(200, end + 3); distance++) {
            int other = x.row(hour < 5 ? distance : 200 - distance, 1, 0);
            int high = Math.max(0, length * tilt - lost(distance, hour));
            Due.is("the height " + length * tilt + " at the distance " + distance + ", hour " + hour, x.over(0, other, hour, 2), high);
            Due.is("in an hour in which it falls the other way", x.over(0, other, 9 - hour, 2), 0);
        }
    }

    // ---- Rights

    private static void rightsAtFirst() {
        Doc.terms("Rights", "For any two rows a and b, and each hour, there is a right of a over b (0 to 999; 0 at first)");
        ShadowRows x = Fields.rows(6);
        for (int row = 0; row < 6; row++) {
            for (int over = 0; over < 6; over++) {
                for (int hour = 0; hour < 10; hour++) {
                    Due.is("over(" + row + ", " + over + ", " + hour + ", 0)", x.over(row, over, hour, 0), row == over ? BAD_VALUE : 0);
                }
            }
        }
        for (int right : Fields.outside(0, 999)) {
            Twin.refuses(Fields.busyWith(2), "a right of " + right, y -> y.grant(0, 1, 0, right), BAD_VALUE);
        }
        Due.is("up to 999", x.grant(5, 4, 9, 999), 0);
        Due.is("up to 999", x.over(5, 4, 9, 0), 999);
    }

    /** The first and last ones of pairs and hours, and their neighbours: one is set, all others stay. */
    private static void rightsOfPairsAndHours() {
        Doc.terms("Rights", "so high the shadow of a may come up at the place of b in this hour.");
        int[][] set = {{0, 1, 0}, {0, 1, 9}, {0, 5, 0}, {0, 5, 9}, {5, 0, 0}, {5, 0, 9}, {5, 4, 0}, {5, 4, 9}, {1, 0, 0}, {2, 3, 4}, {3, 2, 5}};
        for (int[] one : set) {
            ShadowRows x = Fields.rows(6);
            x.grant(one[0], one[1], one[2], 999);
            for (int i = 0; i < 360; i++) {
                int row = i / 60;
                int over = i / 10 % 6;
                int hour = i % 10;
                boolean is = row == one[0] && over == one[1] && hour == one[2];
                if (row != over) {
                    Due.is("over(" + row + ", " + over + ", " + hour + ", 0)", x.over(row, over, hour, 0), is ? 999 : 0);
                }
            }
        }
    }

    /** One less than each tilt needs, as much as it needs, and one more. */
    private static void tiltAtTheRight() {
        Doc.terms("Rights", "otherwise it is the greatest tilt, up to its own, with which its shadow comes up no higher than its rights");
        int[] lengths = {3, 10, 20};
        for (int length : lengths) {
            ShadowRows x = new ShadowRows();
            x.row(100, length, 4);
            x.row(103, 1, 0);
            x.row(97, 1, 0);
            for (int hour = 0; hour < 10; hour++) {
                int other = hour < 5 ? 1 : 2;
                int lost = lost(3, hour);
                for (int tilt = 1; tilt <= 4; tilt++) {
                    int need = length * tilt - lost;
                    String what = "length " + length + ", hour " + hour + ", tilt " + tilt;
                    if (need > 0) {
                        x.grant(0, other, hour, need - 1);
                        Due.is(what + ", one less than it needs", x.inHour(0, hour, 0), tilt - 1);
                        x.grant(0, other, hour, need);
                        Due.is(what + ", as much as it needs", x.inHour(0, hour, 0), tilt);
                    }
                }
            }
            Due.is("the height over the other one is the right", x.over(0, 1, 0, 1), x.over(0, 1, 0, 0));
        }
    }

    /** Without a right a shadow may come up to 0: it just does not reach, or it reaches to 1. */
    private static void tiltOverAllOthers() {
        Doc.terms("Rights", "with which its shadow comes up no higher than its rights at the places of all other rows.");
        ShadowRows ends = new ShadowRows();
        ends.row(0, 4, 4);
        ends.row(8, 1, 0);
        Due.is("16 high, 16 are lost", ends.inHour(0, 4, 0), 4);
        ends.row(7, 1, 0);
        Due.is("16 high, 14 are lost", ends.inHour(0, 4, 0), 3);
        for (int lacking = 0; lacking < 5; lacking++) {
            ShadowRows x = new ShadowRows();
            for (int row = 0; row < 5; row++) {
                x.row(101 + row, 1, 0);
            }
            x.row(100, 20, 1);
            for (int row = 0; row < 5; row++) {
                x.grant(5, row, 0, row == lacking ? x.over(5, row, 0, 2) - 1 : x.over(5, row, 0, 2));
            }
            Due.is("the right over " + lacking + " is one too low", x.inHour(5, 0, 0), 0);
            x.grant(5, lacking, 0, x.over(5, lacking, 0, 2));
            Due.is("all rights are just high enough", x.inHour(5, 0, 0), 1);
            Due.is("no right is needed where the shadow does not fall", x.inHour(5, 9, 0), 1);
        }
    }

    private static void tiltUpToItsOwn() {
        Doc.terms("Rights", "The tilt of a row in an hour is 0 if all rows lie flat; otherwise it is the greatest tilt, up to its own,");
        ShadowRows x = Fields.three();
        Fields.grantAll(x, 4);
        for (int tilt = 0; tilt <= 4; tilt++) {
            x.tilt(0, tilt);
            x.wind(4, 6);
            Due.is("with all rights, up to " + tilt, x.inHour(0, 4, 0), tilt);
            x.wind(4, 7);
            Due.is("flat, whatever the rights are", x.inHour(0, 4, 0), 0);
        }
    }

    // ---- Yields

    /** In the hour 4 the row 0, 10 high, comes up to 8 at the place of the row 1, which is 7 to 9 high. */
    private static void shadeUpToItsOwnHeight() {
        Doc.terms("Yields", "By the tilts of the rows in an hour: the shade of a row is the greatest of the heights to which the shadows of the others come up at its place, but at most its own height");
        int[][] due = {{7, 7, 7}, {8, 8, 8}, {9, 8, 14}};
        for (int[] one : due) {
            ShadowRows x = new ShadowRows();
            x.row(0, 10, 1);
            x.row(1, one[0], 1);
            x.grant(0, 1, 4, 8);
            Due.is("the shade of the height " + one[0], x.inHour(1, 4, 2), one[1]);
            Due.is("the yield of the height " + one[0], x.inHour(1, 4, 4), one[2]);
            x.tilt(1, 0);
            Due.is("the shade of the height 0", x.inHour(1, 4, 2), 0);
        }
    }

    /** In the hour 0 one row comes up to 9 (10 less 1), one to 11 (12 less 1), one to 7 (8 less 1), in any order. */
    private static void shadeIsTheGreatest() {
        Doc.terms("Yields", "the greatest of the heights to which the shadows of the others come up at its place");
        int[][] orders = {{0, 1, 2}, {0, 2, 1}, {1, 0, 2}, {1, 2, 0}, {2, 0, 1}, {2, 1, 0}};
        int[] lengths = {10, 12, 8};
        for (int[] order : orders) {
            ShadowRows x = new ShadowRows();
            x.row(53, 20, 1);
            for (int i : order) {
                x.row(50 + i, lengths[i], 1);
            }
            Fields.grantAll(x, 0);
            Due.is("the greatest", x.inHour(0, 0, 2), 11);
            Due.is("to blame is the one of the length 12", x.ofRow(x.inHour(0, 0, 3), 1), 12);
            Due.is("its own shadow does not count", x.inHour(0, 9, 2), 0);
        }
    }

    /** 1 higher than the other, nearer and farther, with the lesser number and with the greater one. */
    private static void blameTheHighest() {
        Doc.terms("Yields", "the row to blame is the one whose shadow comes up the highest");
        for (int i = 0; i < 4; i++) {
            boolean farIsHigher = i / 2 == 0;
            int far = i % 2;
            ShadowRows x = farAndNear(far, farIsHigher ? 14 : 12, farIsHigher ? 10 : 11);
            int higher = farIsHigher ? far : 1 - far;
            Due.is("the far one comes up", x.over(far, 2, 4, 1), farIsHigher ? 10 : 8);
            Due.is("the near one comes up", x.over(1 - far, 2, 4, 1), farIsHigher ? 8 : 9);
            Due.is("to blame", x.inHour(2, 4, 3), higher);
        }
    }

    private static void blameTheNearest() {
        Doc.terms("Yields", "of several the one nearest to it, of these the one with the lowest number");
        for (int far = 0; far < 2; far++) {
            ShadowRows x = farAndNear(far, 12, 10);
            Due.is("the far one comes up to 8", x.over(far, 2, 4, 1), 8);
            Due.is("the near one comes up to 8", x.over(1 - far, 2, 4, 1), 8);
            Due.is("to blame is the near one", x.inHour(2, 4, 3), 1 - far);
        }
    }

    /** Two rows 1 and 2 places before the row 2 in the hour 4, in which 2 and 4 are lost. */
    private static ShadowRows farAndNear(int far, int farHeight, int nearHeight) {
        ShadowRows x = new ShadowRows();
        for (int row = 0; row < 2; row++) {
            x.row(row == far ? 98 : 99, row == far ? farHeight : nearHeight, 1);
        }
        x.row(100, 20, 1);
        Fields.grantAll(x, 4);
        return x;
    }

    private static void blameNobody() {
        Doc.terms("Yields", "(nobody, if all are 0)");
        ShadowRows x = new ShadowRows();
        x.row(10, 2, 1);
        x.row(11, 2, 1);
        Due.is("it comes up to 0 in the hour 4", x.over(0, 1, 4, 1), 0);
        Due.is("nobody", x.inHour(1, 4, 3), NONE);
        x.grant(0, 1, 3, 1);
        Due.is("it comes up to 1 in the hour 3", x.over(0, 1, 3, 1), 1);
        Due.is("the row 0", x.inHour(1, 3, 3), 0);
        x.tilt(1, 0);
        Due.is("a flat row has no shade", x.inHour(1, 3, 2), 0);
        Due.is("but the shadow comes up at its place", x.inHour(1, 3, 3), 0);
        Due.is("nobody stands before the first", x.inHour(0, 3, 3), NONE);
        Due.is("nobody stands behind the last", x.inHour(1, 6, 3), NONE);
    }

    private static void yieldInAnHour() {
        Doc.terms("Yields", "The yield of a row in an hour is (its height in this hour, less its shade) * the sun of the hour, to which its length is added.");
        ShadowRows x = new ShadowRows();
        x.row(0, 1, 0);
        x.row(200, 20, 4);
        x.grant(1, 0, 9, 13);
        int[] most = {100, 180, 260, 340, 420, 420, 340, 260, 180, 100};
        for (int hour = 0; hour < 10; hour++) {
            Due.is("the least, hour " + hour, x.inHour(0, hour, 4), 1);
            Due.is("the most, hour " + hour, x.inHour(1, hour, 4), most[hour]);
        }
        ShadowRows shaded = new ShadowRows();
        shaded.row(0, 20, 4);
        shaded.row(1, 19, 4);
        Fields.grantAll(shaded, 4);
        Due.is("all of it is shaded", shaded.inHour(1, 4, 4), 19);
        shaded.tilt(0, 3);
        Due.is("76 less 58 is in the sun", shaded.inHour(1, 4, 4), 18 * 5 + 19);
    }

    private static void yieldOfARow() {
        Doc.terms("Yields", "The yield of a row is the sum of its yields in all hours.");
        ShadowRows x = new ShadowRows();
        x.row(100, 1, 0);
        Due.is("the least", x.ofRow(0, 4), 10);
        ShadowRows y = new ShadowRows();
        y.row(100, 20, 4);
        Due.is("the most", y.ofRow(0, 4), 2600);
        ShadowRows busy = Fields.busy(6);
        for (int row = 0; row < 6; row++) {
            int sum = 0;
            for (int hour = 0; hour < 10; hour++) {
                sum += busy.inHour(row, hour, 4);
            }
            Due.is("the sum of the row " + row, busy.ofRow(row, 4), sum);
        }
    }
}
