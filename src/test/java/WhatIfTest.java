/** Promises 16 to 18: what more rights would bring and cost, and the best tilts. */
public final class WhatIfTest {
    private static final int NO_SUCH = -1, BAD_VALUE = -2;

    public static void main(String[] args) {
        worth();
        worthErrors();
        bestTilt();
        bestTiltErrors();
        bestTilts();
        bestTiltsInOneHour();
        bestTiltsOfManyRows();
        bestTiltsErrors();
        Due.end();
    }

    /** Hour 4 with the sun 5: 10 lost between them. */
    private static ShadowRows twoRows() {
        ShadowRows x = new ShadowRows();
        x.row(0, 10, 4);
        x.row(5, 5, 2);
        return x;
    }

    private static void worthIs(ShadowRows x, int right, int more, int less, int together) {
        Due.is("16: worth of " + right + ", more", x.worth(0, 1, 4, right, 0), 1000000 + more);
        Due.is("16: worth of " + right + ", less", x.worth(0, 1, 4, right, 1), 1000000 + less);
        Due.is("16: worth of " + right + ", together", x.worth(0, 1, 4, right, 2), 1000000 + together);
    }

    private static void worth() {
        ShadowRows x = twoRows();
        worthIs(x, 0, 0, 0, 0);
        worthIs(x, 9, 0, 0, 0);
        worthIs(x, 10, 50, 50, 0);
        worthIs(x, 20, 100, 50, 50);
        worthIs(x, 999, 150, 50, 100);
        Due.is("16: nothing changes", x.over(0, 1, 4, 0), 0);
        Due.is("16: records nothing", x.count(7), 2);
        x.grant(0, 1, 4, 999);
        worthIs(x, 999, 0, 0, 0);
        worthIs(x, 20, -50, 0, -50);
        worthIs(x, 0, -150, -50, -100);
        Due.is("16: nothing changes then", x.over(0, 1, 4, 0), 999);
        Due.is("16: no use in the afternoon", x.worth(0, 1, 5, 999, 0), 1000000);
        Due.is("16: the other one's right", x.worth(1, 0, 5, 999, 0), 1000000);
        x.wind(4, 7);
        worthIs(x, 0, 0, 0, 0);
    }

    private static void worthErrors() {
        ShadowRows x = twoRows();
        Due.is("16: row -1", x.worth(-1, 0, 0, 0, 0), NO_SUCH);
        Due.is("16: row 2", x.worth(2, 0, 0, 0, 0), NO_SUCH);
        Due.is("16: over -1", x.worth(0, -1, 0, 0, 0), NO_SUCH);
        Due.is("16: over 2", x.worth(0, 2, 0, 0, 0), NO_SUCH);
        Due.is("16: hour -1", x.worth(0, 1, -1, 0, 0), NO_SUCH);
        Due.is("16: hour 10", x.worth(0, 1, 10, 0, 0), NO_SUCH);
        Due.is("16: no hour before a bad right and what", x.worth(0, 1, 10, -1, 3), NO_SUCH);
        Due.is("16: the same row", x.worth(0, 0, 0, 0, 0), BAD_VALUE);
        Due.is("16: right -1", x.worth(0, 1, 0, -1, 0), BAD_VALUE);
        Due.is("16: right 1000", x.worth(0, 1, 0, 1000, 0), BAD_VALUE);
        Due.is("16: what -1", x.worth(0, 1, 0, 0, -1), BAD_VALUE);
        Due.is("16: what 3", x.worth(0, 1, 0, 0, 3), BAD_VALUE);
    }

    private static void bestTilt() {
        ShadowRows x = twoRows();
        Due.is("17: row 0", x.bestTilt(0, 0), 4);
        Due.is("17: together", x.bestTilt(0, 1), x.count(3));
        x.wind(4, 9);
        x.tilt(0, 0);
        int[] together = new int[5];
        for (int tilt = 0; tilt < 5; tilt++) {
            x.tilt(1, tilt);
            together[tilt] = x.count(3);
        }
        int best = 0;
        for (int tilt = 1; tilt < 5; tilt++) {
            best = together[tilt] > together[best] ? tilt : best;
        }
        Due.is("17: row 1", x.bestTilt(1, 0), best);
        Due.is("17: together with row 1", x.bestTilt(1, 1), together[best]);
        Due.is("17: nothing changes", x.ofRow(1, 2), 4);
        Due.is("17: records nothing", x.count(7), 6);
        x.stow(1);
        for (int hour = 0; hour < 10; hour++) {
            x.wind(hour, 1);
        }
        Due.is("17: the least of several", x.bestTilt(1, 0), 0);
        Due.is("17: flat in all hours", x.bestTilt(1, 1), 150);
        Due.is("17: its tilt stays", x.ofRow(1, 2), 4);
        x.tilt(1, 3);
        x.bestTilt(1, 0);
        Due.is("17: another tilt stays", x.ofRow(1, 2), 3);
    }

    private static void bestTiltErrors() {
        ShadowRows x = twoRows();
        Due.is("17: row -1", x.bestTilt(-1, 0), NO_SUCH);
        Due.is("17: row 2", x.bestTilt(2, 0), NO_SUCH);
        Due.is("17: no row before a bad what", x.bestTilt(2, 2), NO_SUCH);
        Due.is("17: what -1", x.bestTilt(0, -1), BAD_VALUE);
        Due.is("17: what 2", x.bestTilt(0, 2), BAD_VALUE);
    }

    /** All tilts of three rows are tried by hand, for some places, lengths and rights. */
    private static void bestTilts() {
        for (int apart = 1; apart < 13; apart++) {
            ShadowRows x = new ShadowRows();
            x.row(100, 3 + apart % 4, 1);
            x.row(100 - apart, 7, 2);
            x.row(100 + 2 * apart, 13 - apart, 3);
            for (int hour = apart % 3; hour < 10; hour += 2) {
                x.grant(hour % 3, (hour + apart) % 3, hour, 999);
                x.grant((hour + 1) % 3, hour % 3, hour, 4 * apart);
                x.wind(9 - hour, hour);
            }
            int[] tilts = {x.bestTilts(0), x.bestTilts(1), x.bestTilts(2)};
            int most = x.bestTilts(9);
            for (int row = 0; row < 3; row++) {
                Due.is("18: nothing changes", x.ofRow(row, 2), row + 1);
            }
            checkByHand(x, tilts, most);
        }
    }

    private static void checkByHand(ShadowRows x, int[] tilts, int most) {
        int best = -1;
        int together = -1;
        for (int set = 0; set < 125; set++) {
            x.tilt(2, set % 5);
            if (set % 5 == 0) {
                x.tilt(1, set / 5 % 5);
                x.tilt(0, set / 25);
            }
            int now = x.count(3);
            if (now > together) {
                together = now;
                best = set;
            }
        }
        Due.is("18: together", most, together);
        Due.is("18: row 0", tilts[0], best / 25);
        Due.is("18: row 1", tilts[1], best / 5 % 5);
        Due.is("18: row 2", tilts[2], best % 5);
    }

    /** In the shadow of the row 1, which may come up to 20, nothing of the height of the row 0 is in the sun. */
    private static void bestTiltsInOneHour() {
        for (int hour = 0; hour < 10; hour++) {
            ShadowRows x = new ShadowRows();
            for (int h = 0; h < 10; h++) {
                x.wind(h, h == hour ? 6 : 7);
            }
            x.row(10, 1, 3);
            x.row(hour < 5 ? 9 : 11, 20, 3);
            x.grant(1, 0, hour, 20);
            int sun = hour < 5 ? hour + 1 : 10 - hour;
            Due.is("18: row 0 in hour " + hour, x.bestTilts(0), 0);
            Due.is("18: row 1 in hour " + hour, x.bestTilts(1), 1);
            Due.is("18: together in hour " + hour, x.bestTilts(9), 20 * sun + 210);
            x.grant(1, 0, hour, 0);
            Due.is("18: row 0 in hour " + hour + ", no right", x.bestTilts(0), 4);
            Due.is("18: row 1 in hour " + hour + ", no right", x.bestTilts(1), 0);
            Due.is("18: together in hour " + hour + ", no right", x.bestTilts(9), 4 * sun + 210);
        }
    }

    private static void bestTiltsOfManyRows() {
        ShadowRows x = new ShadowRows();
        Due.is("18: no rows", x.bestTilts(9), 0);
        x.row(7, 3, 0);
        Due.is("18: one row", x.bestTilts(0), 4);
        Due.is("18: one row, together", x.bestTilts(9), 390);
        for (int row = 1; row < 6; row++) {
            x.row(7 + 35 * row, 3, 0);
        }
        for (int row = 0; row < 6; row++) {
            Due.is("18: far apart", x.bestTilts(row), 4);
        }
        Due.is("18: far apart, together", x.bestTilts(9), 6 * 390);
        x.stow(1);
        for (int hour = 0; hour < 10; hour++) {
            x.wind(hour, 1);
        }
        for (int row = 0; row < 6; row++) {
            Due.is("18: the least of several", x.bestTilts(row), 0);
        }
        Due.is("18: flat", x.bestTilts(9), 180);
        int changes = x.count(7);
        Due.is("18: records nothing", changes, 6);
    }

    private static void bestTiltsErrors() {
        ShadowRows x = new ShadowRows();
        Due.is("18: no rows, what 0", x.bestTilts(0), BAD_VALUE);
        x.row(0, 1, 1);
        x.row(9, 1, 1);
        Due.is("18: what -1", x.bestTilts(-1), BAD_VALUE);
        Due.is("18: what 2", x.bestTilts(2), BAD_VALUE);
        Due.is("18: what 6", x.bestTilts(6), BAD_VALUE);
        Due.is("18: what 8", x.bestTilts(8), BAD_VALUE);
        Due.is("18: what 10", x.bestTilts(10), BAD_VALUE);
    }
}
