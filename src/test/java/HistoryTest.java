/** Promises 23 to 25: undo, and saved states. */
public final class HistoryTest {
    private static final int BAD_VALUE = -2, NOT_POSSIBLE = -5;

    public static void main(String[] args) {
        undoesEachChange();
        undoesInARow();
        sixStates();
        answersOfZero();
        whatUndoLeaves();
        save();
        restore();
        restoreAndUndo();
        otherRows();
        fullField();
        Due.end();
    }

    private static ShadowRows twoRows() {
        ShadowRows x = new ShadowRows();
        x.row(0, 10, 1);
        x.row(5, 10, 1);
        return x;
    }

    private static void undoesEachChange() {
        ShadowRows x = new ShadowRows();
        Due.is("23: nothing", x.undo(), NOT_POSSIBLE);
        x.row(0, 10, 1);
        Due.is("23: row", x.undo(), 0);
        Due.is("23: no row", x.count(0), 0);
        Due.is("23: nothing more", x.undo(), NOT_POSSIBLE);
        Due.is("23: the number is free again", x.row(0, 3, 2), 0);
        Due.is("23: the new one", x.ofRow(0, 1), 3);
        x.row(5, 10, 1);
        x.tilt(1, 4);
        Due.is("23: tilt", x.undo(), 2);
        Due.is("23: tilt as before", x.ofRow(1, 2), 1);
        x.wind(3, 4);
        Due.is("23: wind", x.undo(), 2);
        Due.is("23: wind as before", x.count(13), 0);
        x.stow(3);
        Due.is("23: stow", x.undo(), 2);
        Due.is("23: STOW as before", x.count(5), 7);
        x.grant(0, 1, 9, 7);
        Due.is("23: grant", x.undo(), 2);
        Due.is("23: right as before", x.over(0, 1, 9, 0), 0);
        x.ask(0, 1, 20, 3);
        x.bid(1, 0, 1, 20, 3);
        x.match();
        Due.is("23: match", x.undo(), 4);
        Due.is("23: asks as before", x.offer(0, 0, 2), 20);
        Due.is("23: bids as before", x.offer(1, 0, 2), 20);
        Due.is("23: purse as before", x.ofRow(0, 3), 1000000000);
        Due.is("23: right as before", x.over(1, 0, 1, 0), 0);
        Due.is("23: traded as before", x.count(4), 0);
        x.takeBack(0, 0);
        Due.is("23: takeBack", x.undo(), 4);
        Due.is("23: the ask is back", x.count(1), 1);
        Due.is("23: bid", x.undo(), 3);
        Due.is("23: no bid", x.count(2), 0);
        Due.is("23: ask", x.undo(), 2);
        Due.is("23: no ask", x.count(1), 0);
    }

    /** Six changes at a time, each of another kind, so that each state has to be recorded by itself. */
    private static void undoesInARow() {
        ShadowRows x = twoRows();
        x.row(9, 2, 2);
        x.tilt(1, 4);
        x.wind(3, 4);
        x.stow(3);
        Due.is("23: stow", x.undo(), 5);
        Due.is("23: STOW", x.count(5), 7);
        Due.is("23: the wind stays", x.count(13), 4);
        Due.is("23: wind", x.undo(), 4);
        Due.is("23: wind as before", x.count(13), 0);
        Due.is("23: the tilt stays", x.ofRow(1, 2), 4);
        Due.is("23: tilt", x.undo(), 3);
        Due.is("23: tilt as before", x.ofRow(1, 2), 1);
        Due.is("23: the row stays", x.count(0), 3);
        Due.is("23: row", x.undo(), 2);
        Due.is("23: two rows", x.count(0), 2);

        x.grant(0, 1, 9, 7);
        x.ask(0, 1, 20, 3);
        x.bid(1, 0, 1, 30, 3);
        x.match();
        x.takeBack(1, 0);
        Text.put(x, "t0=4;t1=4");
        x.save(0);
        x.carryOut();
        x.restore(0);
        Due.is("23: restore", x.undo(), 5);
        Due.is("23: the text was carried out", x.ofRow(0, 2) + x.ofRow(1, 2), 8);
        Due.is("23: carryOut", x.undo(), 4);
        Due.is("23: tilts", x.ofRow(0, 2) + x.ofRow(1, 2), 2);
        Due.is("23: taken back", x.count(2), 0);
        Due.is("23: takeBack", x.undo(), 3);
        Due.is("23: what was left of the bid", x.offer(1, 0, 2), 10);
        Due.is("23: match", x.undo(), 2);
        Due.is("23: the whole bid", x.offer(1, 0, 2), 30);
        Due.is("23: bid", x.undo(), 1);
        Due.is("23: no bid", x.count(2), 0);
        Due.is("23: the ask", x.count(1), 1);
        Due.is("23: ask", x.undo(), 0);
        Due.is("23: no ask", x.count(1), 0);
        Due.is("23: the right stays", x.over(0, 1, 9, 0), 7);
        Due.is("23: the rows stay", x.count(0), 2);
        Due.is("23: the seventh is gone", x.undo(), NOT_POSSIBLE);
    }

    /** A change is recorded whatever it answers. */
    private static void answersOfZero() {
        ShadowRows x = new ShadowRows();
        for (int hour = 0; hour < 8; hour++) {
            Due.is("23: answers 0", x.wind(hour, 5), 0);
        }
        x.match();
        Due.is("23: six", x.count(7), 6);
        for (int left = 5; left >= 0; left--) {
            Due.is("23: left", x.undo(), left);
            int lastOne = left + 2;
            Due.is("23: stands", x.count(10 + lastOne), 5);
            Due.is("23: is undone", x.count(11 + lastOne), 0);
        }
    }

    /** The same numbers, but other rows. */
    private static void otherRows() {
        ShadowRows x = new ShadowRows();
        x.row(3, 10, 1);
        x.row(8, 11, 2);
        x.save(0);
        x.undo();
        x.undo();
        x.row(50, 4, 4);
        x.row(60, 5, 3);
        x.restore(0);
        int[][] saved = {{3, 10, 1}, {8, 11, 2}};
        rowsAre(x, saved);
        x.undo();
        int[][] built = {{50, 4, 4}, {60, 5, 3}};
        rowsAre(x, built);
    }

    private static void rowsAre(ShadowRows x, int[][] rows) {
        for (int row = 0; row < rows.length; row++) {
            for (int what = 0; what < 3; what++) {
                Due.is("25: row " + row + ", " + what, x.ofRow(row, what), rows[row][what]);
            }
        }
    }

    /** The last of all that there is, with six rows and ten offers. */
    private static void fullField() {
        ShadowRows x = new ShadowRows();
        for (int row = 0; row < 6; row++) {
            x.row(30 * row, row + 1, row % 5);
        }
        for (int i = 0; i < 10; i++) {
            x.ask(5, 9, 10 + i, 100 + i);
            x.bid(5, 4, 9, 20 + i, 200 + i);
            x.wind(i, i % 7);
        }
        x.ask(4, 9, 1, 1);
        x.grant(5, 4, 9, 77);
        x.save(1);
        while (x.count(1) > 0) {
            x.takeBack(0, 0);
        }
        x.match();
        x.takeBack(1, 9);
        x.wind(9, 9);
        x.tilt(5, 4);
        x.grant(5, 4, 9, 1);
        Due.is("25: six rows", x.restore(1), 6);
        Due.is("25: the last ask", x.offer(0, 9, 2), 19);
        Due.is("25: its price", x.offer(0, 9, 3), 109);
        Due.is("25: the last bid", x.offer(1, 9, 2), 29);
        Due.is("25: its buyer", x.offer(1, 9, 4), 5);
        Due.is("25: the last wind", x.count(19), 2);
        Due.is("25: the last tilt", x.ofRow(5, 2), 0);
        Due.is("25: the last right", x.over(5, 4, 9, 0), 77);
        x.undo();
        Due.is("23: the last right", x.over(5, 4, 9, 0), 1);
        Due.is("23: no asks", x.count(1), 0);
        Due.is("23: nine bids", x.count(2), 9);
        Due.is("23: the last tilt", x.ofRow(5, 2), 4);
    }

    private static void sixStates() {
        ShadowRows x = new ShadowRows();
        for (int wind = 1; wind < 10; wind++) {
            x.wind(0, wind);
            Due.is("23: at most six", x.count(7), Math.min(6, wind));
        }
        Due.is("23: a change to the same", x.wind(0, 9), 9);
        x.wind(0, 10);
        x.tilt(0, 0);
        for (int left = 5; left >= 0; left--) {
            Due.is("23: left", x.undo(), left);
            Due.is("23: back", x.count(10), left == 5 ? 9 : 4 + left);
        }
        Due.is("23: the seventh is gone", x.undo(), NOT_POSSIBLE);
        Due.is("23: the oldest state", x.count(10), 4);
        x.wind(0, 1);
        x.wind(0, 2);
        Due.is("23: records again", x.undo(), 1);
        Due.is("23: and undoes again", x.count(10), 1);
    }

    private static void whatUndoLeaves() {
        ShadowRows x = twoRows();
        x.save(0);
        Text.put(x, "m;m");
        x.undo();
        Due.is("23: the pad stays", x.count(6), 3);
        Due.is("23: the slot stays", x.restore(0), 2);
        Due.is("23: the rows are back", x.count(0), 2);
        x.undo();
        Due.is("23: a restore is undone", x.count(0), 1);
        x.wipe();
        Due.is("23: a wipe is no change", x.undo(), 0);
        Due.is("23: the wiped pad stays", x.count(6), 0);
    }

    private static void save() {
        ShadowRows x = twoRows();
        Due.is("24: slot -1", x.save(-1), BAD_VALUE);
        Due.is("24: slot 2", x.save(2), BAD_VALUE);
        Due.is("24: slot 0", x.save(0), 2);
        Due.is("24: no change", x.count(7), 2);
        Due.is("24: slot 1 is another one", x.restore(1), NOT_POSSIBLE);
        x.row(9, 1, 1);
        Due.is("24: slot 1", x.save(1), 3);
        Due.is("24: restored 0", x.restore(0), 2);
        Due.is("24: restored 1", x.restore(1), 3);
        x.row(10, 1, 1);
        Due.is("24: overwrites", x.save(0), 4);
        x.undo();
        Due.is("24: restored what was saved last", x.restore(0), 4);
    }

    private static void restore() {
        ShadowRows x = twoRows();
        Due.is("25: slot -1", x.restore(-1), BAD_VALUE);
        Due.is("25: slot 2", x.restore(2), BAD_VALUE);
        Due.is("25: slot 0", x.restore(0), NOT_POSSIBLE);
        Due.is("25: slot 1", x.restore(1), NOT_POSSIBLE);
        Due.is("25: errors record nothing", x.count(7), 2);
        x.stow(4);
        x.wind(2, 3);
        x.grant(0, 1, 2, 30);
        x.ask(1, 2, 9, 2);
        x.bid(0, 1, 2, 5, 2);
        x.match();
        x.bid(0, 1, 7, 5, 2);
        x.save(1);
        changeAll(x);
        Due.is("25: rows", x.restore(1), 2);
        Due.is("25: STOW", x.count(5), 4);
        Due.is("25: wind", x.count(12), 3);
        Due.is("25: right", x.over(0, 1, 2, 0), 35);
        Due.is("25: asks", x.count(1), 1);
        Due.is("25: units", x.offer(0, 0, 2), 4);
        Due.is("25: bids", x.count(2), 1);
        Due.is("25: traded", x.count(4), 5);
        Due.is("25: purse", x.ofRow(0, 3), 999999990);
        Due.is("25: tilt", x.ofRow(0, 2), 1);
        Due.is("25: the pad stays", x.count(6), 1);
        Due.is("25: a change", x.count(7), 6);
        changeAll(x);
        Due.is("25: the slot keeps it", x.restore(1), 2);
        Due.is("25: as it was", x.count(4), 5);
    }

    private static void changeAll(ShadowRows x) {
        x.row(77, 2, 2);
        x.stow(5);
        x.wind(2, 0);
        x.grant(0, 1, 2, 0);
        x.tilt(0, 4);
        x.bid(0, 1, 2, 2, 2);
        x.match();
        x.takeBack(0, 0);
        x.wipe();
        x.put('m');
    }

    private static void restoreAndUndo() {
        ShadowRows x = twoRows();
        x.save(0);
        x.tilt(0, 3);
        Due.is("25: restored", x.restore(0), 2);
        Due.is("25: as saved", x.ofRow(0, 2), 1);
        Due.is("25: a change that is undone", x.undo(), 3);
        Due.is("25: as before", x.ofRow(0, 2), 3);
        x.restore(0);
        x.tilt(0, 2);
        Due.is("25: the slot is not what is changed", x.restore(0), 2);
        Due.is("25: as saved", x.ofRow(0, 2), 1);
    }
}
