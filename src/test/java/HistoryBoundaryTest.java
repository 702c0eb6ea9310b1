import java.util.ArrayList;
import java.util.LinkedHashMap;
import java.util.List;
import java.util.Map;
import java.util.function.Supplier;
import java.util.function.ToIntFunction;

/** The boundary cases in the promises 23 to 25: undo, save, restore. */
public final class HistoryBoundaryTest {
    private static final int BAD_VALUE = -2, BAD_TEXT = -3, NOT_POSSIBLE = -5;

    public static void main(String[] args) {
        undoEachChange();
        undoLeavesThePad();
        undoLeavesTheSlots();
        undoLeavesTheHistory();
        atMostSixStates();
        recordsTheStateBefore();
        recordsWithoutADifference();
        recordsNoErrors();
        recordsNothingElse();
        dropsTheOldest();
        ordersRecordNothing();
        undoHowMany();
        undoNotPossible();

        saveEverything();
        saveOverwrites();
        saveSlot();
        saveHowMany();
        saveBadValue();
        saveIsNoChange();

        restoreWhatWasSavedLast();
        restoreKeepsIt();
        restoreIsAChange();
        restoreSlot();
        restoreHowMany();
        restoreNotPossible();
        restoreRefusals();
        Due.end();
    }

    /** A busy field with five states in its history, so that there is room for one more. */
    private static ShadowRows withRoom() {
        ShadowRows x = Fields.busy(5);
        x.undo();
        return x;
    }

    /** One call of each method that is a change; on withRoom() none of them is an error. */
    private static Map<String, ToIntFunction<ShadowRows>> changes() {
        Map<String, ToIntFunction<ShadowRows>> changes = new LinkedHashMap<>();
        changes.put("row(200, 20, 4)", x -> x.row(200, 20, 4));
        changes.put("tilt(4, 4)", x -> x.tilt(4, 4));
        changes.put("wind(9, 1)", x -> x.wind(9, 1));
        changes.put("stow(10)", x -> x.stow(10));
        changes.put("grant(4, 3, 9, 999)", x -> x.grant(4, 3, 9, 999));
        changes.put("ask(4, 9, 200, 999)", x -> x.ask(4, 9, 200, 999));
        changes.put("bid(4, 3, 9, 200, 999)", x -> x.bid(4, 3, 9, 200, 999));
        changes.put("takeBack(0, 0)", x -> x.takeBack(0, 0));
        changes.put("takeBack(1, 1)", x -> x.takeBack(1, 1));
        changes.put("match()", ShadowRows::match);
        changes.put("restore(0)", x -> x.restore(0));
        return changes;
    }

    // ---- Promise 23

    private static void undoEachChange() {
        Doc.promise(23, "Undoes the latest change: everything except the pad, the slots and the history is as it was before it.");
        changes().forEach((call, change) -> Twin.undoes(HistoryBoundaryTest::withRoom, call, change));
        changes().forEach((call, change) -> Twin.alikeFields(() -> {
            ShadowRows x = Fields.busy(5);
            change.applyAsInt(x);
            x.undo();
            return x;
        }, Fields.busyWith(5), call + " with a full history, and then undo()"));
        Twin.alikeFields(() -> {
            ShadowRows x = Fields.busy(5);
            x.carryOut();
            x.undo();
            return x;
        }, Fields.busyWith(5), "carryOut(), and then undo()");
        Twin.alikeFields(() -> {
            ShadowRows x = new ShadowRows();
            x.save(1);
            Fields.fill(x, 1);
            x.save(0);
            x.restore(1);
            Fields.fill(x, 0);
            x.restore(0);
            x.undo();
            return x;
        }, Fields::full, "a full field, restore() of another full one, and then undo()");
    }

    private static void undoLeavesThePad() {
        Doc.promise(23, "everything except the pad,");
        ShadowRows x = Fields.rows(2);
        x.put('m');
        x.tilt(0, 4);
        x.put('x');
        x.undo();
        Due.is("what was put before and after the change stays", x.count(6), 2);
        Due.is("it is the same text", x.fault(), 1);
        x.tilt(0, 4);
        x.wipe();
        x.undo();
        Due.is("a wiped pad stays so", x.count(6), 0);
        Text.append(x, "t0=4");
        x.carryOut();
        x.undo();
        Due.is("a text that was carried out does not come back", x.wipe(), 0);
        Due.is("its change is undone", x.ofRow(0, 2), 2);
    }

    private static void undoLeavesTheSlots() {
        Doc.promise(23, "the slots and the history is as it was before it.");
        ShadowRows x = Fields.rows(2);
        x.tilt(0, 4);
        x.save(0);
        x.undo();
        Due.is("the tilt before", x.ofRow(0, 2), 2);
        x.restore(0);
        Due.is("the slot has what was saved", x.ofRow(0, 2), 4);
        x.undo();
        Due.is("the slot keeps it when restore() is undone", x.restore(0), 2);
        Due.is("with its tilt", x.ofRow(0, 2), 4);
        x.wind(0, 1);
        x.save(1);
        x.undo();
        x.undo();
        x.undo();
        Due.is("of the rows one is left", x.count(0), 1);
        Due.is("a slot that was saved later than what is undone", x.restore(1), 2);
        Due.is("with its wind", x.count(10), 1);
    }

    private static void undoLeavesTheHistory() {
        Doc.promise(23, "the history is as it was before it.");
        ShadowRows x = new ShadowRows();
        for (int wind = 1; wind <= 3; wind++) {
            x.wind(0, wind);
        }
        x.undo();
        Due.is("undo() is no change itself", x.count(7), 2);
        x.undo();
        Due.is("the state before the second one", x.count(10), 1);
        x.wind(0, 9);
        Due.is("a new change behind the first one", x.count(7), 2);
        x.undo();
        Due.is("what was undone does not come back", x.count(10), 1);
        x.undo();
        Due.is("the first state", x.count(10), 0);
    }

    /** So many changes of a wind, undo() so many times, so many changes again: against a list of the states. */
    private static void atMostSixStates() {
        Doc.promise(23, "A history of at most 6 states is kept:");
        for (int changes = 0; changes <= 14; changes++) {
            for (int undone = 0; undone <= 7; undone++) {
                for (int again = 0; again <= 8; again++) {
                    historyIs(changes, undone, again);
                }
            }
        }
        ShadowRows x = new ShadowRows();
        for (int i = 0; i < 499; i++) {
            x.wind(0, i % 10);
        }
        for (int left = 5; left >= 0; left--) {
            Due.is("six of 499", x.undo(), left);
            Due.is("the state", x.count(10), (492 + left) % 10);
        }
        Due.is("no seventh", x.undo(), NOT_POSSIBLE);
    }

    private static void historyIs(int changes, int undone, int again) {
        ShadowRows x = new ShadowRows();
        List<Integer> states = new ArrayList<>();
        int now = 0;
        String run = changes + " changes, " + undone + " times undo(), " + again + " changes: ";
        for (int i = 0; i < changes + again; i++) {
            if (i == changes) {
                now = undo(x, states, now, undone, run);
            }
            Due.is(run + "the wind before", x.wind(0, (i + 1) % 10), now);
            states.add(now);
            now = (i + 1) % 10;
            if (states.size() > 6) {
                states.remove(0);
            }
            Due.is(run + "count(7)", x.count(7), states.size());
        }
        undo(x, states, now, 7, run);
    }

    /** Returns the wind then. */
    private static int undo(ShadowRows x, List<Integer> states, int wind, int times, String run) {
        int now = wind;
        for (int i = 0; i < times; i++) {
            if (states.isEmpty()) {
                Due.is(run + "undo() without a state", x.undo(), NOT_POSSIBLE);
            } else {
                now = states.remove(states.size() - 1);
                Due.is(run + "undo()", x.undo(), states.size());
            }
            Due.is(run + "the wind", x.count(10), now);
        }
        return now;
    }

    private static void recordsTheStateBefore() {
        Doc.promise(23, "each method that is a change, and returns no error, records the state before it");
        changes().forEach((call, change) -> {
            ShadowRows room = withRoom();
            Due.isTrue(call + " is no error", change.applyAsInt(room) >= 0);
            Due.is(call + " with five states before", room.count(7), 6);
            ShadowRows full = Fields.busy(5);
            Due.isTrue(call + " is no error", change.applyAsInt(full) >= 0);
            Due.is(call + " with six states before", full.count(7), 6);
        });
        ShadowRows x = withRoom();
        x.carryOut();
        Due.is("carryOut()", x.count(7), 6);
    }

    private static void recordsWithoutADifference() {
        Doc.promise(23, "(also if nothing is different then);");
        Map<String, ToIntFunction<ShadowRows>> same = new LinkedHashMap<>();
        same.put("tilt(0, 2)", x -> x.tilt(0, 2));
        same.put("wind(0, 0)", x -> x.wind(0, 0));
        same.put("stow(7)", x -> x.stow(7));
        same.put("grant(0, 1, 0, 0)", x -> x.grant(0, 1, 0, 0));
        same.put("match()", ShadowRows::match);
        same.put("carryOut() of t2=0", x -> {
            Text.append(x, "t2=0");
            return x.carryOut();
        });
        same.put("carryOut() of t0=2", x -> {
            Text.append(x, "t0=2");
            return x.carryOut();
        });
        same.forEach((call, change) -> {
            Twin.undoes(() -> Fields.rows(2), call, change);
            Twin.alikeFields(() -> {
                ShadowRows x = Fields.rows(2);
                change.applyAsInt(x);
                return x;
            }, () -> Fields.rows(2), call);
        });
        ShadowRows x = Fields.rows(2);
        x.save(0);
        x.restore(0);
        Due.is("restore(0)", x.count(7), 3);
    }

    private static void recordsNoErrors() {
        Doc.promise(23, "and returns no error,");
        Map<String, ToIntFunction<ShadowRows>> errors = new LinkedHashMap<>();
        errors.put("row(4, 1, 1)", x -> x.row(4, 1, 1));
        errors.put("tilt(5, 0)", x -> x.tilt(5, 0));
        errors.put("wind(10, 0)", x -> x.wind(10, 0));
        errors.put("stow(11)", x -> x.stow(11));
        errors.put("grant(0, 0, 0, 0)", x -> x.grant(0, 0, 0, 0));
        errors.put("ask(0, 0, 0, 0)", x -> x.ask(0, 0, 0, 0));
        errors.put("bid(0, 0, 0, 1, 0)", x -> x.bid(0, 0, 0, 1, 0));
        errors.put("takeBack(0, 2)", x -> x.takeBack(0, 2));
        errors.put("restore(1)", x -> x.restore(1));
        errors.forEach((call, error) -> {
            Due.isTrue(call + " is an error", error.applyAsInt(Fields.busy(5)) < 0);
            Twin.changesNothing(Fields.busyWith(5), call, error);
            Twin.changesNothing(HistoryBoundaryTest::withRoom, call, error);
        });
        Twin.refuses(() -> {
            ShadowRows x = withRoom();
            x.put(';');
            return x;
        }, "carryOut() of a text with a fault", ShadowRows::carryOut, BAD_TEXT);
    }

    private static void recordsNothingElse() {
        Doc.promise(23, "each method that is a change,");
        ShadowRows x = Fields.rows(3);
        x.put('m');
        x.fault();
        x.wipe();
        x.save(0);
        x.save(1);
        x.ofRow(0, 4);
        x.inHour(0, 0, 4);
        x.over(0, 1, 0, 1);
        x.offer(0, 0, 0);
        x.count(3);
        x.worth(0, 1, 0, 1, 2);
        x.bestTilt(0, 0);
        x.bestTilts(9);
        Due.is("none of them is a change", x.count(7), 3);
        Due.is("the last row is undone", x.undo(), 2);
        Due.is("two rows", x.count(0), 2);
    }

    private static void dropsTheOldest() {
        Doc.promise(23, "when one more is recorded, the oldest one is dropped.");
        ShadowRows x = Fields.rows(6);
        Due.is("six rows, six changes", x.count(7), 6);
        x.wind(0, 1);
        Due.is("seven changes, six states", x.count(7), 6);
        for (int left = 5; left >= 0; left--) {
            Due.is("undo()", x.undo(), left);
        }
        Due.is("the state before the first row is gone", x.undo(), NOT_POSSIBLE);
        Due.is("the first row stays", x.count(0), 1);
        ShadowRows six = Fields.rows(6);
        for (int left = 5; left >= 0; left--) {
            Due.is("undo()", six.undo(), left);
        }
        Due.is("with six changes it is there", six.count(0), 0);
    }

    private static void ordersRecordNothing() {
        Doc.promise(23, "An order of a text records nothing by itself.");
        ShadowRows x = Fields.rows(2);
        Text.append(x, "t0=4;w0=5;w1=5;w2=5;w3=5;w4=5;w5=5;a0@0*1:1;m");
        x.carryOut();
        Due.is("nine orders, one change", x.count(7), 3);
        x.undo();
        Due.is("undone at once", x.ofRow(0, 2), 2);
        for (int hour = 0; hour < 6; hour++) {
            Due.is("undone at once", x.count(10 + hour), 0);
        }
        Due.is("the rows can be undone", x.count(7), 2);
        ShadowRows full = Fields.busy(5);
        full.wipe();
        Text.append(full, "w0=1;w0=2;w0=3;w0=4;w0=5;w0=6;w0=7;w0=8");
        full.carryOut();
        Due.is("with a full history one state is dropped", full.count(7), 6);
        full.undo();
        Due.is("the state before the text", full.count(10), 0);
        full.undo();
        Due.is("the state before the change before", full.count(15), 0);
    }

    private static void undoHowMany() {
        Doc.promise(23, "Returns how many changes can be undone then;");
        for (int changes = 1; changes <= 8; changes++) {
            ShadowRows x = new ShadowRows();
            for (int i = 0; i < changes; i++) {
                x.match();
            }
            for (int left = Math.min(6, changes) - 1; left >= 0; left--) {
                Due.is("undo() after " + changes + " changes", x.undo(), left);
                Due.is("count(7)", x.count(7), left);
            }
        }
    }

    private static void undoNotPossible() {
        Doc.promise(23, "NOT_POSSIBLE if there is none.");
        Twin.refuses(ShadowRows::new, "undo() of a new object", ShadowRows::undo, NOT_POSSIBLE);
        Twin.refuses(() -> {
            ShadowRows x = new ShadowRows();
            x.put('m');
            x.save(0);
            return x;
        }, "undo() with a text and a slot", ShadowRows::undo, NOT_POSSIBLE);
        Twin.refuses(() -> {
            ShadowRows x = Fields.busy(4);
            for (int i = 0; i < 6; i++) {
                x.undo();
            }
            return x;
        }, "undo() after all that can be undone", ShadowRows::undo, NOT_POSSIBLE);
    }

    // ---- Promise 24

    /** Changes something of all that there is. */
    private static ShadowRows changed(ShadowRows x) {
        x.row(200, 1, 1);
        for (int hour = 0; hour < 10; hour++) {
            x.wind(hour, 9 - hour);
            x.grant(0, 1, hour, 500 + hour);
            x.grant(1, 0, hour, 600 + hour);
        }
        for (int row = 0; row < 6; row++) {
            x.tilt(row, 4 - row % 5);
        }
        x.stow(2);
        x.takeBack(0, 0);
        x.takeBack(1, 0);
        x.ask(1, 5, 50, 1);
        x.bid(0, 1, 5, 60, 2);
        x.match();
        x.ask(0, 6, 7, 8);
        return x;
    }

    private static Supplier<ShadowRows> savedAndChanged(int slot, int rows) {
        return () -> {
            ShadowRows x = Fields.busy(rows);
            x.save(slot);
            return changed(x);
        };
    }

    private static void saveEverything() {
        Doc.promise(24, "Saves everything except the pad, the history and the slots in a slot,");
        for (int rows = 2; rows <= 6; rows++) {
            for (int i = 0; i < 2; i++) {
                int slot = i;
                Supplier<ShadowRows> made = savedAndChanged(slot, rows);
                Twin.alikeFields(() -> {
                    ShadowRows x = made.get();
                    x.restore(slot);
                    return x;
                }, Fields.busyWith(rows), rows + " rows, save(" + slot + "), changes, restore(" + slot + ")");
            }
        }
        Twin.alikeFields(() -> {
            ShadowRows x = new ShadowRows();
            x.save(1);
            Fields.fill(x, 0);
            x.save(0);
            x.restore(1);
            Fields.fill(x, 1);
            x.restore(0);
            return x;
        }, Fields::full, "a full field, another full one, and restore() of the first");
        ShadowRows x = Fields.rows(2);
        x.put('m');
        x.save(0);
        x.put('x');
        x.restore(0);
        Due.is("the pad is not saved", x.count(6), 2);
        Due.is("nor is the history: two rows, and restore()", x.count(7), 3);
        x.row(200, 1, 1);
        x.save(1);
        x.restore(0);
        Due.is("nor are the slots", x.restore(1), 3);
    }

    private static void saveOverwrites() {
        Doc.promise(24, "and overwrites what was saved there.");
        for (int slot = 0; slot < 2; slot++) {
            ShadowRows x = Fields.rows(2);
            x.save(slot);
            x.tilt(0, 0);
            x.row(200, 1, 1);
            x.save(slot);
            x.tilt(0, 4);
            Due.is("what was saved last", x.restore(slot), 3);
            Due.is("with its tilt", x.ofRow(0, 2), 0);
            Due.is("nothing in the other slot", x.restore(1 - slot), NOT_POSSIBLE);
            ShadowRows less = Fields.busy(6);
            less.save(slot);
            for (int i = 0; i < 6; i++) {
                less.undo();
            }
            less.save(slot);
            changed(less);
            less.restore(slot);
            Due.is("nothing is left of more: asks", less.count(1), 2);
            Due.is("nothing is left of more: bids", less.count(2), 1);
            Due.is("nothing is left of more: winds", less.count(19), 0);
        }
    }

    private static void saveSlot() {
        Doc.promise(24, "`slot`: 0 or 1");
        ShadowRows x = Fields.rows(1);
        x.save(0);
        x.row(200, 1, 1);
        x.save(1);
        x.row(199, 1, 1);
        Due.is("the slot 0 has one row", x.restore(0), 1);
        Due.is("the slot 1 has two", x.restore(1), 2);
        Due.is("the slot 0 still has one", x.restore(0), 1);
    }

    private static void saveHowMany() {
        Doc.promise(24, "Returns how many rows there are;");
        for (int rows = 0; rows <= 6; rows++) {
            Due.is("in the slot 0", Fields.rows(rows).save(0), rows);
            Due.is("in the slot 1", Fields.rows(rows).save(1), rows);
        }
    }

    private static void saveBadValue() {
        Doc.promise(24, "Returns how many rows there are; BAD_VALUE if there is no such slot.");
        for (int slot : Fields.outside(0, 1)) {
            Twin.refuses(Fields.busyWith(2), "save(" + slot + ")", x -> x.save(slot), BAD_VALUE);
            Twin.refuses(ShadowRows::new, "save(" + slot + ") without rows", x -> x.save(slot), BAD_VALUE);
        }
    }

    private static void saveIsNoChange() {
        Doc.terms("Texts", "Ahead of the calls `undo`, `save`, `restore` the interface says: ---- undo, saving.");
        for (int slot = 0; slot < 2; slot++) {
            ShadowRows x = Fields.rows(3);
            x.save(slot);
            Due.is("no change", x.count(7), 3);
            Due.is("undo() is of the change before", x.undo(), 2);
            Due.is("a row less", x.count(0), 2);
        }
        Twin.alikeFields(() -> {
            ShadowRows x = Fields.busy(6);
            x.save(0);
            x.save(1);
            return x;
        }, Fields.busyWith(6), "save(0), save(1)");
        Twin.changesNothing(() -> {
            ShadowRows x = Fields.busy(6);
            x.save(1);
            return x;
        }, "save(1) again", x -> x.save(1));
    }

    // ---- Promise 25

    private static void restoreWhatWasSavedLast() {
        Doc.promise(25, "Restores what was saved last in a slot,");
        ShadowRows x = new ShadowRows();
        x.save(0);
        for (int rows = 1; rows <= 6; rows++) {
            x.row(rows, 1, 1);
            x.save(rows % 2);
        }
        Due.is("the slot 0", x.restore(0), 6);
        Due.is("the slot 1", x.restore(1), 5);
        for (int i = 0; i < 2; i++) {
            int slot = i;
            Twin.alikeFields(() -> {
                ShadowRows y = savedAndChanged(slot, 4).get();
                y.save(slot);
                y.restore(1 - slot);
                y.stow(9);
                y.restore(slot);
                return y;
            }, () -> changed(Fields.busy(4)), "saved again");
        }
    }

    private static void restoreKeepsIt() {
        Doc.promise(25, "which keeps it.");
        for (int i = 0; i < 2; i++) {
            int slot = i;
            Twin.alikeFields(() -> {
                ShadowRows x = savedAndChanged(slot, 3).get();
                for (int times = 0; times < 2; times++) {
                    x.restore(slot);
                    changed(x);
                }
                x.restore(slot);
                return x;
            }, Fields.busyWith(3), "restore(" + slot + ") again and again");
        }
    }

    private static void restoreIsAChange() {
        Doc.promise(25, "This is a change.");
        Twin.undoes(HistoryBoundaryTest::withRoom, "restore(0)", x -> x.restore(0));
        Twin.undoes(() -> {
            ShadowRows x = new ShadowRows();
            x.save(1);
            return x;
        }, "restore(1) of no rows", x -> x.restore(1));
        ShadowRows x = Fields.rows(2);
        x.save(0);
        x.tilt(0, 4);
        x.restore(0);
        x.undo();
        Due.is("the tilt before it", x.ofRow(0, 2), 4);
        x.undo();
        Due.is("the tilt before that", x.ofRow(0, 2), 2);
    }

    private static void restoreSlot() {
        Doc.promise(25, "`slot`: 0 or 1");
        for (int slot = 0; slot < 2; slot++) {
            ShadowRows x = Fields.rows(2);
            x.save(slot);
            Due.is("the one that was saved", x.restore(slot), 2);
            Due.is("the other one", x.restore(1 - slot), NOT_POSSIBLE);
        }
    }

    private static void restoreHowMany() {
        Doc.promise(25, "Returns how many rows there are then;");
        for (int rows = 0; rows <= 6; rows++) {
            ShadowRows x = Fields.rows(rows);
            x.save(0);
            x.save(1);
            x.row(200, 1, 1);
            Due.is("from the slot 0", x.restore(0), rows);
            Due.is("rows", x.count(0), rows);
            Due.is("one row more is not there", x.ofRow(rows, 0), -1);
            x.row(200, 1, 1);
            Due.is("from the slot 1", x.restore(1), rows);
        }
    }

    private static void restoreNotPossible() {
        Doc.promise(25, "NOT_POSSIBLE if nothing was saved in it.");
        Twin.refuses(ShadowRows::new, "restore(0)", x -> x.restore(0), NOT_POSSIBLE);
        Twin.refuses(ShadowRows::new, "restore(1)", x -> x.restore(1), NOT_POSSIBLE);
        Twin.refuses(Fields.busyWith(3), "restore(1), the slot 0 is saved", x -> x.restore(1), NOT_POSSIBLE);
        Twin.refuses(() -> {
            ShadowRows x = Fields.rows(2);
            x.save(1);
            return x;
        }, "restore(0), the slot 1 is saved", x -> x.restore(0), NOT_POSSIBLE);
        Twin.refuses(() -> {
            ShadowRows x = Fields.rows(2);
            x.save(2);
            return x;
        }, "restore(0), save() was refused", x -> x.restore(0), NOT_POSSIBLE);
    }

    private static void restoreRefusals() {
        Doc.promise(25, "Returns how many rows there are then; BAD_VALUE if there is no such slot; NOT_POSSIBLE if nothing was saved in it.");
        for (int slot : Fields.outside(0, 1)) {
            Twin.refuses(Fields.busyWith(2), "restore(" + slot + ")", x -> x.restore(slot), BAD_VALUE);
            Twin.refuses(ShadowRows::new, "restore(" + slot + "), nothing was saved", x -> x.restore(slot), BAD_VALUE);
        }
    }
}
