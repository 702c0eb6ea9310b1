import java.util.ArrayList;
import java.util.List;
import java.util.function.Supplier;
import java.util.function.ToIntFunction;

/**
 * Holds that a call changes nothing: of two objects that are made alike one has the call, and both answer alike to all
 * that can be asked of them, and to what is called then. As an object is used for at most 512 calls, there are new ones
 * for each list of questions.
 */
final class Twin {
    private static final class Question {
        final String call;
        final ToIntFunction<ShadowRows> answer;

        Question(String call, ToIntFunction<ShadowRows> answer) {
            this.call = call;
            this.answer = answer;
        }
    }

    /** The first of the lists ask about what is undone, saved and restored; the others about the pad, the history and the slots, too. */
    private static final List<List<Question>> LISTS = new ArrayList<>();
    private static final int OF_THE_FIELD = 3;
    private static List<Question> list;

    static {
        nextList();
        field();
        nextList();
        rights();
        nextList();
        hours();
        nextList();
        padAndHistory();
        undone();
        nextList();
        carriedOut();
        nextList();
        restored(0);
        nextList();
        restored(1);
        nextList();
        goesOn();
    }

    private Twin() {
    }

    /** The call answers this error, and changes nothing. */
    static void refuses(Supplier<ShadowRows> made, String call, ToIntFunction<ShadowRows> refused, int error) {
        Due.is(call, refused.applyAsInt(made.get()), error);
        changesNothing(made, call, refused);
    }

    static void changesNothing(Supplier<ShadowRows> made, String call, ToIntFunction<ShadowRows> called) {
        alike(() -> after(made.get(), called), made, call);
    }

    /** The call is a change: it can be undone, and leaves nothing then. The object must have room in its history. */
    static void undoes(Supplier<ShadowRows> made, String call, ToIntFunction<ShadowRows> change) {
        ShadowRows x = made.get();
        int before = x.count(7);
        Due.isTrue(call + " is no error", change.applyAsInt(x) >= 0);
        Due.is(call + ", and then count(7)", x.count(7), before + 1);
        alike(() -> after(after(made.get(), change), ShadowRows::undo), made, call + ", and then undo()");
    }

    /** Objects of the two makers answer alike. */
    static void alike(Supplier<ShadowRows> one, Supplier<ShadowRows> other, String call) {
        compare(LISTS, one, other, call);
    }

    /** Objects of the two makers answer alike to all but what is about the pad, the history and the slots. */
    static void alikeFields(Supplier<ShadowRows> one, Supplier<ShadowRows> other, String call) {
        compare(LISTS.subList(0, OF_THE_FIELD), one, other, call);
    }

    private static void compare(List<List<Question>> lists, Supplier<ShadowRows> one, Supplier<ShadowRows> other, String call) {
        for (List<Question> questions : lists) {
            ShadowRows with = one.get();
            ShadowRows without = other.get();
            for (Question question : questions) {
                int got = question.answer.applyAsInt(with);
                int due = question.answer.applyAsInt(without);
                Due.is(got == due ? "" : call + ", and then " + question.call, got, due);
            }
        }
    }

    private static ShadowRows after(ShadowRows x, ToIntFunction<ShadowRows> called) {
        called.applyAsInt(x);
        return x;
    }

    private static void nextList() {
        list = new ArrayList<>();
        LISTS.add(list);
    }

    private static void ask(String call, ToIntFunction<ShadowRows> answer) {
        list.add(new Question(call, answer));
    }

    private static void state() {
        field();
        padAndHistory();
    }

    private static void padAndHistory() {
        ask("count(6)", x -> x.count(6));
        ask("count(7)", x -> x.count(7));
        ask("fault()", ShadowRows::fault);
    }

    private static void field() {
        int[] counts = {0, 1, 2, 3, 4, 5, 10, 11, 12, 13, 14, 15, 16, 17, 18, 19};
        for (int what : counts) {
            ask("count(" + what + ")", x -> x.count(what));
        }
        for (int i = 0; i < 6 * 9; i++) {
            int row = i / 9;
            int what = i % 9;
            ask("ofRow(" + row + ", " + what + ")", x -> x.ofRow(row, what));
        }
        for (int i = 0; i < 2 * 10 * 5; i++) {
            int kind = i / 50;
            int number = i / 5 % 10;
            int what = i % 5;
            ask("offer(" + kind + ", " + number + ", " + what + ")", x -> x.offer(kind, number, what));
        }
    }

    private static void rights() {
        for (int i = 0; i < 6 * 6 * 10; i++) {
            int row = i / 60;
            int over = i / 10 % 6;
            int hour = i % 10;
            if (row != over) {
                ask("over(" + row + ", " + over + ", " + hour + ", 0)", x -> x.over(row, over, hour, 0));
            }
        }
    }

    private static void hours() {
        for (int i = 0; i < 6 * 10 * 5; i++) {
            int row = i / 50;
            int hour = i / 5 % 10;
            int what = i % 5;
            ask("inHour(" + row + ", " + hour + ", " + what + ")", x -> x.inHour(row, hour, what));
        }
    }

    /** All states of the history, one more than there can be. */
    private static void undone() {
        for (int i = 1; i <= 7; i++) {
            ask("undo() for the time " + i, ShadowRows::undo);
            int[] counts = {0, 1, 2, 3, 4, 5, 7, 10, 11, 12, 13, 14, 15, 16, 17, 18, 19};
            for (int what : counts) {
                ask("count(" + what + ") after undo() for the time " + i, x -> x.count(what));
            }
            for (int j = 0; j < 12; j++) {
                int row = j / 2;
                int what = 2 + j % 2;
                ask("ofRow(" + row + ", " + what + ") after undo() for the time " + i, x -> x.ofRow(row, what));
            }
            for (int hour = 0; hour < 10; hour++) {
                int at = hour;
                ask("over(0, 1, " + at + ", 0) after undo() for the time " + i, x -> x.over(0, 1, at, 0));
            }
        }
    }

    private static void carriedOut() {
        ask("fault()", ShadowRows::fault);
        ask("carryOut()", ShadowRows::carryOut);
        state();
        ask("wipe()", ShadowRows::wipe);
        ask("undo()", ShadowRows::undo);
    }

    private static void restored(int slot) {
        ask("restore(" + slot + ")", x -> x.restore(slot));
        state();
        ask("undo()", ShadowRows::undo);
    }

    private static void goesOn() {
        ask("row(150, 5, 2)", x -> x.row(150, 5, 2));
        ask("row(0, 20, 4)", x -> x.row(0, 20, 4));
        ask("tilt(0, 1)", x -> x.tilt(0, 1));
        ask("wind(0, 3)", x -> x.wind(0, 3));
        ask("stow(9)", x -> x.stow(9));
        ask("grant(0, 1, 3, 4)", x -> x.grant(0, 1, 3, 4));
        ask("ask(0, 1, 2, 3)", x -> x.ask(0, 1, 2, 3));
        ask("bid(1, 0, 1, 2, 4)", x -> x.bid(1, 0, 1, 2, 4));
        ask("match()", ShadowRows::match);
        ask("takeBack(0, 0)", x -> x.takeBack(0, 0));
        ask("takeBack(1, 0)", x -> x.takeBack(1, 0));
        ask("put('m')", x -> x.put('m'));
        ask("worth(0, 1, 4, 999, 2)", x -> x.worth(0, 1, 4, 999, 2));
        ask("bestTilt(1, 1)", x -> x.bestTilt(1, 1));
        ask("bestTilts(9)", x -> x.bestTilts(9));
        ask("save(0)", x -> x.save(0));
        ask("save(1)", x -> x.save(1));
        state();
    }
}
