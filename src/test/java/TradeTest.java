/** Promises 7 to 10: asks, bids, taking back, matching. */
public final class TradeTest {
    private static final int NO_SUCH = -1, BAD_VALUE = -2, TOO_MANY = -4, NONE = -6;

    public static void main(String[] args) {
        ask();
        bid();
        takeBack();
        bidsByPrice();
        asksByPrice();
        onlyWhatSuits();
        upToTheRight();
        matchIsAChange();
        Due.end();
    }

    private static ShadowRows threeRows() {
        ShadowRows x = new ShadowRows();
        x.row(0, 5, 1);
        x.row(10, 5, 1);
        x.row(20, 5, 1);
        return x;
    }

    private static void offerIs(ShadowRows x, int kind, int number, int seller, int hour, int units, int price, int buyer) {
        String name = (kind == 0 ? "ask " : "bid ") + number;
        Due.is(name + " seller", x.offer(kind, number, 0), seller);
        Due.is(name + " hour", x.offer(kind, number, 1), hour);
        Due.is(name + " units", x.offer(kind, number, 2), units);
        Due.is(name + " price", x.offer(kind, number, 3), price);
        Due.is(name + " buyer", x.offer(kind, number, 4), buyer);
    }

    private static void ask() {
        ShadowRows x = threeRows();
        Due.is("7: first", x.ask(2, 9, 200, 999), 1);
        Due.is("7: second", x.ask(0, 0, 1, 0), 2);
        offerIs(x, 0, 0, 2, 9, 200, 999, NONE);
        offerIs(x, 0, 1, 0, 0, 1, 0, NONE);
        Due.is("7: no bids", x.count(2), 0);
        Due.is("7: a change", x.count(7), 5);
        Due.is("7: seller -1", x.ask(-1, 0, 1, 1), NO_SUCH);
        Due.is("7: seller 3", x.ask(3, 0, 1, 1), NO_SUCH);
        Due.is("7: hour -1", x.ask(0, -1, 1, 1), NO_SUCH);
        Due.is("7: hour 10", x.ask(0, 10, 1, 1), NO_SUCH);
        Due.is("7: no hour before bad units", x.ask(0, 10, 0, 1), NO_SUCH);
        Due.is("7: units 0", x.ask(0, 0, 0, 1), BAD_VALUE);
        Due.is("7: units 201", x.ask(0, 0, 201, 1), BAD_VALUE);
        Due.is("7: price -1", x.ask(0, 0, 1, -1), BAD_VALUE);
        Due.is("7: price 1000", x.ask(0, 0, 1, 1000), BAD_VALUE);
        Due.is("7: errors record nothing", x.count(7), 5);
        for (int i = 2; i < 10; i++) {
            Due.is("7: more", x.ask(1, 1, i, i), i + 1);
        }
        Due.is("7: eleventh", x.ask(0, 0, 1, 1), TOO_MANY);
        Due.is("7: bad before too many", x.ask(0, 0, 0, 1), BAD_VALUE);
        Due.is("7: no row before too many", x.ask(3, 0, 1, 1), NO_SUCH);
        Due.is("7: ten", x.count(1), 10);
        Due.is("7: bids have a room of their own", x.bid(0, 1, 0, 1, 1), 1);
    }

    private static void bid() {
        ShadowRows x = threeRows();
        Due.is("8: first", x.bid(2, 0, 9, 200, 999), 1);
        Due.is("8: second", x.bid(0, 1, 0, 1, 0), 2);
        offerIs(x, 1, 0, 0, 9, 200, 999, 2);
        offerIs(x, 1, 1, 1, 0, 1, 0, 0);
        Due.is("8: no asks", x.count(1), 0);
        Due.is("8: a change", x.count(7), 5);
        Due.is("8: buyer -1", x.bid(-1, 0, 0, 1, 1), NO_SUCH);
        Due.is("8: buyer 3", x.bid(3, 0, 0, 1, 1), NO_SUCH);
        Due.is("8: seller -1", x.bid(0, -1, 0, 1, 1), NO_SUCH);
        Due.is("8: seller 3", x.bid(0, 3, 0, 1, 1), NO_SUCH);
        Due.is("8: hour -1", x.bid(0, 1, -1, 1, 1), NO_SUCH);
        Due.is("8: hour 10", x.bid(0, 1, 10, 1, 1), NO_SUCH);
        Due.is("8: no hour before the same row", x.bid(0, 0, 10, 1, 1), NO_SUCH);
        Due.is("8: the same row", x.bid(1, 1, 0, 1, 1), BAD_VALUE);
        Due.is("8: units 0", x.bid(0, 1, 0, 0, 1), BAD_VALUE);
        Due.is("8: units 201", x.bid(0, 1, 0, 201, 1), BAD_VALUE);
        Due.is("8: price -1", x.bid(0, 1, 0, 1, -1), BAD_VALUE);
        Due.is("8: price 1000", x.bid(0, 1, 0, 1, 1000), BAD_VALUE);
        Due.is("8: errors record nothing", x.count(7), 5);
        for (int i = 2; i < 10; i++) {
            Due.is("8: more", x.bid(1, 2, 1, i, i), i + 1);
        }
        Due.is("8: eleventh", x.bid(0, 1, 0, 1, 1), TOO_MANY);
        Due.is("8: bad before too many", x.bid(0, 0, 0, 1, 1), BAD_VALUE);
        Due.is("8: ten", x.count(2), 10);
    }

    private static void takeBack() {
        ShadowRows x = threeRows();
        x.ask(0, 1, 11, 101);
        x.ask(1, 2, 12, 102);
        x.ask(2, 3, 13, 103);
        Due.is("9: no bid", x.takeBack(1, 0), NO_SUCH);
        Due.is("9: number -1", x.takeBack(0, -1), NO_SUCH);
        Due.is("9: number 3", x.takeBack(0, 3), NO_SUCH);
        Due.is("9: kind -1", x.takeBack(-1, 0), BAD_VALUE);
        Due.is("9: kind 2", x.takeBack(2, 0), BAD_VALUE);
        Due.is("9: a bad kind before no such one", x.takeBack(2, 9), BAD_VALUE);
        Due.is("9: errors record nothing", x.count(7), 6);
        Due.is("9: the middle one", x.takeBack(0, 1), 2);
        offerIs(x, 0, 0, 0, 1, 11, 101, NONE);
        offerIs(x, 0, 1, 2, 3, 13, 103, NONE);
        x.bid(0, 1, 0, 1, 1);
        x.bid(1, 2, 5, 2, 2);
        Due.is("9: a bid", x.takeBack(1, 0), 1);
        offerIs(x, 1, 0, 2, 5, 2, 2, 1);
        Due.is("9: the last bid", x.takeBack(1, 0), 0);
        Due.is("9: asks stay", x.count(1), 2);
        ShadowRows y = threeRows();
        y.ask(0, 0, 1, 1);
        y.takeBack(0, 0);
        Due.is("9: a change", y.count(7), 5);
        Due.is("9: undone", y.undo(), 4);
        Due.is("9: back", y.count(1), 1);
    }

    /** Highest bid first; of equal ones the first. */
    private static void bidsByPrice() {
        ShadowRows x = threeRows();
        x.ask(1, 4, 10, 5);
        x.bid(0, 1, 4, 4, 6);
        x.bid(2, 1, 4, 4, 7);
        x.bid(0, 1, 4, 1, 7);
        x.bid(2, 1, 4, 2, 6);
        x.bid(2, 1, 4, 2, 5);
        Due.is("10: units", x.match(), 10);
        Due.is("10: asks", x.count(1), 0);
        Due.is("10: bids", x.count(2), 2);
        offerIs(x, 1, 0, 1, 4, 1, 6, 2);
        offerIs(x, 1, 1, 1, 4, 2, 5, 2);
        Due.is("10: right of 0", x.over(0, 1, 4, 0), 5);
        Due.is("10: right of 2", x.over(2, 1, 4, 0), 5);
        Due.is("10: at the price of the ask, 0", x.ofRow(0, 3), 1000000000 - 25);
        Due.is("10: at the price of the ask, 2", x.ofRow(2, 3), 1000000000 - 25);
        Due.is("10: seller", x.ofRow(1, 3), 1000000000 + 50);
        Due.is("10: traded", x.count(4), 10);
    }

    /** Lowest ask first; of equal ones the first; none above the price of the bid. */
    private static void asksByPrice() {
        ShadowRows x = threeRows();
        x.ask(1, 4, 3, 9);
        x.ask(1, 4, 2, 4);
        x.ask(1, 4, 5, 3);
        x.ask(1, 4, 6, 4);
        x.ask(1, 4, 7, 10);
        x.bid(0, 1, 4, 8, 9);
        Due.is("10: first", x.match(), 8);
        Due.is("10: paid 5 * 3 + 2 * 4 + 1 * 4", x.ofRow(0, 3), 1000000000 - 27);
        Due.is("10: asks left", x.count(1), 3);
        offerIs(x, 0, 0, 1, 4, 3, 9, NONE);
        offerIs(x, 0, 1, 1, 4, 5, 4, NONE);
        offerIs(x, 0, 2, 1, 4, 7, 10, NONE);
        x.bid(0, 1, 4, 20, 9);
        Due.is("10: equal prices trade, higher ones not", x.match(), 8);
        offerIs(x, 0, 0, 1, 4, 7, 10, NONE);
        offerIs(x, 1, 0, 1, 4, 12, 9, 0);
        Due.is("10: all traded", x.count(4), 16);
        Due.is("10: again nothing", x.match(), 0);
    }

    private static void onlyWhatSuits() {
        ShadowRows x = threeRows();
        x.ask(1, 4, 10, 0);
        x.bid(0, 2, 4, 10, 999);
        x.bid(0, 1, 5, 10, 999);
        x.bid(1, 0, 4, 10, 999);
        Due.is("10: another seller or hour", x.match(), 0);
        Due.is("10: the ask stays", x.offer(0, 0, 2), 10);
        Due.is("10: the bids stay", x.count(2), 3);
        x.bid(2, 1, 4, 10, 0);
        Due.is("10: for nothing", x.match(), 10);
        Due.is("10: purse", x.ofRow(2, 3), 1000000000);
        Due.is("10: right", x.over(2, 1, 4, 0), 10);
    }

    private static void upToTheRight() {
        ShadowRows x = threeRows();
        x.grant(0, 1, 0, 990);
        x.ask(1, 0, 5, 1);
        x.ask(1, 0, 100, 2);
        x.bid(0, 1, 0, 100, 3);
        x.bid(2, 1, 0, 50, 2);
        Due.is("10: up to 999", x.match(), 59);
        Due.is("10: 999", x.over(0, 1, 0, 0), 999);
        Due.is("10: another's right", x.over(2, 1, 0, 0), 50);
        offerIs(x, 1, 0, 1, 0, 91, 3, 0);
        offerIs(x, 0, 0, 1, 0, 46, 2, NONE);
        Due.is("10: purse 0", x.ofRow(0, 3), 1000000000 - 13);
        Due.is("10: purse 1", x.ofRow(1, 3), 1000000000 + 113);
        Due.is("10: a full right", x.match(), 0);
        Due.is("10: both stay", x.count(1) + x.count(2), 2);
    }

    private static void matchIsAChange() {
        ShadowRows x = new ShadowRows();
        Due.is("10: nothing there", x.match(), 0);
        Due.is("10: a change all the same", x.count(7), 1);
    }
}
