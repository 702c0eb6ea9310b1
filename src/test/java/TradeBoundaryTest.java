import java.util.function.Supplier;

/** The boundary cases in the terms on trades, and in the promises 7 to 10: ask, bid, takeBack, match. */
public final class TradeBoundaryTest {
    private static final int NO_SUCH = -1, BAD_VALUE = -2, TOO_MANY = -4, NONE = -6;
    private static final int PURSE = 1000000000;

    public static void main(String[] args) {
        whatAnAskIs();
        whatABidIs();
        upToTenInTheirOrder();
        bidsWithTheHighestPriceFirst();
        bidsOfOnePriceAsTheyWereMade();
        asksThatSuit();
        asksWithPricesNotAbove();
        asksWithTheLowestPriceFirst();
        asksOfOnePriceAsTheyWereMade();
        asManyUnitsAsBothHave();
        notAboveTheGreatestRight();
        whoPaysWhom();
        goneWithoutUnits();

        askIsAChange();
        askUnits();
        askPrice();
        askHowMany();
        askNoSuch();
        askOutOfRange();
        askTooMany();
        askRefusals();

        bidIsAChange();
        bidUnits();
        bidPrice();
        bidHowMany();
        bidNoSuch();
        bidBadValue();
        bidTooMany();
        bidRefusals();

        takeBackIsAChange();
        takeBackKind();
        takeBackNumber();
        takeBackHowMany();
        takeBackBadKind();
        takeBackNoSuch();
        takeBackRefusals();

        matchIsAChange();
        matchHowMany();
        Due.end();
    }

    private static void offerIs(ShadowRows x, int kind, int number, int seller, int hour, int units, int price, int buyer) {
        int[] due = {seller, hour, units, price, buyer};
        for (int what = 0; what < 5; what++) {
            Due.is("offer(" + kind + ", " + number + ", " + what + ")", x.offer(kind, number, what), due[what]);
        }
    }

    /** So many asks of the row 0 in the hour 0, of the units 1, 2, 3 .. for 5, and as many bids of the row 1 for it, for 4. */
    private static ShadowRows offers(int asks, int bids) {
        ShadowRows x = Fields.rows(2);
        for (int i = 1; i <= asks; i++) {
            x.ask(0, 0, i, 5);
        }
        for (int i = 1; i <= bids; i++) {
            x.bid(1, 0, 0, i, 4);
        }
        return x;
    }

    private static Supplier<ShadowRows> offersOf(int asks, int bids) {
        return () -> offers(asks, bids);
    }

    // ---- Trades

    private static void whatAnAskIs() {
        Doc.terms("Trades", "An ask: a row sells, in an hour, up to so many units of rights over itself for a price each.");
        ShadowRows x = Fields.rows(6);
        x.ask(5, 9, 200, 999);
        offerIs(x, 0, 0, 5, 9, 200, 999, NONE);
        x.bid(0, 5, 9, 1, 999);
        x.match();
        Due.is("one unit of the 200 is sold", x.offer(0, 0, 2), 199);
        Due.is("the right is over the seller", x.over(0, 5, 9, 0), 1);
        Due.is("the seller has none by it", x.over(5, 0, 9, 0), 0);
        Due.is("for the price each", x.ofRow(5, 3), PURSE + 999);
    }

    private static void whatABidIs() {
        Doc.terms("Trades", "A bid: a row buys, from a row, in an hour, up to so many units of rights over it for a price each.");
        ShadowRows x = Fields.rows(6);
        x.bid(5, 0, 9, 200, 999);
        offerIs(x, 1, 0, 0, 9, 200, 999, 5);
        x.ask(0, 9, 199, 0);
        x.match();
        Due.is("one unit of the 200 is left", x.offer(1, 0, 2), 1);
        Due.is("the right is the buyer's, over the seller", x.over(5, 0, 9, 0), 199);
        Due.is("the seller has none by it", x.over(0, 5, 9, 0), 0);
    }

    private static void upToTenInTheirOrder() {
        Doc.terms("Trades", "There are up to 10 asks and up to 10 bids, in the order in which they were made.");
        ShadowRows x = offers(10, 10);
        for (int number = 0; number < 10; number++) {
            offerIs(x, 0, number, 0, 0, number + 1, 5, NONE);
            offerIs(x, 1, number, 0, 0, number + 1, 4, 1);
        }
        Due.is("one more ask", x.ask(0, 0, 1, 5), TOO_MANY);
        Due.is("one more bid", x.bid(1, 0, 0, 1, 4), TOO_MANY);
        Due.is("ten asks", x.count(1), 10);
        Due.is("ten bids", x.count(2), 10);
    }

    /** The prices of ten bids rise or fall; the only ask has units for so many of them, with the highest prices. */
    private static void bidsWithTheHighestPriceFirst() {
        Doc.terms("Trades", "To match: the bids are gone through, the one with the highest price first,");
        for (int served = 1; served <= 9; served++) {
            ShadowRows up = Fields.rows(2);
            ShadowRows down = Fields.rows(2);
            up.ask(0, 0, served, 0);
            down.ask(0, 0, served, 0);
            for (int i = 0; i < 10; i++) {
                up.bid(1, 0, 0, 1, i * 111);
                down.bid(1, 0, 0, 1, 999 - i * 111);
            }
            Due.is("as many as the ask has", up.match(), served);
            Due.is("as many as the ask has", down.match(), served);
            for (int i = 0; i < 10 - served; i++) {
                Due.is("with rising prices those with the lowest are left", up.offer(1, i, 3), i * 111);
                Due.is("with falling prices those with the lowest are left", down.offer(1, i, 3), 999 - (i + served) * 111);
            }
        }
    }

    /** Ten bids of one price, of the buyers 1 to 5 and again 1 to 5; then every second one has a price that is 1 higher. */
    private static void bidsOfOnePriceAsTheyWereMade() {
        Doc.terms("Trades", "of several the one that was made first. For each bid");
        for (int served = 0; served <= 9; served++) {
            ShadowRows x = tenBids(0);
            x.ask(0, 0, served + 1, 6);
            Due.is("as many as the ask has", x.match(), served + 1);
            for (int i = 0; i < 9 - served; i++) {
                Due.is("those that were made later are left", x.offer(1, i, 4), 1 + (i + served + 1) % 5);
            }
            ShadowRows y = tenBids(1);
            y.ask(0, 0, served + 1, 6);
            y.match();
            int[] order = {1, 3, 5, 7, 9, 0, 2, 4, 6, 8};
            int number = 0;
            for (int bid = 0; bid < 10; bid++) {
                boolean left = true;
                for (int i = 0; i <= served; i++) {
                    left &= order[i] != bid;
                }
                if (left) {
                    Due.is("the bid " + bid + " is left, as it was made", y.offer(1, number, 4), 1 + bid % 5);
                    number++;
                }
            }
            Due.is("no others", y.count(2), number);
        }
    }

    private static ShadowRows tenBids(int higher) {
        ShadowRows x = Fields.rows(6);
        for (int i = 0; i < 10; i++) {
            x.bid(1 + i % 5, 0, 0, 1, 7 + i % 2 * higher);
        }
        return x;
    }

    private static void asksThatSuit() {
        Doc.terms("Trades", "For each bid, the asks of the row from which it buys, for its hour,");
        for (int hour = 0; hour < 10; hour++) {
            ShadowRows x = Fields.rows(6);
            x.bid(5, 0, hour, 1, 999);
            x.ask(0, (hour + 1) % 10, 1, 0);
            x.ask(0, (hour + 9) % 10, 1, 0);
            x.ask(1, hour, 1, 0);
            x.ask(5, hour, 1, 0);
            Due.is("another hour, another seller, the buyer itself", x.match(), 0);
            Due.is("the bid stays", x.offer(1, 0, 2), 1);
            Due.is("the asks stay", x.count(1), 4);
            x.ask(0, hour, 1, 0);
            Due.is("its seller, its hour", x.match(), 1);
            Due.is("the others stay", x.count(1), 4);
        }
        ShadowRows all = Fields.rows(6);
        for (int i = 0; i < 10; i++) {
            all.ask(i % 6, i, 10 + i, 5);
        }
        for (int i = 9; i >= 0; i--) {
            all.bid((i + 1) % 6, i % 6, i, 20 + i, 5);
        }
        Due.is("each of ten bids has its ask", all.match(), 145);
        for (int i = 0; i < 10; i++) {
            Due.is("the right in the hour " + i, all.over((i + 1) % 6, i % 6, i, 0), 10 + i);
            offerIs(all, 1, 9 - i, i % 6, i, 10, 5, (i + 1) % 6);
        }
    }

    private static void asksWithPricesNotAbove() {
        Doc.terms("Trades", "with prices not above its own,");
        int[] prices = {0, 1, 500, 998, 999};
        for (int price : prices) {
            Due.is("the same price, " + price, atPrices(price, price).match(), 1);
            if (price > 0) {
                Due.is("one less, " + price, atPrices(price - 1, price).match(), 1);
                ShadowRows x = atPrices(price, price - 1);
                Due.is("one more, " + price, x.match(), 0);
                Due.is("the ask stays", x.offer(0, 0, 2), 1);
                Due.is("the bid stays", x.offer(1, 0, 2), 1);
            }
        }
    }

    private static ShadowRows atPrices(int ask, int bid) {
        ShadowRows x = Fields.rows(2);
        x.ask(0, 9, 1, ask);
        x.bid(1, 0, 9, 1, bid);
        return x;
    }

    /** The prices of ten asks rise or fall; the bid has units for so many of them, with the lowest prices. */
    private static void asksWithTheLowestPriceFirst() {
        Doc.terms("Trades", "are gone through, the one with the lowest price first,");
        for (int served = 1; served <= 9; served++) {
            ShadowRows up = Fields.rows(2);
            ShadowRows down = Fields.rows(2);
            up.bid(1, 0, 0, served, 999);
            down.bid(1, 0, 0, served, 999);
            int paid = 0;
            for (int i = 0; i < 10; i++) {
                up.ask(0, 0, 1, i * 111);
                down.ask(0, 0, 1, 999 - i * 111);
                paid += i < served ? i * 111 : 0;
            }
            Due.is("as many as the bid has", up.match(), served);
            Due.is("as many as the bid has", down.match(), served);
            Due.is("the lowest prices are paid", up.ofRow(1, 3), PURSE - paid);
            Due.is("the lowest prices are paid", down.ofRow(1, 3), PURSE - paid);
            for (int i = 0; i < 10 - served; i++) {
                Due.is("with rising prices those with the highest are left", up.offer(0, i, 3), (i + served) * 111);
                Due.is("with falling prices those with the highest are left", down.offer(0, i, 3), 999 - i * 111);
            }
        }
    }

    /** The units tell which ask it is: 1, 2, 3 .. of one price, or by turns for 4 and 5. */
    private static void asksOfOnePriceAsTheyWereMade() {
        Doc.terms("Trades", "the one with the lowest price first, of several the one that was made first: as many units");
        int[] one = {0, 1, 2, 3, 4, 5, 6, 7, 8, 9};
        int[] turns = {1, 3, 5, 7, 9, 0, 2, 4, 6, 8};
        for (int units = 1; units <= 55; units++) {
            ShadowRows x = offers(10, 0);
            x.bid(1, 0, 0, units, 5);
            Due.is("all are traded", x.match(), units);
            asksLeft(x, one, units);
            ShadowRows y = Fields.rows(2);
            for (int i = 0; i < 10; i++) {
                y.ask(0, 0, i + 1, 5 - i % 2);
            }
            y.bid(1, 0, 0, units, 5);
            Due.is("all are traded", y.match(), units);
            asksLeft(y, turns, units);
        }
    }

    /** What is left of the asks of the units 1 to 10 after so many units, sold in this order. */
    private static void asksLeft(ShadowRows x, int[] order, int sold) {
        int[] left = new int[10];
        int rest = sold;
        for (int ask : order) {
            int units = Math.min(rest, ask + 1);
            left[ask] = ask + 1 - units;
            rest -= units;
        }
        int number = 0;
        for (int ask = 0; ask < 10; ask++) {
            if (left[ask] > 0) {
                Due.is("the ask " + ask + " after " + sold, x.offer(0, number, 2), left[ask]);
                number++;
            }
        }
        Due.is("no others after " + sold, x.count(1), number);
    }

    private static void asManyUnitsAsBothHave() {
        Doc.terms("Trades", "as many units are traded as both still have,");
        int[][] both = {{1, 1}, {1, 2}, {2, 1}, {200, 200}, {199, 200}, {200, 199}, {1, 200}, {200, 1}};
        for (int[] units : both) {
            ShadowRows x = Fields.rows(2);
            x.ask(0, 0, units[0], 1);
            x.bid(1, 0, 0, units[1], 1);
            int traded = Math.min(units[0], units[1]);
            String what = units[0] + " asked, " + units[1] + " bid";
            Due.is(what, x.match(), traded);
            Due.is(what + ": the ask's units", x.offer(0, 0, 2), units[0] > traded ? units[0] - traded : NO_SUCH);
            Due.is(what + ": the bid's units", x.offer(1, 0, 2), units[1] > traded ? units[1] - traded : NO_SUCH);
            Due.is(what + ": the right", x.over(1, 0, 0, 0), traded);
        }
        ShadowRows still = Fields.rows(3);
        still.ask(0, 0, 10, 1);
        still.bid(1, 0, 0, 7, 2);
        still.bid(2, 0, 0, 7, 1);
        Due.is("the second bid has what the first one has left", still.match(), 10);
        Due.is("7 for the first", still.over(1, 0, 0, 0), 7);
        Due.is("3 for the second", still.over(2, 0, 0, 0), 3);
    }

    /** The right is raised up to 999 and no further, for one buyer over one seller in one hour. */
    private static void notAboveTheGreatestRight() {
        Doc.terms("Trades", "but not so many that the right would be above 999:");
        int[] rights = {798, 799, 800, 998, 999};
        for (int right : rights) {
            ShadowRows x = Fields.rows(3);
            x.grant(1, 0, 0, right);
            x.ask(0, 0, 200, 1);
            x.bid(1, 0, 0, 200, 1);
            int traded = Math.min(200, 999 - right);
            Due.is("a right of " + right, x.match(), traded);
            Due.is("the right then", x.over(1, 0, 0, 0), right + traded);
            Due.is("what the ask has then", x.offer(0, 0, 2), traded == 200 ? NO_SUCH : 200 - traded);
            Due.is("what the bid has then", x.offer(1, 0, 2), traded == 200 ? NO_SUCH : 200 - traded);
            Due.is("the purse", x.ofRow(1, 3), PURSE - traded);
            Due.is("again nothing", x.match(), 0);
        }
        ShadowRows x = Fields.rows(3);
        x.grant(1, 0, 0, 999);
        x.ask(0, 0, 5, 1);
        x.bid(1, 0, 0, 9, 3);
        x.bid(2, 0, 0, 2, 2);
        Due.is("a buyer with the full right leaves the ask to the next one", x.match(), 2);
        Due.is("who gets it", x.over(2, 0, 0, 0), 2);
        x.grant(1, 0, 0, 997);
        x.ask(0, 0, 1, 0);
        Due.is("2 of 4 in two trades", x.match(), 2);
        Due.is("the cheaper ask first", x.ofRow(1, 3), PURSE - 1);
        Due.is("the other one has 2 left", x.offer(0, 0, 2), 2);
    }

    private static void whoPaysWhom() {
        Doc.terms("Trades", "the right of the buyer over the seller in this hour becomes greater by them, and the buyer's purse less, the seller's greater by the units times the price of the ask.");
        ShadowRows x = Fields.rows(6);
        for (int i = 0; i < 10; i++) {
            x.ask(0, 0, 200, 999);
            x.bid(1 + i % 5, 0, 0, 200, 999);
        }
        Due.is("2000 at the most", x.match(), 2000);
        for (int buyer = 1; buyer < 6; buyer++) {
            Due.is("the right of " + buyer, x.over(buyer, 0, 0, 0), 400);
            Due.is("no other hour", x.over(buyer, 0, 1, 0), 0);
            Due.is("the purse of " + buyer, x.ofRow(buyer, 3), PURSE - 399600);
        }
        Due.is("the seller's purse", x.ofRow(0, 3), PURSE + 1998000);
        Due.is("traded", x.count(4), 2000);
        Due.is("at the price of the ask, not of the bid", purseAfter(3, 999), PURSE - 3);
        Due.is("for nothing", purseAfter(0, 999), PURSE);
        Due.is("for the most", purseAfter(999, 999), PURSE - 999);
    }

    private static int purseAfter(int ask, int bid) {
        ShadowRows x = atPrices(ask, bid);
        x.match();
        return x.ofRow(1, 3);
    }

    private static void goneWithoutUnits() {
        Doc.terms("Trades", "A bid or an ask without units is gone then.");
        ShadowRows all = offers(10, 0);
        for (int i = 1; i <= 10; i++) {
            all.bid(1, 0, 0, i, 5);
        }
        Due.is("all", all.match(), 55);
        Due.is("no ask", all.count(1), 0);
        Due.is("no bid", all.count(2), 0);
        Due.is("there is room for asks again", all.ask(0, 0, 1, 1), 1);
        Due.is("there is room for bids again", all.bid(1, 0, 0, 1, 1), 1);
        for (int gone = 0; gone < 10; gone++) {
            ShadowRows x = Fields.rows(2);
            for (int i = 0; i < 10; i++) {
                x.ask(0, i, i + 1, 5);
                x.bid(1, 0, i, 20, i == gone ? 5 : 4);
            }
            Due.is("one of ten", x.match(), gone + 1);
            Due.is("nine asks", x.count(1), 9);
            Due.is("the bid has units left", x.count(2), 10);
            for (int number = 0; number < 9; number++) {
                int was = number < gone ? number : number + 1;
                offerIs(x, 0, number, 0, was, was + 1, 5, NONE);
            }
            Due.is("fewer than it had", x.offer(1, gone, 2), 19 - gone);
        }
    }

    // ---- Promise 7

    private static void askIsAChange() {
        Doc.promise(7, "A row sells rights over itself. This is a change.");
        Twin.undoes(() -> Fields.rows(5), "ask(4, 9, 200, 999)", x -> x.ask(4, 9, 200, 999));
        Twin.undoes(() -> Fields.rows(1), "ask(0, 0, 1, 0)", x -> x.ask(0, 0, 1, 0));
    }

    private static void askUnits() {
        Doc.promise(7, "`units`: 1 to 200");
        int[] allowed = {1, 2, 199, 200};
        for (int units : allowed) {
            ShadowRows x = Fields.rows(1);
            Due.is(units + " units", x.ask(0, 0, units, 1), 1);
            Due.is("so many", x.offer(0, 0, 2), units);
        }
        for (int units : Fields.outside(1, 200)) {
            Twin.refuses(Fields.busyWith(2), "ask(0, 0, " + units + ", 1)", x -> x.ask(0, 0, units, 1), BAD_VALUE);
        }
    }

    private static void askPrice() {
        Doc.promise(7, "`price`: 0 to 999");
        int[] allowed = {0, 1, 998, 999};
        for (int price : allowed) {
            ShadowRows x = Fields.rows(1);
            Due.is("the price " + price, x.ask(0, 0, 1, price), 1);
            Due.is("so much", x.offer(0, 0, 3), price);
        }
        for (int price : Fields.outside(0, 999)) {
            Twin.refuses(Fields.busyWith(2), "ask(0, 0, 1, " + price + ")", x -> x.ask(0, 0, 1, price), BAD_VALUE);
        }
    }

    private static void askHowMany() {
        Doc.promise(7, "Returns how many asks there are then;");
        ShadowRows x = offers(0, 10);
        for (int asks = 1; asks <= 10; asks++) {
            Due.is("bids do not count", x.ask(0, 0, 1, 1), asks);
        }
        x.takeBack(0, 0);
        Due.is("one less, one more", x.ask(0, 0, 1, 1), 10);
    }

    private static void askNoSuch() {
        Doc.promise(7, "NO_SUCH if there is no such row or hour;");
        for (int row : Fields.outside(0, 1)) {
            Twin.refuses(Fields.busyWith(2), "ask(" + row + ", 0, 1, 1)", x -> x.ask(row, 0, 1, 1), NO_SUCH);
        }
        for (int hour : Fields.outside(0, 9)) {
            Twin.refuses(Fields.busyWith(2), "ask(0, " + hour + ", 1, 1)", x -> x.ask(0, hour, 1, 1), NO_SUCH);
        }
        Due.is("the row 6 of six", Fields.rows(6).ask(6, 0, 1, 1), NO_SUCH);
        Due.is("the row 5 of six, the last hour", Fields.rows(6).ask(5, 9, 1, 1), 1);
        Due.is("no row at all", new ShadowRows().ask(0, 0, 1, 1), NO_SUCH);
    }

    private static void askOutOfRange() {
        Doc.promise(7, "BAD_VALUE if another argument is out of range;");
        int[][] bad = {{0, 0}, {0, -1}, {0, 1000}, {201, 0}, {201, -1}, {201, 1000}, {1, -1}, {1, 1000}, {200, -1}};
        for (int[] a : bad) {
            Twin.refuses(Fields.busyWith(2), "ask(0, 0, " + a[0] + ", " + a[1] + ")", x -> x.ask(0, 0, a[0], a[1]), BAD_VALUE);
        }
    }

    private static void askTooMany() {
        Doc.promise(7, "TOO_MANY if there are 10 asks.");
        Due.is("nine are there", offers(9, 0).ask(0, 0, 1, 1), 10);
        Twin.refuses(offersOf(10, 0), "ask(0, 0, 1, 1)", x -> x.ask(0, 0, 1, 1), TOO_MANY);
        Twin.refuses(offersOf(10, 10), "ask(1, 9, 200, 999)", x -> x.ask(1, 9, 200, 999), TOO_MANY);
        Due.is("ten bids do not matter", offers(0, 10).ask(0, 0, 1, 1), 1);
    }

    private static void askRefusals() {
        Doc.promise(7, "NO_SUCH if there is no such row or hour; BAD_VALUE if another argument is out of range; TOO_MANY if there are 10 asks.");
        int[] rows = {0, -1, 2};
        int[] hours = {0, -1, 10};
        int[] units = {1, 0, 201};
        int[] prices = {0, -1, 1000};
        for (int i = 0; i < 81; i++) {
            int row = rows[i / 27];
            int hour = hours[i / 9 % 3];
            int many = units[i / 3 % 3];
            int price = prices[i % 3];
            int error = i >= 9 ? NO_SUCH : i > 0 ? BAD_VALUE : TOO_MANY;
            String call = "ask(" + row + ", " + hour + ", " + many + ", " + price + ")";
            Twin.refuses(offersOf(10, 1), call + " with ten asks", x -> x.ask(row, hour, many, price), error);
            if (i > 0) {
                Due.is(call + " without asks", Fields.rows(2).ask(row, hour, many, price), error);
            }
        }
    }

    // ---- Promise 8

    private static void bidIsAChange() {
        Doc.promise(8, "A row buys rights over another one. This is a change.");
        Twin.undoes(() -> Fields.rows(5), "bid(4, 0, 9, 200, 999)", x -> x.bid(4, 0, 9, 200, 999));
        Twin.undoes(() -> Fields.rows(2), "bid(0, 1, 0, 1, 0)", x -> x.bid(0, 1, 0, 1, 0));
    }

    private static void bidUnits() {
        Doc.promise(8, "`units`: 1 to 200");
        int[] allowed = {1, 2, 199, 200};
        for (int units : allowed) {
            ShadowRows x = Fields.rows(2);
            Due.is(units + " units", x.bid(0, 1, 0, units, 1), 1);
            Due.is("so many", x.offer(1, 0, 2), units);
        }
        for (int units : Fields.outside(1, 200)) {
            Twin.refuses(Fields.busyWith(2), "bid(0, 1, 0, " + units + ", 1)", x -> x.bid(0, 1, 0, units, 1), BAD_VALUE);
        }
    }

    private static void bidPrice() {
        Doc.promise(8, "`price`: 0 to 999");
        int[] allowed = {0, 1, 998, 999};
        for (int price : allowed) {
            ShadowRows x = Fields.rows(2);
            Due.is("the price " + price, x.bid(0, 1, 0, 1, price), 1);
            Due.is("so much", x.offer(1, 0, 3), price);
        }
        for (int price : Fields.outside(0, 999)) {
            Twin.refuses(Fields.busyWith(2), "bid(0, 1, 0, 1, " + price + ")", x -> x.bid(0, 1, 0, 1, price), BAD_VALUE);
        }
    }

    private static void bidHowMany() {
        Doc.promise(8, "Returns how many bids there are then;");
        ShadowRows x = offers(10, 0);
        for (int bids = 1; bids <= 10; bids++) {
            Due.is("asks do not count", x.bid(0, 1, 0, 1, 1), bids);
        }
        x.takeBack(1, 0);
        Due.is("one less, one more", x.bid(0, 1, 0, 1, 1), 10);
    }

    private static void bidNoSuch() {
        Doc.promise(8, "NO_SUCH if there is no such row or hour;");
        for (int row : Fields.outside(0, 1)) {
            Twin.refuses(Fields.busyWith(2), "bid(" + row + ", 0, 0, 1, 1)", x -> x.bid(row, 0, 0, 1, 1), NO_SUCH);
            Twin.refuses(Fields.busyWith(2), "bid(0, " + row + ", 0, 1, 1)", x -> x.bid(0, row, 0, 1, 1), NO_SUCH);
            Due.is("both no row", Fields.rows(2).bid(row, row, 0, 1, 1), NO_SUCH);
        }
        for (int hour : Fields.outside(0, 9)) {
            Twin.refuses(Fields.busyWith(2), "bid(0, 1, " + hour + ", 1, 1)", x -> x.bid(0, 1, hour, 1, 1), NO_SUCH);
        }
        Due.is("the row 6 of six buys", Fields.rows(6).bid(6, 0, 0, 1, 1), NO_SUCH);
        Due.is("the row 6 of six sells", Fields.rows(6).bid(0, 6, 0, 1, 1), NO_SUCH);
        Due.is("the last rows, the last hour", Fields.rows(6).bid(5, 4, 9, 1, 1), 1);
        Due.is("no row at all", new ShadowRows().bid(0, 1, 0, 1, 1), NO_SUCH);
    }

    private static void bidBadValue() {
        Doc.promise(8, "BAD_VALUE if both rows are the same, or another argument is out of range;");
        for (int row = 0; row < 6; row++) {
            int same = row;
            Twin.refuses(Fields.busyWith(6), "bid(" + row + ", " + row + ", 0, 1, 1)", x -> x.bid(same, same, 0, 1, 1), BAD_VALUE);
        }
        int[][] bad = {{0, 0}, {0, -1}, {0, 1000}, {201, 0}, {201, -1}, {201, 1000}, {1, -1}, {1, 1000}, {200, -1}};
        for (int[] a : bad) {
            Twin.refuses(Fields.busyWith(2), "bid(0, 1, 0, " + a[0] + ", " + a[1] + ")", x -> x.bid(0, 1, 0, a[0], a[1]), BAD_VALUE);
        }
    }

    private static void bidTooMany() {
        Doc.promise(8, "TOO_MANY if there are 10 bids.");
        Due.is("nine are there", offers(0, 9).bid(0, 1, 0, 1, 1), 10);
        Twin.refuses(offersOf(0, 10), "bid(0, 1, 0, 1, 1)", x -> x.bid(0, 1, 0, 1, 1), TOO_MANY);
        Twin.refuses(offersOf(10, 10), "bid(1, 0, 9, 200, 999)", x -> x.bid(1, 0, 9, 200, 999), TOO_MANY);
        Due.is("ten asks do not matter", offers(10, 0).bid(0, 1, 0, 1, 1), 1);
    }

    private static void bidRefusals() {
        Doc.promise(8, "NO_SUCH if there is no such row or hour; BAD_VALUE if both rows are the same, or another argument is out of range; TOO_MANY if there are 10 bids.");
        int[] sellers = {1, 0, -1, 2};
        int[] buyers = {0, -1, 2};
        int[] hours = {0, -1, 10};
        int[][] terms = {{1, 0}, {0, 0}, {201, 0}, {1, -1}, {1, 1000}};
        for (int i = 0; i < 180; i++) {
            int buyer = buyers[i / 60];
            int seller = sellers[i / 15 % 4];
            int hour = hours[i / 5 % 3];
            int[] term = terms[i % 5];
            boolean noSuch = buyer != 0 || seller < 0 || seller > 1 || hour != 0;
            boolean bad = buyer == seller || i % 5 > 0;
            int error = noSuch ? NO_SUCH : bad ? BAD_VALUE : TOO_MANY;
            String call = "bid(" + buyer + ", " + seller + ", " + hour + ", " + term[0] + ", " + term[1] + ")";
            Twin.refuses(offersOf(1, 10), call + " with ten bids", x -> x.bid(buyer, seller, hour, term[0], term[1]), error);
            if (error != TOO_MANY) {
                Due.is(call + " without bids", Fields.rows(2).bid(buyer, seller, hour, term[0], term[1]), error);
            }
        }
    }

    // ---- Promise 9

    private static void takeBackIsAChange() {
        Doc.promise(9, "Takes an ask or a bid back. This is a change.");
        Twin.undoes(TradeBoundaryTest::oneOfEach, "takeBack(0, 0)", x -> x.takeBack(0, 0));
        Twin.undoes(TradeBoundaryTest::oneOfEach, "takeBack(1, 0)", x -> x.takeBack(1, 0));
    }

    private static ShadowRows oneOfEach() {
        return offers(1, 1);
    }

    private static void takeBackKind() {
        Doc.promise(9, "`kind`: 0 an ask, 1 a bid");
        ShadowRows x = offers(2, 2);
        x.takeBack(0, 0);
        Due.is("an ask less", x.count(1), 1);
        Due.is("no bid less", x.count(2), 2);
        x.takeBack(1, 0);
        Due.is("no ask less", x.count(1), 1);
        Due.is("a bid less", x.count(2), 1);
    }

    private static void takeBackNumber() {
        Doc.promise(9, "`number`: its place in their order");
        for (int number = 0; number < 10; number++) {
            ShadowRows x = offers(10, 10);
            x.takeBack(0, number);
            x.takeBack(1, number);
            for (int left = 0; left < 9; left++) {
                int units = left < number ? left + 1 : left + 2;
                offerIs(x, 0, left, 0, 0, units, 5, NONE);
                offerIs(x, 1, left, 0, 0, units, 4, 1);
            }
            Due.is("no ask 9", x.offer(0, 9, 0), NO_SUCH);
            Due.is("no bid 9", x.offer(1, 9, 0), NO_SUCH);
        }
    }

    private static void takeBackHowMany() {
        Doc.promise(9, "Returns how many of this kind there are then;");
        ShadowRows x = offers(10, 5);
        for (int left = 9; left >= 0; left--) {
            Due.is("asks", x.takeBack(0, left % 2 == 0 ? 0 : left), left);
        }
        for (int left = 4; left >= 0; left--) {
            Due.is("bids", x.takeBack(1, left), left);
        }
        Due.is("no ask any more", x.takeBack(0, 0), NO_SUCH);
        Due.is("no bid any more", x.takeBack(1, 0), NO_SUCH);
    }

    private static void takeBackBadKind() {
        Doc.promise(9, "BAD_VALUE if kind is neither 0 nor 1;");
        for (int kind : Fields.outside(0, 1)) {
            Twin.refuses(Fields.busyWith(2), "takeBack(" + kind + ", 0)", x -> x.takeBack(kind, 0), BAD_VALUE);
        }
    }

    private static void takeBackNoSuch() {
        Doc.promise(9, "NO_SUCH if there is no such one.");
        for (int number : Fields.outside(0, 1)) {
            Twin.refuses(Fields.busyWith(2), "takeBack(0, " + number + ")", x -> x.takeBack(0, number), NO_SUCH);
            Twin.refuses(Fields.busyWith(2), "takeBack(1, " + number + ")", x -> x.takeBack(1, number), NO_SUCH);
        }
        Twin.refuses(offersOf(10, 10), "takeBack(0, 10)", x -> x.takeBack(0, 10), NO_SUCH);
        Twin.refuses(offersOf(10, 10), "takeBack(1, 10)", x -> x.takeBack(1, 10), NO_SUCH);
        Twin.refuses(offersOf(0, 1), "takeBack(0, 0) with a bid alone", x -> x.takeBack(0, 0), NO_SUCH);
        Twin.refuses(offersOf(1, 0), "takeBack(1, 0) with an ask alone", x -> x.takeBack(1, 0), NO_SUCH);
    }

    private static void takeBackRefusals() {
        Doc.promise(9, "BAD_VALUE if kind is neither 0 nor 1; NO_SUCH if there is no such one.");
        int[] kinds = {-1, 2};
        for (int kind : kinds) {
            for (int number : Fields.outside(0, 1)) {
                Twin.refuses(Fields.busyWith(2), "takeBack(" + kind + ", " + number + ")", x -> x.takeBack(kind, number), BAD_VALUE);
            }
        }
    }

    // ---- Promise 10

    private static void matchIsAChange() {
        Doc.promise(10, "Matches. This is a change.");
        Twin.undoes(ShadowRows::new, "match() without rows", ShadowRows::match);
        Twin.undoes(offersOf(2, 1), "match() that trades nothing", ShadowRows::match);
        Twin.undoes(TradeBoundaryTest::twoThatMeet, "match() that trades", ShadowRows::match);
    }

    private static ShadowRows twoThatMeet() {
        ShadowRows x = Fields.rows(2);
        x.ask(1, 4, 20, 3);
        x.bid(0, 1, 4, 30, 4);
        return x;
    }

    private static void matchHowMany() {
        Doc.promise(10, "Returns how many units are traded.");
        Due.is("nothing is there", new ShadowRows().match(), 0);
        Due.is("asks alone", offers(10, 0).match(), 0);
        Due.is("bids alone", offers(0, 10).match(), 0);
        Due.is("bids for less", offers(10, 10).match(), 0);
        ShadowRows x = twoThatMeet();
        Due.is("20", x.match(), 20);
        Due.is("again, those of this call alone", x.match(), 0);
        x.ask(1, 4, 1, 4);
        Due.is("1 more", x.match(), 1);
        Due.is("21 so far", x.count(4), 21);
        ShadowRows y = offers(2, 2);
        y.ask(0, 0, 5, 3);
        y.bid(1, 0, 0, 4, 9);
        Due.is("the last ask with the last bid, and its last unit with the first bid", y.match(), 5);
        y.bid(1, 0, 0, 200, 9);
        Due.is("then the other two asks", y.match(), 3);
        Due.is("no ask is left", y.count(1), 0);
        y.ask(0, 0, 1, 0);
        Due.is("then one for the bid that was made last", y.match(), 1);
        Due.is("which still has most of its units", y.offer(1, 1, 2), 196);
    }
}
