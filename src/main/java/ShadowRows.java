/**
 * Rows of panels that stand behind one another and sell their shadow rights.
 *
 * All that a call needs is made in the constructor and used again, so that no call makes an object.
 */
public final class ShadowRows {
    public static final int NO_SUCH = -1, BAD_VALUE = -2, BAD_TEXT = -3, TOO_MANY = -4, NOT_POSSIBLE = -5, NONE = -6;

    private static final int MAX_ROWS = 6;
    private static final int MAX_PLACE = 200;
    private static final int MAX_LENGTH = 20;
    private static final int MAX_TILT = 4;
    private static final int HOURS = 10;
    private static final int MAX_WIND = 9;
    private static final int FIRST_STOW = 7;
    private static final int MAX_STOW = 10;
    private static final int MAX_RIGHT = 999;
    private static final int MAX_OFFERS = 10;
    private static final int MAX_UNITS = 200;
    private static final int MAX_PRICE = 999;
    private static final int MAX_PAD = 80;
    private static final int MAX_HISTORY = 6;
    private static final int SLOTS = 2;

    /** What is added to numbers that can be below 0, so that no answer looks like an error. */
    private static final int PURSE_SHIFT = 1000000000, WORTH_SHIFT = 1000000;

    /** The kinds of offers, and what there is to know of one, as takeBack() and offer() number them. */
    private static final int ASK = 0, BID = 1;
    private static final int SELLER = 0, HOUR = 1, UNITS = 2, PRICE = 3, BUYER = 4, OFFER_SIZE = 5;

    private static final int TILTS_TOGETHER = 9;
    private static final int FIRST_WIND = 10;

    private final Field field = new Field();
    private final Light light = new Light(field);
    private final Market market = new Market(field);
    private final TiltSearch search = new TiltSearch(field, light);
    private final Pad pad = new Pad();
    private final OrderReader reader = new OrderReader(pad);
    private final History history = new History();
    private final Field[] slots = {new Field(), new Field()};
    private final boolean[] saved = new boolean[SLOTS];

    public ShadowRows() {
    }

    // ---- the field

    public int row(int place, int length, int tilt) {
        history.mark(field);
        return history.keep(field.build(place, length, tilt));
    }

    public int tilt(int row, int tilt) {
        history.mark(field);
        return history.keep(field.changeTilt(row, tilt));
    }

    public int wind(int hour, int wind) {
        history.mark(field);
        return history.keep(field.changeWind(hour, wind));
    }

    public int stow(int stow) {
        history.mark(field);
        return history.keep(field.changeStow(stow));
    }

    public int grant(int row, int over, int hour, int right) {
        history.mark(field);
        return history.keep(field.changeRight(row, over, hour, right));
    }

    // ---- trades

    public int ask(int seller, int hour, int units, int price) {
        history.mark(field);
        return history.keep(market.addAsk(seller, hour, units, price));
    }

    public int bid(int buyer, int seller, int hour, int units, int price) {
        history.mark(field);
        return history.keep(market.addBid(buyer, seller, hour, units, price));
    }

    public int takeBack(int kind, int number) {
        if (outside(kind, ASK, BID)) {
            return BAD_VALUE;
        }
        history.mark(field);
        return history.keep(field.offersOf(kind).remove(number));
    }

    public int match() {
        history.mark(field);
        return history.keep(market.tradeAll());
    }

    // ---- what there is

    public int ofRow(int row, int what) {
        if (!field.hasRow(row)) {
            return NO_SUCH;
        }
        switch (what) {
            case 0: return field.place[row];
            case 1: return field.length[row];
            case 2: return field.tilt[row];
            case 3: return field.purse[row] + PURSE_SHIFT;
            case 4: return light.yieldOfDay(row);
            case 5: return light.unshadedYieldOfDay(row);
            case 6: return light.hoursLowered(row);
            case 7: return light.hoursShaded(row);
            case 8: return light.mostToBlame(row);
            default: return BAD_VALUE;
        }
    }

    public int inHour(int row, int hour, int what) {
        if (!field.hasRow(row) || !isHour(hour)) {
            return NO_SUCH;
        }
        light.look(hour);
        switch (what) {
            case 0: return light.tiltOf(row);
            case 1: return light.heights[row];
            case 2: return light.shade(row);
            case 3: return light.toBlame(row);
            case 4: return light.yieldNow(row);
            default: return BAD_VALUE;
        }
    }

    public int over(int row, int other, int hour, int what) {
        if (!field.hasRow(row) || !field.hasRow(other) || !isHour(hour)) {
            return NO_SUCH;
        }
        if (row == other) {
            return BAD_VALUE;
        }
        light.look(hour);
        switch (what) {
            case 0: return field.right[Field.rightAt(row, other, hour)];
            case 1: return light.shadow(row, other, light.heights[row]);
            case 2: return light.shadow(row, other, field.length[row] * field.tilt[row]);
            default: return BAD_VALUE;
        }
    }

    public int offer(int kind, int number, int what) {
        if (outside(kind, ASK, BID) || outside(what, SELLER, BUYER)) {
            return BAD_VALUE;
        }
        Offers offers = field.offersOf(kind);
        if (!offers.has(number)) {
            return NO_SUCH;
        }
        return offers.get(number, what);
    }

    public int count(int what) {
        switch (what) {
            case 0: return field.rows;
            case 1: return field.asks.size;
            case 2: return field.bids.size;
            case 3: return light.yieldOfAll();
            case 4: return field.traded;
            case 5: return field.stow;
            case 6: return pad.length;
            case 7: return history.size;
            default: break;
        }
        if (outside(what, FIRST_WIND, FIRST_WIND + HOURS - 1)) {
            return BAD_VALUE;
        }
        return field.wind[what - FIRST_WIND];
    }

    // ---- what if; nothing changes

    public int worth(int row, int over, int hour, int right, int what) {
        int error = field.rightError(row, over, hour, right);
        if (error != 0) {
            return error;
        }
        if (outside(what, 0, 2)) {
            return BAD_VALUE;
        }
        int before = gainMeasure(row, over, what);
        int previous = field.changeRight(row, over, hour, right);
        int after = gainMeasure(row, over, what);
        field.changeRight(row, over, hour, previous);
        return after - before + WORTH_SHIFT;
    }

    /** What grows by as much as worth() tells: its loss is told for the row that is shaded. */
    private int gainMeasure(int row, int over, int what) {
        switch (what) {
            case 0: return light.yieldOfDay(row);
            case 1: return -light.yieldOfDay(over);
            default: return light.yieldOfAll();
        }
    }

    public int bestTilt(int row, int what) {
        if (!field.hasRow(row)) {
            return NO_SUCH;
        }
        if (outside(what, 0, 1)) {
            return BAD_VALUE;
        }
        int own = field.tilt[row];
        int best = 0;
        int most = -1;
        for (int tilt = 0; tilt <= MAX_TILT; tilt++) {
            field.tilt[row] = tilt;
            int together = light.yieldOfAll();
            if (together > most) {
                most = together;
                best = tilt;
            }
        }
        field.tilt[row] = own;
        return what == 0 ? best : most;
    }

    public int bestTilts(int what) {
        if (what != TILTS_TOGETHER && !field.hasRow(what)) {
            return BAD_VALUE;
        }
        search.run();
        return what == TILTS_TOGETHER ? search.bestYields() : search.bestTiltOf(what);
    }

    // ---- texts

    public int put(long characters) {
        return pad.append(characters);
    }

    public int wipe() {
        return pad.clear();
    }

    public int fault() {
        return reader.findFault();
    }

    public int carryOut() {
        if (reader.findFault() != NONE) {
            return BAD_TEXT;
        }
        history.mark(field);
        int done = carryOrdersOut();
        pad.clear();
        return history.keep(done);
    }

    private int carryOrdersOut() {
        int done = 0;
        reader.start();
        for (int orders = 0; orders <= MAX_PAD; orders++) {
            if (!reader.readOrder() || carryOneOut() < 0) {
                return done;
            }
            done++;
            if (!reader.readSign(';')) {
                return done;
            }
        }
        return done;
    }

    /** Carries out the order that was read last; it records nothing, as the whole text is one change. */
    private int carryOneOut() {
        int[] n = reader.numbers;
        switch (reader.kind) {
            case 't': return field.changeTilt(n[0], n[1]);
            case 'w': return field.changeWind(n[0], n[1]);
            case 'a': return market.addAsk(n[0], n[1], n[2], n[3]);
            case 'b': return market.addBid(n[0], n[1], n[2], n[3], n[4]);
            default: return market.tradeAll();
        }
    }

    // ---- undo, saving

    public int undo() {
        return history.goBack(field);
    }

    public int save(int slot) {
        if (outside(slot, 0, SLOTS - 1)) {
            return BAD_VALUE;
        }
        slots[slot].copyFrom(field);
        saved[slot] = true;
        return field.rows;
    }

    public int restore(int slot) {
        if (outside(slot, 0, SLOTS - 1)) {
            return BAD_VALUE;
        }
        if (!saved[slot]) {
            return NOT_POSSIBLE;
        }
        history.mark(field);
        field.copyFrom(slots[slot]);
        return history.keep(field.rows);
    }

    private static boolean outside(int value, int least, int most) {
        return value < least || value > most;
    }

    private static boolean isHour(int hour) {
        return !outside(hour, 0, HOURS - 1);
    }

    /** All that is undone, saved and restored. */
    private static final class Field {
        private int rows = 0;
        private final int[] place = new int[MAX_ROWS];
        private final int[] length = new int[MAX_ROWS];
        private final int[] tilt = new int[MAX_ROWS];
        private final int[] purse = new int[MAX_ROWS];
        private final int[] wind = new int[HOURS];
        private int stow = FIRST_STOW;
        private final int[] right = new int[MAX_ROWS * MAX_ROWS * HOURS];
        private final Offers asks = new Offers();
        private final Offers bids = new Offers();
        private int traded = 0;

        void copyFrom(Field other) {
            rows = other.rows;
            System.arraycopy(other.place, 0, place, 0, MAX_ROWS);
            System.arraycopy(other.length, 0, length, 0, MAX_ROWS);
            System.arraycopy(other.tilt, 0, tilt, 0, MAX_ROWS);
            System.arraycopy(other.purse, 0, purse, 0, MAX_ROWS);
            System.arraycopy(other.wind, 0, wind, 0, HOURS);
            stow = other.stow;
            System.arraycopy(other.right, 0, right, 0, MAX_ROWS * MAX_ROWS * HOURS);
            asks.copyFrom(other.asks);
            bids.copyFrom(other.bids);
            traded = other.traded;
        }

        boolean hasRow(int row) {
            return !outside(row, 0, rows - 1);
        }

        /** Where in the rights the one of a row over another one in an hour stands. */
        static int rightAt(int row, int over, int hour) {
            return (row * MAX_ROWS + over) * HOURS + hour;
        }

        Offers offersOf(int kind) {
            return kind == ASK ? asks : bids;
        }

        int build(int newPlace, int newLength, int newTilt) {
            if (outside(newPlace, 0, MAX_PLACE) || outside(newLength, 1, MAX_LENGTH) || outside(newTilt, 0, MAX_TILT)) {
                return BAD_VALUE;
            }
            if (rows >= MAX_ROWS) {
                return TOO_MANY;
            }
            if (isTaken(newPlace)) {
                return NOT_POSSIBLE;
            }
            int row = rows;
            place[row] = newPlace;
            length[row] = newLength;
            tilt[row] = newTilt;
            rows++;
            return row;
        }

        private boolean isTaken(int wanted) {
            for (int row = 0; row < rows; row++) {
                if (place[row] == wanted) {
                    return true;
                }
            }
            return false;
        }

        int changeTilt(int row, int newTilt) {
            if (!hasRow(row)) {
                return NO_SUCH;
            }
            if (outside(newTilt, 0, MAX_TILT)) {
                return BAD_VALUE;
            }
            int previous = tilt[row];
            tilt[row] = newTilt;
            return previous;
        }

        int changeWind(int hour, int newWind) {
            if (!isHour(hour)) {
                return NO_SUCH;
            }
            if (outside(newWind, 0, MAX_WIND)) {
                return BAD_VALUE;
            }
            int previous = wind[hour];
            wind[hour] = newWind;
            return previous;
        }

        int changeStow(int newStow) {
            if (outside(newStow, 1, MAX_STOW)) {
                return BAD_VALUE;
            }
            int previous = stow;
            stow = newStow;
            return previous;
        }

        /** Why a right cannot be set, 0 if it can. */
        int rightError(int row, int over, int hour, int newRight) {
            if (!hasRow(row) || !hasRow(over) || !isHour(hour)) {
                return NO_SUCH;
            }
            return row == over || outside(newRight, 0, MAX_RIGHT) ? BAD_VALUE : 0;
        }

        int changeRight(int row, int over, int hour, int newRight) {
            int error = rightError(row, over, hour, newRight);
            if (error != 0) {
                return error;
            }
            int at = rightAt(row, over, hour);
            int previous = right[at];
            right[at] = newRight;
            return previous;
        }
    }

    /** The asks or the bids, in the order in which they were made. */
    private static final class Offers {
        private int size = 0;
        private final int[] values = new int[MAX_OFFERS * OFFER_SIZE];

        /** Their numbers by their prices, after sortByPrice(); no part of what is saved. */
        private final int[] sorted = new int[MAX_OFFERS];

        void copyFrom(Offers other) {
            size = other.size;
            System.arraycopy(other.values, 0, values, 0, MAX_OFFERS * OFFER_SIZE);
        }

        boolean has(int number) {
            return !outside(number, 0, size - 1);
        }

        int get(int number, int what) {
            return values[number * OFFER_SIZE + what];
        }

        int add(int seller, int hour, int units, int price, int buyer) {
            if (size >= MAX_OFFERS) {
                return TOO_MANY;
            }
            int at = size * OFFER_SIZE;
            values[at + SELLER] = seller;
            values[at + HOUR] = hour;
            values[at + UNITS] = units;
            values[at + PRICE] = price;
            values[at + BUYER] = buyer;
            size++;
            return size;
        }

        int remove(int number) {
            if (!has(number)) {
                return NO_SUCH;
            }
            close(number);
            return size;
        }

        /** The offers behind it move up by one place. */
        private void close(int number) {
            int next = (number + 1) * OFFER_SIZE;
            System.arraycopy(values, next, values, next - OFFER_SIZE, size * OFFER_SIZE - next);
            size--;
        }

        void take(int number, int units) {
            values[number * OFFER_SIZE + UNITS] -= units;
        }

        void removeEmpty() {
            for (int number = size - 1; number >= 0; number--) {
                if (get(number, UNITS) == 0) {
                    close(number);
                }
            }
        }

        /** The sign is 1 for the lowest price first, -1 for the highest one first. */
        void sortByPrice(int sign) {
            for (int number = 0; number < size; number++) {
                int price = sign * get(number, PRICE);
                int at = number;
                while (at > 0 && sign * get(sorted[at - 1], PRICE) > price) {
                    sorted[at] = sorted[at - 1];
                    at--;
                }
                sorted[at] = number;
            }
        }
    }

    /** Takes asks and bids of a field, and trades them. */
    private static final class Market {
        private final Field field;

        Market(Field field) {
            this.field = field;
        }

        int addAsk(int seller, int hour, int units, int price) {
            if (!field.hasRow(seller) || !isHour(hour)) {
                return NO_SUCH;
            }
            if (isBadOffer(units, price)) {
                return BAD_VALUE;
            }
            return field.asks.add(seller, hour, units, price, NONE);
        }

        int addBid(int buyer, int seller, int hour, int units, int price) {
            if (!field.hasRow(buyer) || !field.hasRow(seller) || !isHour(hour)) {
                return NO_SUCH;
            }
            if (buyer == seller || isBadOffer(units, price)) {
                return BAD_VALUE;
            }
            return field.bids.add(seller, hour, units, price, buyer);
        }

        private static boolean isBadOffer(int units, int price) {
            return outside(units, 1, MAX_UNITS) || outside(price, 0, MAX_PRICE);
        }

        /** Returns how many units were traded. */
        int tradeAll() {
            Offers bids = field.bids;
            bids.sortByPrice(-1);
            field.asks.sortByPrice(1);
            int units = 0;
            for (int i = 0; i < bids.size; i++) {
                units += serve(bids.sorted[i]);
            }
            bids.removeEmpty();
            field.asks.removeEmpty();
            field.traded += units;
            return units;
        }

        private int serve(int bid) {
            int units = 0;
            for (int i = 0; i < field.asks.size; i++) {
                int ask = field.asks.sorted[i];
                if (suits(bid, ask)) {
                    units += trade(bid, ask);
                }
            }
            return units;
        }

        private boolean suits(int bid, int ask) {
            Offers asks = field.asks;
            Offers bids = field.bids;
            return asks.get(ask, SELLER) == bids.get(bid, SELLER)
                    && asks.get(ask, HOUR) == bids.get(bid, HOUR)
                    && asks.get(ask, PRICE) <= bids.get(bid, PRICE);
        }

        private int trade(int bid, int ask) {
            int buyer = field.bids.get(bid, BUYER);
            int seller = field.asks.get(ask, SELLER);
            int at = Field.rightAt(buyer, seller, field.asks.get(ask, HOUR));
            int both = Math.min(field.bids.get(bid, UNITS), field.asks.get(ask, UNITS));
            int units = Math.min(both, MAX_RIGHT - field.right[at]);
            int paid = units * field.asks.get(ask, PRICE);
            field.right[at] += units;
            field.purse[buyer] -= paid;
            field.purse[seller] += paid;
            field.bids.take(bid, units);
            field.asks.take(ask, units);
            return units;
        }
    }

    /** A field in the light of one hour: look() at the hour comes before all that is asked of it. */
    private static final class Light {
        private static final int[] SLOPE = {6, 4, 3, 2, 1, 1, 2, 3, 4, 6};
        private static final int[] SUN = {1, 2, 3, 4, 5, 5, 4, 3, 2, 1};

        /** What a shadow loses where it does not fall: more than any row is high. */
        private static final int ALL_LOST = 1000;

        private final Field field;
        private int hour = 0;

        /** How much lower than its row the shadow of a row comes up at the place of another one. */
        private final int[] losses = new int[MAX_ROWS * MAX_ROWS];

        /** The greatest tilts that the wind and the rights allow, whatever the tilts of the rows are. */
        private final int[] limits = new int[MAX_ROWS];
        private final int[] heights = new int[MAX_ROWS];
        private final int[] hoursToBlame = new int[MAX_ROWS];

        Light(Field field) {
            this.field = field;
        }

        void look(int newHour) {
            hour = newHour;
            for (int row = 0; row < field.rows; row++) {
                for (int to = 0; to < field.rows; to++) {
                    losses[row * MAX_ROWS + to] = lossBetween(row, to);
                }
                limits[row] = limitOf(row);
                heights[row] = field.length[row] * tiltOf(row);
            }
        }

        boolean isFlat() {
            return field.wind[hour] >= field.stow;
        }

        int sun() {
            return SUN[hour];
        }

        /** How far a row lies from another one towards where the shadow of this falls; below 0 on the other side. */
        int ahead(int from, int to) {
            int distance = field.place[to] - field.place[from];
            return hour < HOURS / 2 ? distance : -distance;
        }

        private int lossBetween(int from, int to) {
            int distance = ahead(from, to);
            int slope = SLOPE[hour];
            return distance > 0 ? (2 * distance + slope - 1) / slope : ALL_LOST;
        }

        private int limitOf(int row) {
            if (isFlat()) {
                return 0;
            }
            int allowed = ALL_LOST;
            for (int other = 0; other < field.rows; other++) {
                if (other != row) {
                    int right = field.right[Field.rightAt(row, other, hour)];
                    allowed = Math.min(allowed, right + losses[row * MAX_ROWS + other]);
                }
            }
            int tilt = MAX_TILT;
            while (tilt > 0 && field.length[row] * tilt > allowed) {
                tilt--;
            }
            return tilt;
        }

        int tiltOf(int row) {
            return Math.min(field.tilt[row], limits[row]);
        }

        /** How high the shadow of a row comes up at the place of another one if the row has this height. */
        int shadow(int from, int to, int height) {
            return Math.max(0, height - losses[from * MAX_ROWS + to]);
        }

        int toBlame(int row) {
            int toBlame = NONE;
            int highest = 0;
            int nearest = 0;
            for (int other = 0; other < field.rows; other++) {
                int height = other == row ? 0 : shadow(other, row, heights[other]);
                int distance = ahead(other, row);
                if (height > highest || toBlame != NONE && height == highest && distance < nearest) {
                    toBlame = other;
                    highest = height;
                    nearest = distance;
                }
            }
            return toBlame;
        }

        int shade(int row) {
            int by = toBlame(row);
            return by == NONE ? 0 : Math.min(heights[row], shadow(by, row, heights[by]));
        }

        int unshadedYield(int row) {
            return heights[row] * sun() + field.length[row];
        }

        int yieldNow(int row) {
            return unshadedYield(row) - shade(row) * sun();
        }

        int yieldOfDay(int row) {
            int sum = 0;
            for (int h = 0; h < HOURS; h++) {
                look(h);
                sum += yieldNow(row);
            }
            return sum;
        }

        int unshadedYieldOfDay(int row) {
            int sum = 0;
            for (int h = 0; h < HOURS; h++) {
                look(h);
                sum += unshadedYield(row);
            }
            return sum;
        }

        int yieldOfAll() {
            int sum = 0;
            for (int h = 0; h < HOURS; h++) {
                look(h);
                for (int row = 0; row < field.rows; row++) {
                    sum += yieldNow(row);
                }
            }
            return sum;
        }

        int hoursLowered(int row) {
            int hours = 0;
            for (int h = 0; h < HOURS; h++) {
                look(h);
                if (!isFlat() && limits[row] < field.tilt[row]) {
                    hours++;
                }
            }
            return hours;
        }

        int hoursShaded(int row) {
            int hours = 0;
            for (int h = 0; h < HOURS; h++) {
                look(h);
                if (shade(row) > 0) {
                    hours++;
                }
            }
            return hours;
        }

        int mostToBlame(int row) {
            for (int other = 0; other < MAX_ROWS; other++) {
                hoursToBlame[other] = 0;
            }
            for (int h = 0; h < HOURS; h++) {
                look(h);
                int by = toBlame(row);
                if (by != NONE) {
                    hoursToBlame[by]++;
                }
            }
            int most = 0;
            for (int other = 1; other < MAX_ROWS; other++) {
                if (hoursToBlame[other] > hoursToBlame[most]) {
                    most = other;
                }
            }
            return hoursToBlame[most] == 0 ? NONE : most;
        }
    }

    /**
     * Tries the tilts of all rows together. Within an hour the shadows fall one way, so that the rows in that order
     * can be laid one after the other, and those already laid tell the shade of the next. The order turns at noon:
     * therefore what the hours yield is summed up in a table, with a place for each set of tilts.
     */
    private static final class TiltSearch {
        /** Of the number of tilts that there are: how many sets of tilts so many rows have. */
        private static final int[] POWERS = {1, 5, 25, 125, 625, 3125, 15625};

        private final Field field;
        private final Light light;

        /** What the heights yield. The tilt of the row 0 counts the most in the index, so that the least come first. */
        private final int[] sums = new int[15625];
        private int best = 0;

        /** The greatest tilt that each row can have in any hour: a greater one would change nothing. */
        private final int[] tops = new int[MAX_ROWS];

        /** The rows as the shadows fall in an hour. */
        private final int[] order = new int[MAX_ROWS];
        private final int[] heights = new int[MAX_ROWS];

        TiltSearch(Field field, Light light) {
            this.field = field;
            this.light = light;
        }

        void run() {
            int size = POWERS[field.rows];
            for (int i = 0; i < size; i++) {
                sums[i] = 0;
            }
            findTops();
            for (int hour = 0; hour < HOURS; hour++) {
                light.look(hour);
                if (!light.isFlat()) {
                    sortRows();
                    layRows(this, 0, 0, 0);
                }
            }
            best = 0;
            for (int i = 1; i < size; i++) {
                if (sums[i] > sums[best]) {
                    best = i;
                }
            }
        }

        int bestTiltOf(int row) {
            return best / stepOf(row) % (MAX_TILT + 1);
        }

        /** Every row yields its length in every hour, with any tilts. */
        int bestYields() {
            int sum = sums[best];
            for (int row = 0; row < field.rows; row++) {
                sum += HOURS * field.length[row];
            }
            return sum;
        }

        /** How far apart in the table two sets are that differ by one in the tilt of this row. */
        private int stepOf(int row) {
            return POWERS[field.rows - 1 - row];
        }

        private void findTops() {
            for (int row = 0; row < MAX_ROWS; row++) {
                tops[row] = 0;
            }
            for (int hour = 0; hour < HOURS; hour++) {
                light.look(hour);
                for (int row = 0; row < field.rows; row++) {
                    tops[row] = Math.max(tops[row], light.limits[row]);
                }
            }
        }

        private void sortRows() {
            for (int row = 0; row < field.rows; row++) {
                int at = row;
                while (at > 0 && light.ahead(row, order[at - 1]) > 0) {
                    order[at] = order[at - 1];
                    at--;
                }
                order[at] = row;
            }
        }

        /** Lays the rows that are left in the order, in all their tilts; the sum is what those before them yield. */
        private static void layRows(TiltSearch search, int laid, int index, int sum) {
            if (laid >= search.field.rows) {
                search.sums[index] += sum;
                return;
            }
            int row = search.order[laid];
            int shade = search.shadeOn(row, laid);
            int step = search.stepOf(row);
            int limit = search.light.limits[row];
            int length = search.field.length[row];
            int sun = search.light.sun();
            for (int tilt = 0; tilt <= search.tops[row]; tilt++) {
                int height = length * Math.min(tilt, limit);
                int gain = Math.max(0, height - shade) * sun;
                search.heights[row] = height;
                layRows(search, laid + 1, index + tilt * step, sum + gain);
            }
        }

        private int shadeOn(int row, int laid) {
            int highest = 0;
            for (int i = 0; i < laid; i++) {
                int from = order[i];
                highest = Math.max(highest, light.shadow(from, row, heights[from]));
            }
            return highest;
        }
    }

    /** The text of orders. */
    private static final class Pad {
        private final char[] signs = new char[MAX_PAD];
        private int length = 0;

        int append(long characters) {
            int added = countSigns(characters);
            if (added == 0) {
                return BAD_VALUE;
            }
            if (length + added > MAX_PAD) {
                return TOO_MANY;
            }
            long rest = characters;
            for (int at = length + added - 1; at >= length; at--) {
                signs[at] = (char) (rest & 255);
                rest >>>= 8;
            }
            length += added;
            return length;
        }

        /** Returns 0, too, if something else than characters is in the number. */
        private static int countSigns(long characters) {
            long rest = characters;
            int found = 0;
            while (rest != 0 && found < 8) {
                long code = rest & 255;
                if (code < 33 || code > 126) {
                    return 0;
                }
                found++;
                rest >>>= 8;
            }
            return found;
        }

        int clear() {
            int had = length;
            length = 0;
            return had;
        }
    }

    /** Reads the pad from left to right. What cannot be read is not passed, so that the fault is where it stops. */
    private static final class OrderReader {
        private static final String KINDS = "twabm";
        private static final int MOST_NUMBERS = 5;

        private final Pad pad;
        private int at = 0;

        /** The order that was read last; its numbers stand as the call that it stands for takes them. */
        private char kind = 'm';
        private final int[] numbers = new int[MOST_NUMBERS];
        private int found = 0;

        OrderReader(Pad pad) {
            this.pad = pad;
        }

        void start() {
            at = 0;
        }

        int findFault() {
            start();
            for (int orders = 0; orders <= MAX_PAD; orders++) {
                if (!readOrder()) {
                    return at;
                }
                if (at >= pad.length) {
                    return NONE;
                }
                if (!readSign(';')) {
                    return at;
                }
            }
            return at;
        }

        boolean readOrder() {
            found = 0;
            if (at >= pad.length || KINDS.indexOf(pad.signs[at]) < 0) {
                return false;
            }
            kind = pad.signs[at];
            at++;
            switch (kind) {
                case 't': return readDigit(MAX_ROWS - 1) && readSign('=') && readDigit(MAX_TILT);
                case 'w': return readDigit(HOURS - 1) && readSign('=') && readDigit(MAX_WIND);
                case 'a': return readDigit(MAX_ROWS - 1) && readTerms();
                case 'b': return readDigit(MAX_ROWS - 1) && readSign('>') && readDigit(MAX_ROWS - 1) && readTerms();
                default: return true;
            }
        }

        private boolean readTerms() {
            return readSign('@') && readDigit(HOURS - 1) && readSign('*') && readNumber() && readSign(':') && readNumber();
        }

        boolean readSign(char sign) {
            if (at >= pad.length || pad.signs[at] != sign) {
                return false;
            }
            at++;
            return true;
        }

        private boolean readDigit(int most) {
            int digit = digitHere();
            if (digit < 0 || digit > most) {
                return false;
            }
            at++;
            keepNumber(digit);
            return true;
        }

        /** A digit too many stays unread, and is the fault, as nothing that can follow a number is a digit. */
        private boolean readNumber() {
            int number = digitHere();
            if (number < 0) {
                return false;
            }
            at++;
            for (int digits = 1; digits < 3 && number > 0 && digitHere() >= 0; digits++) {
                number = number * 10 + digitHere();
                at++;
            }
            keepNumber(number);
            return true;
        }

        private int digitHere() {
            if (at >= pad.length || pad.signs[at] < '0' || pad.signs[at] > '9') {
                return NONE;
            }
            return pad.signs[at] - '0';
        }

        private void keepNumber(int number) {
            if (found < MOST_NUMBERS) {
                numbers[found] = number;
                found++;
            }
        }
    }

    /** The states before the latest changes. */
    private static final class History {
        private int size = 0;

        /** One more than are kept: the last one is there for the state before a change that may still fail. */
        private final Field[] states = new Field[MAX_HISTORY + 1];

        History() {
            for (int i = 0; i <= MAX_HISTORY; i++) {
                states[i] = new Field();
            }
        }

        /** Notes the state before a change. */
        void mark(Field field) {
            states[size].copyFrom(field);
        }

        /** Records the noted state if the change did not answer an error; returns the answer. */
        int keep(int answer) {
            if (answer >= 0 && size < MAX_HISTORY) {
                size++;
            } else if (answer >= 0) {
                dropOldest();
            }
            return answer;
        }

        private void dropOldest() {
            Field oldest = states[0];
            for (int i = 0; i < MAX_HISTORY; i++) {
                states[i] = states[i + 1];
            }
            states[MAX_HISTORY] = oldest;
        }

        int goBack(Field field) {
            if (size == 0) {
                return NOT_POSSIBLE;
            }
            size--;
            field.copyFrom(states[size]);
            return size;
        }
    }
}
