import java.util.ArrayDeque;
import java.util.ArrayList;
import java.util.Deque;
import java.util.List;
import java.util.regex.Matcher;
import java.util.regex.Pattern;

/** Does what the document says, sentence by sentence and in the slowest way: it shares no code with the program. */
final class PlainModel {
    static final int NO_SUCH = -1, BAD_VALUE = -2, BAD_TEXT = -3, TOO_MANY = -4, NOT_POSSIBLE = -5, NONE = -6;
    private static final int[] SLOPE = {6, 4, 3, 2, 1, 1, 2, 3, 4, 6};
    private static final int[] SUN = {1, 2, 3, 4, 5, 5, 4, 3, 2, 1};
    private static final String NUMBER = "(0|[1-9][0-9]?[0-9]?)";
    private static final String TERMS = "@[0-9]\\*" + NUMBER + ":" + NUMBER;
    private static final String ORDER = "(t[0-5]=[0-4]|w[0-9]=[0-9]|a[0-5]" + TERMS + "|b[0-5]>[0-5]" + TERMS + "|m)";
    private static final Pattern TEXT = Pattern.compile(ORDER + "(;" + ORDER + ")*");

    private static final class Panel {
        int place;
        int length;
        int tilt;
        long purse;

        Panel copy() {
            Panel copy = new Panel();
            copy.place = place;
            copy.length = length;
            copy.tilt = tilt;
            copy.purse = purse;
            return copy;
        }
    }

    private static final class Offer {
        int seller;
        int hour;
        int units;
        int price;
        int buyer;

        Offer copy() {
            Offer copy = new Offer();
            copy.seller = seller;
            copy.hour = hour;
            copy.units = units;
            copy.price = price;
            copy.buyer = buyer;
            return copy;
        }
    }

    private static final class State {
        List<Panel> rows = new ArrayList<>();
        int[] wind = new int[10];
        int stow = 7;
        int[][][] rights = new int[6][6][10];
        List<Offer> asks = new ArrayList<>();
        List<Offer> bids = new ArrayList<>();
        int traded;

        State copy() {
            State copy = new State();
            for (Panel row : rows) {
                copy.rows.add(row.copy());
            }
            copy.wind = wind.clone();
            copy.stow = stow;
            for (int row = 0; row < 6; row++) {
                for (int over = 0; over < 6; over++) {
                    copy.rights[row][over] = rights[row][over].clone();
                }
            }
            for (Offer ask : asks) {
                copy.asks.add(ask.copy());
            }
            for (Offer bid : bids) {
                copy.bids.add(bid.copy());
            }
            copy.traded = traded;
            return copy;
        }
    }

    private State now = new State();
    private String pad = "";
    private final Deque<State> history = new ArrayDeque<>();
    private final State[] slots = new State[2];
    private boolean inText;
    private int[] bestSet;

    private static boolean in(long value, long least, long most) {
        return least <= value && value <= most;
    }

    private boolean isRow(int row) {
        return in(row, 0, now.rows.size() - 1);
    }

    private void change() {
        bestSet = null;
        if (inText) {
            return;
        }
        history.addLast(now.copy());
        if (history.size() > 6) {
            history.removeFirst();
        }
    }

    int row(int place, int length, int tilt) {
        if (!in(place, 0, 200) || !in(length, 1, 20) || !in(tilt, 0, 4)) {
            return BAD_VALUE;
        }
        if (now.rows.size() == 6) {
            return TOO_MANY;
        }
        for (Panel row : now.rows) {
            if (row.place == place) {
                return NOT_POSSIBLE;
            }
        }
        change();
        Panel row = new Panel();
        row.place = place;
        row.length = length;
        row.tilt = tilt;
        now.rows.add(row);
        return now.rows.indexOf(row);
    }

    int tilt(int row, int tilt) {
        if (!isRow(row)) {
            return NO_SUCH;
        }
        if (!in(tilt, 0, 4)) {
            return BAD_VALUE;
        }
        change();
        int was = now.rows.get(row).tilt;
        now.rows.get(row).tilt = tilt;
        return was;
    }

    int wind(int hour, int wind) {
        if (!in(hour, 0, 9)) {
            return NO_SUCH;
        }
        if (!in(wind, 0, 9)) {
            return BAD_VALUE;
        }
        change();
        int was = now.wind[hour];
        now.wind[hour] = wind;
        return was;
    }

    int stow(int stow) {
        if (!in(stow, 1, 10)) {
            return BAD_VALUE;
        }
        change();
        int was = now.stow;
        now.stow = stow;
        return was;
    }

    private int right(int row, int over, int hour) {
        return now.rights[row][over][hour];
    }

    int grant(int row, int over, int hour, int right) {
        if (!isRow(row) || !isRow(over) || !in(hour, 0, 9)) {
            return NO_SUCH;
        }
        if (row == over || !in(right, 0, 999)) {
            return BAD_VALUE;
        }
        change();
        int was = right(row, over, hour);
        now.rights[row][over][hour] = right;
        return was;
    }

    int ask(int seller, int hour, int units, int price) {
        if (!isRow(seller) || !in(hour, 0, 9)) {
            return NO_SUCH;
        }
        if (!in(units, 1, 200) || !in(price, 0, 999)) {
            return BAD_VALUE;
        }
        return offered(now.asks.size(), NONE, seller, hour, units, price);
    }

    int bid(int buyer, int seller, int hour, int units, int price) {
        if (!isRow(buyer) || !isRow(seller) || !in(hour, 0, 9)) {
            return NO_SUCH;
        }
        if (buyer == seller || !in(units, 1, 200) || !in(price, 0, 999)) {
            return BAD_VALUE;
        }
        return offered(now.bids.size(), buyer, seller, hour, units, price);
    }

    private int offered(int there, int buyer, int seller, int hour, int units, int price) {
        if (there >= 10) {
            return TOO_MANY;
        }
        change();
        Offer offer = new Offer();
        offer.buyer = buyer;
        offer.seller = seller;
        offer.hour = hour;
        offer.units = units;
        offer.price = price;
        List<Offer> all = buyer == NONE ? now.asks : now.bids;
        all.add(offer);
        return all.size();
    }

    int takeBack(int kind, int number) {
        if (kind != 0 && kind != 1) {
            return BAD_VALUE;
        }
        List<Offer> before = kind == 0 ? now.asks : now.bids;
        if (!in(number, 0, before.size() - 1)) {
            return NO_SUCH;
        }
        change();
        before.remove(number);
        return before.size();
    }

    int match() {
        change();
        List<Offer> bids = new ArrayList<>(now.bids);
        bids.sort((a, b) -> b.price - a.price);
        List<Offer> asks = new ArrayList<>(now.asks);
        asks.sort((a, b) -> a.price - b.price);
        int units = 0;
        for (Offer bid : bids) {
            for (Offer ask : asks) {
                if (ask.seller == bid.seller && ask.hour == bid.hour && ask.price <= bid.price) {
                    units += trade(bid, ask);
                }
            }
        }
        now.bids.removeIf(bid -> bid.units == 0);
        now.asks.removeIf(ask -> ask.units == 0);
        now.traded += units;
        return units;
    }

    private int trade(Offer bid, Offer ask) {
        int traded = 0;
        while (bid.units > 0 && ask.units > 0 && right(bid.buyer, bid.seller, bid.hour) < 999) {
            now.rights[bid.buyer][bid.seller][bid.hour]++;
            now.rows.get(bid.buyer).purse -= ask.price;
            now.rows.get(ask.seller).purse += ask.price;
            bid.units--;
            ask.units--;
            traded++;
        }
        return traded;
    }

    /** How high the shadow of a row with this height comes up at the place of the other one. */
    private int comesUp(int height, int from, int to, int hour) {
        int distance = now.rows.get(to).place - now.rows.get(from).place;
        if (hour >= 5) {
            distance = -distance;
        }
        if (distance <= 0) {
            return 0;
        }
        return Math.max(0, height - (int) Math.ceil(2.0 * distance / SLOPE[hour]));
    }

    private boolean flat(int hour) {
        return now.wind[hour] >= now.stow;
    }

    private int tiltIn(int row, int hour) {
        if (flat(hour)) {
            return 0;
        }
        Panel panel = now.rows.get(row);
        int found = 0;
        for (int tilt = 0; tilt <= panel.tilt; tilt++) {
            boolean keeps = true;
            for (int other = 0; other < now.rows.size(); other++) {
                keeps &= other == row || comesUp(panel.length * tilt, row, other, hour) <= right(row, other, hour);
            }
            if (keeps) {
                found = tilt;
            }
        }
        return found;
    }

    private int height(int row, int hour) {
        return now.rows.get(row).length * tiltIn(row, hour);
    }

    private int highestOn(int row, int hour) {
        int highest = 0;
        for (int other = 0; other < now.rows.size(); other++) {
            if (other != row) {
                highest = Math.max(highest, comesUp(height(other, hour), other, row, hour));
            }
        }
        return highest;
    }

    private int shade(int row, int hour) {
        return Math.min(height(row, hour), highestOn(row, hour));
    }

    private int blame(int row, int hour) {
        int highest = highestOn(row, hour);
        if (highest == 0) {
            return NONE;
        }
        for (int distance = 1; distance <= 200; distance++) {
            for (int other = 0; other < now.rows.size(); other++) {
                boolean there = Math.abs(now.rows.get(other).place - now.rows.get(row).place) == distance;
                if (there && comesUp(height(other, hour), other, row, hour) == highest) {
                    return other;
                }
            }
        }
        throw new IllegalStateException("nobody casts the highest shadow");
    }

    private int yieldIn(int row, int hour) {
        return (height(row, hour) - shade(row, hour)) * SUN[hour] + now.rows.get(row).length;
    }

    private int yieldOf(int row) {
        int sum = 0;
        for (int hour = 0; hour < 10; hour++) {
            sum += yieldIn(row, hour);
        }
        return sum;
    }

    private int together() {
        int sum = 0;
        for (int row = 0; row < now.rows.size(); row++) {
            sum += yieldOf(row);
        }
        return sum;
    }

    int ofRow(int row, int what) {
        if (!isRow(row)) {
            return NO_SUCH;
        }
        if (!in(what, 0, 8)) {
            return BAD_VALUE;
        }
        Panel panel = now.rows.get(row);
        int unshaded = 0;
        int lower = 0;
        int shaded = 0;
        int[] blamed = new int[6];
        for (int hour = 0; hour < 10; hour++) {
            unshaded += height(row, hour) * SUN[hour] + panel.length;
            lower += !flat(hour) && tiltIn(row, hour) < panel.tilt ? 1 : 0;
            shaded += shade(row, hour) > 0 ? 1 : 0;
            if (blame(row, hour) != NONE) {
                blamed[blame(row, hour)]++;
            }
        }
        int most = NONE;
        for (int other = 5; other >= 0; other--) {
            if (blamed[other] > 0 && (most == NONE || blamed[other] >= blamed[most])) {
                most = other;
            }
        }
        int[] answers = {panel.place, panel.length, panel.tilt, (int) (panel.purse + 1000000000), yieldOf(row), unshaded, lower, shaded, most};
        return answers[what];
    }

    int inHour(int row, int hour, int what) {
        if (!isRow(row) || !in(hour, 0, 9)) {
            return NO_SUCH;
        }
        if (!in(what, 0, 4)) {
            return BAD_VALUE;
        }
        return new int[] {tiltIn(row, hour), height(row, hour), shade(row, hour), blame(row, hour), yieldIn(row, hour)}[what];
    }

    int over(int row, int other, int hour, int what) {
        if (!isRow(row) || !isRow(other) || !in(hour, 0, 9)) {
            return NO_SUCH;
        }
        if (row == other || !in(what, 0, 2)) {
            return BAD_VALUE;
        }
        if (what == 0) {
            return right(row, other, hour);
        }
        int tilt = what == 1 ? tiltIn(row, hour) : now.rows.get(row).tilt;
        return comesUp(now.rows.get(row).length * tilt, row, other, hour);
    }

    int offer(int kind, int number, int what) {
        if (!in(kind, 0, 1) || !in(what, 0, 4)) {
            return BAD_VALUE;
        }
        List<Offer> all = kind == 0 ? now.asks : now.bids;
        if (!in(number, 0, all.size() - 1)) {
            return NO_SUCH;
        }
        Offer offer = all.get(number);
        return new int[] {offer.seller, offer.hour, offer.units, offer.price, offer.buyer}[what];
    }

    int count(int what) {
        if (in(what, 10, 19)) {
            return now.wind[what - 10];
        }
        if (!in(what, 0, 7)) {
            return BAD_VALUE;
        }
        int[] answers = {now.rows.size(), now.asks.size(), now.bids.size(), together(), now.traded, now.stow, pad.length(), history.size()};
        return answers[what];
    }

    int worth(int row, int over, int hour, int right, int what) {
        if (!isRow(row) || !isRow(over) || !in(hour, 0, 9)) {
            return NO_SUCH;
        }
        if (row == over || !in(right, 0, 999) || !in(what, 0, 2)) {
            return BAD_VALUE;
        }
        State before = now;
        int[] old = {yieldOf(row), yieldOf(over), together()};
        now = before.copy();
        now.rights[row][over][hour] = right;
        int[] then = {yieldOf(row), yieldOf(over), together()};
        now = before;
        return 1000000 + (what == 1 ? old[1] - then[1] : then[what] - old[what]);
    }

    int bestTilt(int row, int what) {
        if (!isRow(row)) {
            return NO_SUCH;
        }
        if (!in(what, 0, 1)) {
            return BAD_VALUE;
        }
        State before = now;
        now = before.copy();
        int best = 4;
        int most = -1;
        for (int tilt = 4; tilt >= 0; tilt--) {
            now.rows.get(row).tilt = tilt;
            if (together() >= most) {
                most = together();
                best = tilt;
            }
        }
        now = before;
        return what == 0 ? best : most;
    }

    int bestTilts(int what) {
        if (what != 9 && !isRow(what)) {
            return BAD_VALUE;
        }
        if (bestSet == null) {
            findBestSet();
        }
        return bestSet[what];
    }

    private void findBestSet() {
        State before = now;
        now = before.copy();
        bestSet = new int[10];
        bestSet[9] = -1;
        tryFrom(0);
        now = before;
    }

    private void tryFrom(int row) {
        if (row == now.rows.size()) {
            int sum = together();
            if (sum > bestSet[9]) {
                bestSet[9] = sum;
                for (int i = 0; i < row; i++) {
                    bestSet[i] = now.rows.get(i).tilt;
                }
            }
            return;
        }
        for (int tilt = 0; tilt < 5; tilt++) {
            now.rows.get(row).tilt = tilt;
            tryFrom(row + 1);
        }
    }

    int put(long characters) {
        StringBuilder text = new StringBuilder();
        boolean ended = false;
        for (int i = 0; i < 8; i++) {
            int code = (int) (characters >> 8 * i & 255);
            if (code == 0) {
                ended = true;
            } else if (ended || !in(code, 33, 126)) {
                return BAD_VALUE;
            } else {
                text.insert(0, (char) code);
            }
        }
        if (text.length() == 0) {
            return BAD_VALUE;
        }
        if (pad.length() + text.length() > 80) {
            return TOO_MANY;
        }
        pad += text;
        return pad.length();
    }

    int wipe() {
        int had = pad.length();
        pad = "";
        return had;
    }

    /** Whether a text can begin like this. */
    private static boolean canBegin(String text) {
        Matcher matcher = TEXT.matcher(text);
        return matcher.matches() || matcher.hitEnd();
    }

    int fault() {
        for (int i = 0; i < pad.length(); i++) {
            if (!canBegin(pad.substring(0, i + 1))) {
                return i;
            }
        }
        return TEXT.matcher(pad).matches() ? NONE : pad.length();
    }

    int carryOut() {
        if (fault() != NONE) {
            return BAD_TEXT;
        }
        change();
        inText = true;
        int done = 0;
        for (String order : pad.split(";")) {
            if (carryOut(order) < 0) {
                break;
            }
            done++;
        }
        inText = false;
        pad = "";
        return done;
    }

    private int carryOut(String order) {
        String[] parts = order.substring(1).split("[=@*:>]");
        int[] n = new int[5];
        for (int i = 0; i < parts.length && !parts[i].isEmpty(); i++) {
            n[i] = Integer.parseInt(parts[i]);
        }
        switch (order.charAt(0)) {
            case 't': return tilt(n[0], n[1]);
            case 'w': return wind(n[0], n[1]);
            case 'a': return ask(n[0], n[1], n[2], n[3]);
            case 'b': return bid(n[0], n[1], n[2], n[3], n[4]);
            default: return match();
        }
    }

    int undo() {
        if (history.isEmpty()) {
            return NOT_POSSIBLE;
        }
        bestSet = null;
        now = history.removeLast();
        return history.size();
    }

    int save(int slot) {
        if (!in(slot, 0, 1)) {
            return BAD_VALUE;
        }
        slots[slot] = now.copy();
        return now.rows.size();
    }

    int restore(int slot) {
        if (!in(slot, 0, 1)) {
            return BAD_VALUE;
        }
        if (slots[slot] == null) {
            return NOT_POSSIBLE;
        }
        change();
        now = slots[slot].copy();
        return now.rows.size();
    }
}
