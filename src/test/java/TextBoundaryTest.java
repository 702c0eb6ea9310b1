import java.util.function.ToIntFunction;
import java.util.regex.Pattern;

/** The boundary cases in the terms on texts, and in the promises 19 to 22: put, wipe, fault, carryOut. */
public final class TextBoundaryTest {
    private static final int BAD_VALUE = -2, BAD_TEXT = -3, TOO_MANY = -4, NONE = -6;
    private static final String DIGITS = "0123456789";
    private static final String NUMBER = "(0|[1-9][0-9]{0,2})";
    private static final String ORDER = "(t[0-5]=[0-4]|w[0-9]=[0-9]|(a|b[0-5]>)[0-5]@[0-9]\\*" + NUMBER + ":" + NUMBER + "|m)";
    private static final Pattern COMPLETE = Pattern.compile(ORDER + "(;" + ORDER + ")*");

    /** How a text begins, and what can stand next; ";" can if it may end there, too. */
    private static final String[][] BEGINNINGS = {
        {"", "twabm"}, {"m", ";"}, {"m;", "twabm"}, {"m;m", ";"}, {"t0=4;", "twabm"}, {"w9=9;m;", "twabm"},
        {"t", "012345"}, {"t0", "="}, {"t5", "="}, {"t0=", "01234"}, {"t0=0", ";"}, {"t5=4", ";"},
        {"w", DIGITS}, {"w0", "="}, {"w9", "="}, {"w0=", DIGITS}, {"w0=0", ";"}, {"w9=9", ";"},
        {"a", "012345"}, {"a0", "@"}, {"a5", "@"}, {"a0@", DIGITS}, {"a0@0", "*"}, {"a0@9", "*"}, {"a0@9*", DIGITS},
        {"a0@9*0", ":"}, {"a0@9*1", DIGITS + ":"}, {"a0@9*9", DIGITS + ":"}, {"a0@9*10", DIGITS + ":"},
        {"a0@9*99", DIGITS + ":"}, {"a0@9*100", ":"}, {"a0@9*999", ":"}, {"a0@9*0:", DIGITS}, {"a0@9*999:", DIGITS},
        {"a0@9*1:0", ";"}, {"a0@9*1:1", DIGITS + ";"}, {"a0@9*1:9", DIGITS + ";"}, {"a0@9*1:10", DIGITS + ";"},
        {"a0@9*1:99", DIGITS + ";"}, {"a0@9*1:100", ";"}, {"a0@9*1:999", ";"}, {"a0@9*1:1;", "twabm"},
        {"b", "012345"}, {"b0", ">"}, {"b5", ">"}, {"b0>", "012345"}, {"b5>0", "@"}, {"b0>5", "@"}, {"b0>1@", DIGITS},
        {"b0>1@0", "*"}, {"b0>1@9", "*"}, {"b0>1@9*", DIGITS}, {"b0>1@9*0", ":"}, {"b0>1@9*9", DIGITS + ":"},
        {"b0>1@9*99", DIGITS + ":"}, {"b0>1@9*999", ":"}, {"b0>1@9*999:", DIGITS}, {"b0>1@9*1:0", ";"},
        {"b0>1@9*1:9", DIGITS + ";"}, {"b0>1@9*1:99", DIGITS + ";"}, {"b0>1@9*1:999", ";"}, {"b0>1@9*1:1;", "twabm"}
    };

    public static void main(String[] args) {
        atMost80();
        ordersInARow();
        orders();
        whatOrdersDo();
        digitsAndNumbers();
        whatCanStandNext();
        firstThatCannotStand();
        endsTooEarly();

        putAppends();
        putAsNumbers();
        putHowMany();
        putAllCodes();
        putBadValue();
        putLength();
        putTooMany();
        putRefusals();

        wipe();
        fault();

        carryOutUpToAnError();
        carryOutEmptiesThePad();
        carryOutIsOneChange();
        carryOutHowMany();
        carryOutBadText();
        textsChangeNothing();
        Due.end();
    }

    private static ShadowRows padOf(String text) {
        ShadowRows x = new ShadowRows();
        Text.append(x, text);
        return x;
    }

    private static void faultIs(String text, int fault) {
        Due.is("the fault of \"" + text + "\"", padOf(text).fault(), fault);
    }

    // ---- Texts

    private static void atMost80() {
        Doc.terms("Texts", "The pad is a text of at most 80 characters, a row of orders:");
        ShadowRows x = padOf("m;".repeat(39) + "m");
        Due.is("79 characters", x.count(6), 79);
        Due.is("the eightieth", x.put(';'), 80);
        Due.is("one more", x.put('m'), TOO_MANY);
        ShadowRows y = padOf("w9=9" + ";m".repeat(38));
        Due.is("80 characters", y.count(6), 80);
        Due.is("without a fault", y.fault(), NONE);
        Due.is("39 orders", y.carryOut(), 39);
    }

    private static void ordersInARow() {
        Doc.terms("Texts", "text = order { \";\" order }");
        faultIs("", 0);
        faultIs("m", NONE);
        faultIs("m;", 2);
        faultIs(";m", 0);
        faultIs(";", 0);
        faultIs("m;m", NONE);
        faultIs("m;;m", 2);
        faultIs("mm", 1);
        faultIs("m,m", 1);
        for (int orders = 1; orders <= 40; orders++) {
            faultIs("m" + ";m".repeat(orders - 1), NONE);
            faultIs("m;".repeat(orders), 2 * orders);
        }
        faultIs("t0=0;t1=1;t2=2;t3=3;t4=4;t5=0;w0=0;w1=1;w2=2;w3=3;w4=4;w5=5;w6=6;w7=7;w8=8;w9=9", NONE);
    }

    private static void orders() {
        Doc.terms("Texts", "order = \"t\" row \"=\" tilt | \"w\" hour \"=\" wind | \"a\" row \"@\" hour \"*\" number \":\" number | \"b\" row \">\" row \"@\" hour \"*\" number \":\" number | \"m\"");
        String[] complete = {"t0=0", "t5=4", "w0=0", "w9=9", "a0@0*0:0", "a5@9*999:999", "b0>0@0*0:0", "b5>5@9*999:999", "m"};
        for (String order : complete) {
            faultIs(order, NONE);
            for (int length = 0; length < order.length(); length++) {
                if (!COMPLETE.matcher(order.substring(0, length)).matches()) {
                    faultIs(order.substring(0, length), length);
                    faultIs("m;" + order.substring(0, length), length + 2);
                }
                faultIs(order.substring(0, length) + "!" + order.substring(length), length);
                faultIs(order.substring(0, length) + "!" + order.substring(length + 1), length);
            }
            faultIs(order + "!", order.length());
        }
    }

    private static void whatOrdersDo() {
        Doc.terms("Texts", "\"t\": tilt(); \"w\": wind(); \"a\": ask() of units for a price; \"b\": bid() of a row to a row, of units for a price; \"m\": match().");
        doesAs("t0=4", x -> x.tilt(0, 4));
        doesAs("t5=0", x -> x.tilt(5, 0));
        doesAs("w0=9", x -> x.wind(0, 9));
        doesAs("w9=0", x -> x.wind(9, 0));
        doesAs("a0@9*200:999", x -> x.ask(0, 9, 200, 999));
        doesAs("a5@0*1:0", x -> x.ask(5, 0, 1, 0));
        doesAs("a3@4*10:100", x -> x.ask(3, 4, 10, 100));
        doesAs("b0>5@9*200:999", x -> x.bid(0, 5, 9, 200, 999));
        doesAs("b5>0@0*1:0", x -> x.bid(5, 0, 0, 1, 0));
        doesAs("b1>2@3*45:67", x -> x.bid(1, 2, 3, 45, 67));
        doesAs("m", ShadowRows::match);
    }

    /** A text of one order is one change, as the call is. */
    private static void doesAs(String text, ToIntFunction<ShadowRows> call) {
        Twin.alike(() -> {
            ShadowRows x = Fields.busy(6);
            Text.write(x, text);
            Due.is("carryOut() of " + text, x.carryOut(), 1);
            return x;
        }, () -> {
            ShadowRows x = Fields.busy(6);
            x.wipe();
            Due.isTrue(text + " is no error", call.applyAsInt(x) >= 0);
            return x;
        }, "carryOut() of " + text);
    }

    private static void digitsAndNumbers() {
        Doc.terms("Texts", "A row is a digit from 0 to 5, a tilt one from 0 to 4, an hour and a wind are a digit, a number is 0 to 999, without leading zeros.");
        for (char c = '/'; c <= ':'; c++) {
            boolean digit = c >= '0' && c <= '9';
            faultIs("t" + c + "=0", c >= '0' && c <= '5' ? NONE : 1);
            faultIs("t0=" + c, c >= '0' && c <= '4' ? NONE : 3);
            faultIs("w" + c + "=0", digit ? NONE : 1);
            faultIs("w0=" + c, digit ? NONE : 3);
            faultIs("a" + c + "@0*1:1", c >= '0' && c <= '5' ? NONE : 1);
            faultIs("a0@" + c + "*1:1", digit ? NONE : 3);
            faultIs("b" + c + ">0@0*1:1", c >= '0' && c <= '5' ? NONE : 1);
            faultIs("b0>" + c + "@0*1:1", c >= '0' && c <= '5' ? NONE : 3);
            faultIs("b0>1@" + c + "*1:1", digit ? NONE : 5);
        }
        for (int number = 0; number <= 1010; number++) {
            boolean small = number <= 999;
            faultIs("a0@0*" + number + ":1", small ? NONE : 8);
            faultIs("a0@0*1:" + number, small ? NONE : 10);
            faultIs("b0>1@0*" + number + ":1", small ? NONE : 10);
            faultIs("b0>1@0*1:" + number, small ? NONE : 12);
        }
        faultIs("a0@0*00:1", 6);
        faultIs("a0@0*01:1", 6);
        faultIs("a0@0*000:1", 6);
        faultIs("a0@0*1:00", 8);
        faultIs("a0@0*1:09", 8);
        faultIs("b0>1@0*00:1", 8);
        faultIs("b0>1@0*1:007", 10);
    }

    /** Each sign that put() takes behind each beginning. */
    private static void whatCanStandNext() {
        Doc.terms("Texts", "The fault is the index of the first character that cannot stand at its place when the text is read from left to right");
        for (String[] beginning : BEGINNINGS) {
            String text = beginning[0];
            Due.isTrue("\"" + text + "\" may end there", beginning[1].contains(";") == COMPLETE.matcher(text).matches());
            faultIs(text, beginning[1].contains(";") ? NONE : text.length());
            for (char sign = 33; sign <= 126; sign++) {
                String longer = text + sign;
                boolean stands = beginning[1].indexOf(sign) >= 0;
                faultIs(longer, !stands ? text.length() : COMPLETE.matcher(longer).matches() ? NONE : longer.length());
            }
        }
    }

    private static void firstThatCannotStand() {
        Doc.terms("Texts", "(also of a digit by which a number would be above 999)");
        faultIs("a0@0*1000:1", 8);
        faultIs("a0@0*9990:1", 8);
        faultIs("a0@0*9999:1", 8);
        faultIs("a0@0*1:1000", 10);
        faultIs("a0@0*1:99999", 10);
        faultIs("b0>1@0*1000:1", 10);
        faultIs("b0>1@0*1:1000", 12);
        Doc.terms("Texts", "of the first character that cannot stand at its place");
        faultIs("!!!!", 0);
        faultIs("m!;m;t9", 1);
        faultIs("t6=5;w:=:", 1);
        faultIs("t0=5;m;;", 3);
        faultIs("m;".repeat(39) + "m!", 79);
        faultIs("!" + "m".repeat(79), 0);
    }

    private static void endsTooEarly() {
        Doc.terms("Texts", "if there is none and the text ends too early (also if it is empty), it is the length of the text.");
        Due.is("a new pad", new ShadowRows().fault(), 0);
        ShadowRows x = padOf("m");
        x.wipe();
        Due.is("a wiped pad", x.fault(), 0);
        String[] early = {"t", "t0", "t0=", "w9=", "a0@0*", "a0@0*0", "a0@0*999", "a0@0*1:", "b", "b0>1@0*1:", "m;", "t0=4;"};
        for (String text : early) {
            faultIs(text, text.length());
        }
        faultIs("m;".repeat(40), 80);
        faultIs("m;".repeat(38) + "w0=", 79);
        faultIs("w0=1;" + "m;".repeat(37) + "t", 80);
    }

    // ---- Promise 19

    private static void putAppends() {
        Doc.promise(19, "Appends characters to the pad.");
        ShadowRows x = new ShadowRows();
        String text = "t0=1;a0@0*10:5";
        for (int i = 0; i < text.length(); i++) {
            Due.is("one more behind the others", x.put(text.charAt(i)), i + 1);
            boolean complete = COMPLETE.matcher(text.substring(0, i + 1)).matches();
            Due.is("in their order", x.fault(), complete ? NONE : i + 1);
        }
        ShadowRows y = padOf("!");
        y.put(Text.number("m;m"));
        Due.is("nothing before them is gone", y.fault(), 0);
    }

    private static void putAsNumbers() {
        Doc.promise(19, "They are given as a number: its lowest 8 bits are the last character, the next 8 bits the one before, and so on;");
        String text = "w1=2;m;m";
        for (int length = 1; length <= 8; length++) {
            for (int at = 0; at < length; at++) {
                StringBuilder part = new StringBuilder(text.substring(0, length));
                part.setCharAt(at, '!');
                ShadowRows x = new ShadowRows();
                Due.is("put of " + part, x.put(Text.number(part.toString())), length);
                Due.is("the fault of " + part, x.fault(), at);
            }
        }
        ShadowRows x = new ShadowRows();
        Due.is("w3=4", x.put(0x77333d34L), 4);
        Due.is("it is an order", x.carryOut(), 1);
        Due.is("its wind", x.count(13), 4);
    }

    private static void putHowMany() {
        Doc.promise(19, "`characters`: 1 to 8 characters");
        for (int length = 1; length <= 8; length++) {
            Due.is("as many of the least code", new ShadowRows().put(Text.number("!".repeat(length))), length);
            Due.is("as many of the greatest code", new ShadowRows().put(Text.number("~".repeat(length))), length);
        }
        Due.is("none", new ShadowRows().put(0), BAD_VALUE);
    }

    /** Each code in each place of 1 to 8 characters; a 0 in the first place means that there is one less. */
    private static void putAllCodes() {
        Doc.promise(19, "8 bits that are 0 mean that there are no more characters, and everything above them has to be 0, too.");
        for (int length = 1; length <= 8; length++) {
            for (int at = 0; at < length; at++) {
                for (long code = 0; code <= 255; code++) {
                    long number = Text.number("m".repeat(length)) & ~(255L << 8 * at) | code << 8 * at;
                    boolean shorter = code == 0 && at == length - 1 && length > 1;
                    int due = code >= 33 && code <= 126 ? length : shorter ? length - 1 : BAD_VALUE;
                    Due.is("put(0x" + Long.toHexString(number) + ")", new ShadowRows().put(number), due);
                }
            }
        }
        for (int zero = 0; zero < 8; zero++) {
            for (int bit = 8 * zero + 8; bit < 64; bit++) {
                long number = zero == 0 ? 1L << bit : Text.number("m".repeat(zero)) | 1L << bit;
                Due.is("put(0x" + Long.toHexString(number) + ")", new ShadowRows().put(number), BAD_VALUE);
            }
        }
    }

    private static void putBadValue() {
        Doc.promise(19, "BAD_VALUE if there is no character, a code is not 33 to 126, or a bit above 8 bits that are 0 is not 0;");
        long[] bad = {
            0, 1, 32, 127, 128, 255, 256, -1L, Long.MIN_VALUE, Long.MAX_VALUE, Long.MIN_VALUE + 'm', 0x6d00L, 0x6d006dL,
            0x0100006dL, 0x0100000000000000L, 0x010000000000006dL, 0x6d006d6d6d6d6d6dL, 0x6d6d6d6d6d6d6d00L,
            0x206d6d6d6d6d6d6dL, 0x7f6d6d6d6d6d6d6dL, 0x806d6d6d6d6d6d6dL, 0xff6d6d6d6d6d6d6dL, 0x6d6d6d6d6d6d6d20L,
            0x6d6d6d6d6d6d6d7fL, Integer.MIN_VALUE, Integer.MAX_VALUE
        };
        for (long number : bad) {
            Twin.refuses(Fields.busyWith(2), "put(0x" + Long.toHexString(number) + ")", x -> x.put(number), BAD_VALUE);
        }
        Due.is("the least code", new ShadowRows().put(33), 1);
        Due.is("the greatest code", new ShadowRows().put(126), 1);
    }

    private static void putLength() {
        Doc.promise(19, "Returns the length of the pad then;");
        ShadowRows x = new ShadowRows();
        for (int length = 8; length <= 80; length += 8) {
            Due.is("eight more", x.put(Text.number("12345678")), length);
        }
        x.wipe();
        for (int length = 1; length <= 80; length++) {
            Due.is("one more", x.put('x'), length);
        }
    }

    private static void putTooMany() {
        Doc.promise(19, "TOO_MANY if the pad would be longer than 80.");
        for (int length = 73; length <= 80; length++) {
            String text = "m;".repeat(40).substring(0, length);
            for (int more = 1; more <= 8; more++) {
                long number = Text.number("m".repeat(more));
                String call = "put of " + more + " behind " + length;
                if (length + more <= 80) {
                    Due.is(call, padOf(text).put(number), length + more);
                } else {
                    Twin.refuses(() -> padOf(text), call, x -> x.put(number), TOO_MANY);
                }
            }
        }
    }

    private static void putRefusals() {
        Doc.promise(19, "Returns the length of the pad then; BAD_VALUE if there is no character, a code is not 33 to 126, or a bit above 8 bits that are 0 is not 0; TOO_MANY if the pad would be longer than 80.");
        String full = "m;".repeat(39) + "mm";
        long[] bad = {0, 32, 127, 0x6d00L, 0x6d006dL, -1L, Long.MIN_VALUE, Long.MAX_VALUE};
        for (long number : bad) {
            Twin.refuses(() -> padOf(full), "put(0x" + Long.toHexString(number) + ") on a full pad", x -> x.put(number), BAD_VALUE);
        }
        Twin.refuses(() -> padOf(full), "put('m') on a full pad", x -> x.put('m'), TOO_MANY);
    }

    // ---- Promise 20

    private static void wipe() {
        Doc.promise(20, "Empties the pad, and returns the length that it had.");
        Due.is("an empty pad", new ShadowRows().wipe(), 0);
        Due.is("one character", padOf("!").wipe(), 1);
        Due.is("a full pad", padOf("~".repeat(80)).wipe(), 80);
        ShadowRows x = padOf("m;".repeat(40));
        x.wipe();
        Due.is("it had none any more", x.wipe(), 0);
        Due.is("no character", x.count(6), 0);
        Due.is("an empty text ends too early", x.fault(), 0);
        Due.is("there is room for 80 again", x.put(Text.number("t0=4")), 4);
        Due.is("nothing of the old text", x.fault(), NONE);
        Twin.alike(() -> {
            ShadowRows y = Fields.busy(3);
            y.wipe();
            Text.append(y, "t0=1;m;w0=3");
            return y;
        }, Fields.busyWith(3), "wipe() and the same text again: no change");
    }

    // ---- Promise 21

    private static void fault() {
        Doc.promise(21, "Returns the fault of the pad, NONE if there is none.");
        faultIs("", 0);
        faultIs("x", 0);
        faultIs("m", NONE);
        faultIs("mx", 1);
        ShadowRows x = padOf("m;".repeat(39) + "m");
        Due.is("79 characters without a fault", x.fault(), NONE);
        x.put('x');
        Due.is("at the last of 80", x.fault(), 79);
        faultIs("m;".repeat(40), 80);
        Due.is("the pad stays", x.count(6), 80);
    }

    // ---- Promise 22

    private static void carryOutUpToAnError() {
        Doc.promise(22, "Carries the orders of the pad out, one after the other, up to the first one that returns an error,");
        String[] errors = {
            "t2=0", "a2@0*1:1", "a5@0*1:1", "b2>0@0*1:1", "b0>2@0*1:1", "a0@0*0:1", "a0@0*201:1", "a0@0*999:999",
            "b0>1@0*0:1", "b0>1@0*201:1", "b0>0@0*1:1", "b5>5@0*1:1"
        };
        for (String error : errors) {
            for (int before = 0; before <= 3; before++) {
                ShadowRows x = Fields.rows(2);
                StringBuilder text = new StringBuilder();
                for (int hour = 0; hour < before; hour++) {
                    text.append('w').append(hour).append("=5;");
                }
                Text.append(x, text.append(error).append(";w9=5;m").toString());
                Due.is("up to " + error, x.carryOut(), before);
                for (int hour = 0; hour < 10; hour++) {
                    Due.is("the wind of the hour " + hour, x.count(10 + hour), hour < before ? 5 : 0);
                }
            }
            ShadowRows last = Fields.rows(2);
            Text.append(last, "w0=1;" + error);
            Due.is("up to " + error + ", the last one", last.carryOut(), 1);
        }
        tenthAndEleventh("a0@0*1:1", 0);
        tenthAndEleventh("b0>1@0*1:1", 1);
    }

    private static void tenthAndEleventh(String order, int kind) {
        ShadowRows x = Fields.rows(2);
        for (int i = 0; i < 9; i++) {
            if (kind == 0) {
                x.ask(0, 1, 5, 5);
            } else {
                x.bid(0, 1, 1, 5, 5);
            }
        }
        Text.append(x, order + ";" + order + ";t0=4");
        Due.is("up to the eleventh " + order, x.carryOut(), 1);
        Due.is("there are ten", x.count(1 + kind), 10);
        Due.is("the tilt stays", x.ofRow(0, 2), 2);
        Text.append(x, order);
        Due.is("TOO_MANY at once", x.carryOut(), 0);
    }

    private static void carryOutEmptiesThePad() {
        Doc.promise(22, "and empties the pad.");
        String[] texts = {"m", "t5=0", "w0=1;t5=0;w1=1", "m;".repeat(39) + "m"};
        for (String text : texts) {
            ShadowRows x = padOf(text);
            x.carryOut();
            Due.is("the pad behind " + text, x.count(6), 0);
            Due.is("an empty text", x.fault(), 0);
            Due.is("nothing more is carried out", x.carryOut(), BAD_TEXT);
            Due.is("nothing is left to wipe", x.wipe(), 0);
        }
    }

    private static void carryOutIsOneChange() {
        Doc.promise(22, "This is a change (one, with all of them; also if none is carried out).");
        String[] texts = {"t0=4", "t0=4;w0=5;a0@0*1:1;b1>0@0*2:2;m;t1=1", "t5=0", "w0=1;t5=0", "m"};
        for (String text : texts) {
            Twin.undoes(() -> Fields.rows(5), "carryOut() of " + text, x -> {
                Text.append(x, text);
                return x.carryOut();
            });
        }
        ShadowRows none = new ShadowRows();
        none.put('m');
        Due.is("one order", none.carryOut(), 1);
        Text.append(none, "t0=0");
        Due.is("none", none.carryOut(), 0);
        Due.is("two changes", none.count(7), 2);
        Text.append(none, "m;".repeat(39) + "m");
        Due.is("forty orders", none.carryOut(), 40);
        Due.is("three changes", none.count(7), 3);
    }

    private static void carryOutHowMany() {
        Doc.promise(22, "Returns how many orders were carried out;");
        for (int orders = 1; orders <= 40; orders++) {
            Due.is("all of " + orders, padOf("m" + ";m".repeat(orders - 1)).carryOut(), orders);
        }
        Due.is("none of one", padOf("t0=0").carryOut(), 0);
        Due.is("none of two, as the first is an error", padOf("t0=0;m").carryOut(), 0);
        Due.is("one of two", padOf("m;t0=0").carryOut(), 1);
        Due.is("39 of 40", padOf("m;".repeat(38) + "t0=0").carryOut(), 38);
    }

    private static void carryOutBadText() {
        Doc.promise(22, "BAD_TEXT if the pad has a fault (then it stays).");
        String[] texts = {"", "x", "m;", "t0=4;t0=", "w0=5;w1=5;w2=:", "t0=5", "a0@0*01:1", "b0>1@0*1:1000", "m;".repeat(40), "m;".repeat(39) + "mm"};
        for (String text : texts) {
            Twin.refuses(() -> {
                ShadowRows x = Fields.busy(2);
                x.wipe();
                Text.append(x, text);
                return x;
            }, "carryOut() of \"" + text + "\"", ShadowRows::carryOut, BAD_TEXT);
        }
        ShadowRows x = Fields.rows(2);
        Text.append(x, "w0=5;t0=");
        Due.is("the last order ends too early", x.carryOut(), BAD_TEXT);
        Due.is("nor is the first one carried out", x.count(10), 0);
        Due.is("no change", x.count(7), 2);
        x.put('4');
        Due.is("now it has no fault", x.carryOut(), 2);
        Due.is("both are carried out", x.count(10) + x.ofRow(0, 2), 9);
    }

    private static void textsChangeNothing() {
        Doc.terms("Texts", "Ahead of the calls `put`, `wipe`, `fault`, `carryOut` the interface says: ---- texts.");
        Twin.changesNothing(Fields.busyWith(3), "fault()", ShadowRows::fault);
        Twin.changesNothing(ShadowRows::new, "fault()", ShadowRows::fault);
        Twin.changesNothing(ShadowRows::new, "wipe() of an empty pad", ShadowRows::wipe);
        ShadowRows x = Fields.busy(3);
        int changes = x.count(7);
        x.put('!');
        x.wipe();
        Due.is("neither put() nor wipe() is a change", x.count(7), changes);
        x.put('!');
        x.undo();
        Due.is("nor are they undone", x.count(6), 1);
    }
}
