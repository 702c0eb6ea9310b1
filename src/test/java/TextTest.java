/** Promises 19 to 22: the pad, its faults, and carrying its orders out. */
public final class TextTest {
    private static final int NO_SUCH = -1, BAD_VALUE = -2, BAD_TEXT = -3, TOO_MANY = -4, NONE = -6;

    public static void main(String[] args) {
        put();
        putErrors();
        putTooMany();
        wipe();
        faults();
        noFaults();
        carryOut();
        nothingOfTheOldText();
        carryOutUpToAnError();
        carryOutIsOneChange();
        badText();
        Due.end();
    }

    private static void put() {
        ShadowRows x = new ShadowRows();
        Due.is("19: one", x.put('m'), 1);
        Due.is("19: two in their order", x.put(Text.number(";t")), 3);
        Due.is("19: the fault tells that they are in order", x.fault(), 3);
        Due.is("19: eight", x.put(Text.number("0=4;w9=9")), 11);
        Due.is("19: right so far", x.fault(), NONE);
        Due.is("19: the least code", x.put(33), 12);
        Due.is("19: the greatest code", x.put(126), 13);
        Due.is("19: eight of the greatest", x.put(0x7e7e7e7e7e7e7e7eL), 21);
        Due.is("19: no change", x.count(7), 0);
        Due.is("19: the length", x.count(6), 21);
    }

    private static void putErrors() {
        ShadowRows x = new ShadowRows();
        Due.is("19: nothing", x.put(0), BAD_VALUE);
        Due.is("19: code 32", x.put(32), BAD_VALUE);
        Due.is("19: code 127", x.put(127), BAD_VALUE);
        Due.is("19: code 128", x.put(128), BAD_VALUE);
        Due.is("19: code 255", x.put(255), BAD_VALUE);
        Due.is("19: code 1", x.put(1), BAD_VALUE);
        Due.is("19: all bits", x.put(-1L), BAD_VALUE);
        Due.is("19: 0 behind a character", x.put(Text.number("m") << 8), BAD_VALUE);
        Due.is("19: 0 between characters", x.put(0x6d006dL), BAD_VALUE);
        Due.is("19: a bit above the 0", x.put(0x01000000006dL), BAD_VALUE);
        Due.is("19: the highest bit", x.put(Long.MIN_VALUE | 'm'), BAD_VALUE);
        Due.is("19: the first of eight above 127", x.put(0x806d6d6d6d6d6d6dL), BAD_VALUE);
        Due.is("19: the first of eight a blank", x.put(0x206d6d6d6d6d6d6dL), BAD_VALUE);
        Due.is("19: in the middle", x.put(0x6d6d6d7f6d6d6d6dL), BAD_VALUE);
        Due.is("19: nothing was put", x.count(6), 0);
    }

    private static void putTooMany() {
        ShadowRows x = new ShadowRows();
        for (int i = 1; i < 10; i++) {
            x.put(Text.number("m;m;m;m;"));
        }
        Due.is("19: 79", x.put(Text.number("m;m;m;m")), 79);
        Due.is("19: 81", x.put(Text.number(";m")), TOO_MANY);
        Due.is("19: bad before too many", x.put(Text.number(";m") << 8), BAD_VALUE);
        Due.is("19: still 79", x.count(6), 79);
        Due.is("19: 80", x.put(';'), 80);
        Due.is("19: one more", x.put('m'), TOO_MANY);
        Due.is("21: ends too early at 80", x.fault(), 80);
        x.wipe();
        for (int i = 1; i < 10; i++) {
            x.put(Text.number("m;m;m;m;"));
        }
        Due.is("19: a full pad", x.put(Text.number("m;m;t0=3")), 80);
        Due.is("21: a full pad", x.fault(), NONE);
        x.row(0, 1, 0);
        Due.is("22: a full pad", x.carryOut(), 39);
        Due.is("22: its last order", x.ofRow(0, 2), 3);
    }

    private static void wipe() {
        ShadowRows x = new ShadowRows();
        Due.is("20: empty", x.wipe(), 0);
        Text.put(x, "t0=4;w1=2;m");
        Due.is("20: the length that it had", x.wipe(), 11);
        Due.is("20: now", x.count(6), 0);
        Due.is("20: no change", x.count(7), 0);
        Text.put(x, "m");
        Due.is("20: nothing of the old text", x.fault(), NONE);
    }

    private static void faultIs(String text, int fault) {
        ShadowRows x = new ShadowRows();
        Text.put(x, text);
        Due.is("21: fault of \"" + text + "\"", x.fault(), fault);
        Due.is("21: the pad stays", x.count(6), text.length());
        Due.is("21: no change", x.count(7), 0);
    }

    private static void faults() {
        String[] texts = {
            "", "x", "M", ";", "0", "t", "tx", "t6", "t0", "t0-", "t0=", "t0=5", "t0=-", "t0=44", "t0=4;", "t0=4;;",
            "t0=4,", "t00=4", "w", "w:", "w/", "w9=", "w9=a", "w9=10", "w9=9m", "a", "a6", "a0>", "a0@", "a0@/", "a0@:",
            "a0@9", "a0@9:", "a0@9*", "a0@9*;", "a0@9*1", "a0@9*1;", "a0@9*00", "a0@9*01", "a0@9*1000", "a0@9*12:", "a0@9*12::",
            "a0@9*0:1000", "a0@9*0:00", "a0@9*0:05", "a0@9*999:999*", "a0@9*999:9999", "b", "b6", "b0", "b0@", "b0>", "b0>6",
            "b0>1", "b0>1>", "b0>1@", "b0>1@9", "b0>1@9*", "b0>1@9*2", "b0>1@9*20", "b0>1@9*200", "b0>1@9*2000", "b0>1@9*200:",
            "b0>1@9*200:x", "m;", "mm", "m;m;x", "m;t1=2;a1@2*3:4;b1>2@3*4:5;m!", "m;t1=2;a1@2*3:4;b1>2@3*4:5;",
            "t0=4;a0@0*007:1", "~", "t0=@", "aa", "tw"
        };
        int[] faults = {
            0, 0, 0, 0, 0, 1, 1, 1, 2, 2, 3, 3, 3, 4, 5, 5,
            4, 2, 1, 1, 1, 3, 3, 4, 4, 1, 1, 2, 3, 3, 3,
            4, 4, 5, 5, 6, 6, 6, 6, 8, 8, 8,
            10, 8, 8, 12, 12, 1, 1, 2, 2, 3, 3,
            4, 4, 5, 6, 7, 8, 9, 10, 10, 11,
            11, 2, 1, 4, 28, 27,
            11, 0, 3, 1, 1
        };
        Due.is("as many faults as texts", faults.length, texts.length);
        for (int i = 0; i < Math.min(texts.length, faults.length); i++) {
            faultIs(texts[i], faults[i]);
        }
    }

    private static void noFaults() {
        String[] texts = {
            "m", "m;m", "t0=0", "t5=4", "w0=0", "w9=9", "a0@0*0:0", "a5@9*999:999", "b0>0@0*0:0", "b5>5@9*999:999",
            "a1@1*10:100", "a1@1*1:9", "a1@1*90:909", "m;t1=2;w3=4;a1@2*3:4;b1>2@3*4:5;m"
        };
        for (String text : texts) {
            faultIs(text, NONE);
        }
    }

    private static ShadowRows twoRows() {
        ShadowRows x = new ShadowRows();
        x.row(0, 1, 0);
        x.row(5, 1, 0);
        return x;
    }

    private static void carryOut() {
        ShadowRows x = twoRows();
        Text.put(x, "t1=3;w8=6;a1@2*30:40;b0>1@2*25:41;m;a0@3*200:999");
        Due.is("22: orders", x.carryOut(), 6);
        Due.is("22: tilt", x.ofRow(1, 2), 3);
        Due.is("22: wind", x.count(18), 6);
        Due.is("22: match", x.count(4), 25);
        Due.is("22: the right of the bid", x.over(0, 1, 2, 0), 25);
        Due.is("22: the price of the ask", x.ofRow(1, 3), 1000001000);
        Due.is("22: asks", x.count(1), 2);
        Due.is("22: what is left", x.offer(0, 0, 2), 5);
        Due.is("22: seller", x.offer(0, 1, 0), 0);
        Due.is("22: hour", x.offer(0, 1, 1), 3);
        Due.is("22: units", x.offer(0, 1, 2), 200);
        Due.is("22: price", x.offer(0, 1, 3), 999);
        Due.is("22: the pad is empty", x.count(6), 0);
        Text.put(x, "b1>0@3*7:8");
        Due.is("22: one order", x.carryOut(), 1);
        Due.is("22: buyer", x.offer(1, 0, 4), 1);
        Due.is("22: seller", x.offer(1, 0, 0), 0);
    }

    private static void nothingOfTheOldText() {
        ShadowRows x = twoRows();
        Text.write(x, "a0@0*123:456;m");
        Text.write(x, "a0@0*123:4");
        Due.is("22: the text ends where it ends", x.fault(), NONE);
        Due.is("22: one order", x.carryOut(), 1);
        Due.is("22: the price", x.offer(0, 0, 3), 4);
        Text.write(x, "t0=1");
        Text.write(x, "t0");
        Due.is("22: too early", x.fault(), 2);
        x.wipe();
        Due.is("22: empty", x.fault(), 0);
    }

    private static void carryOutUpToAnError() {
        String[] stops = {"t2=0", "a2@0*1:1", "a0@0*0:1", "a0@0*201:1", "b0>2@0*1:1", "b2>0@0*1:1", "b0>0@0*1:1", "b0>1@0*0:1", "b0>1@0*999:1"};
        for (String stop : stops) {
            ShadowRows x = twoRows();
            Text.put(x, "w1=3;" + stop + ";w2=3");
            Due.is("22: up to " + stop, x.carryOut(), 1);
            Due.is("22: before it", x.count(11), 3);
            Due.is("22: not after it", x.count(12), 0);
            Due.is("22: the pad is empty", x.count(6), 0);
            Due.is("22: a change", x.count(7), 3);
        }
        ShadowRows x = twoRows();
        for (int i = 0; i < 9; i++) {
            x.ask(0, 0, 1, 1);
        }
        Text.put(x, "a0@0*1:1;a0@0*1:1;t0=4");
        Due.is("22: up to the eleventh ask", x.carryOut(), 1);
        Due.is("22: ten", x.count(1), 10);
        Due.is("22: not the tilt", x.ofRow(0, 2), 0);
    }

    private static void carryOutIsOneChange() {
        ShadowRows x = twoRows();
        Text.put(x, "t0=1;t0=2;w0=9;a0@0*1:1");
        Due.is("22: four", x.carryOut(), 4);
        Due.is("22: one change", x.count(7), 3);
        Due.is("22: undone at once", x.undo(), 2);
        Due.is("22: tilt", x.ofRow(0, 2), 0);
        Due.is("22: wind", x.count(10), 0);
        Due.is("22: asks", x.count(1), 0);
        Due.is("22: the pad stays empty", x.count(6), 0);
        Text.put(x, "t2=1");
        Due.is("22: none", x.carryOut(), 0);
        Due.is("22: a change all the same", x.count(7), 3);
    }

    private static void badText() {
        ShadowRows x = twoRows();
        Due.is("22: empty", x.carryOut(), BAD_TEXT);
        Text.put(x, "t0=4;t0=");
        Due.is("22: too early", x.carryOut(), BAD_TEXT);
        Due.is("22: the pad stays", x.count(6), 8);
        Due.is("22: nothing was carried out", x.ofRow(0, 2), 0);
        Due.is("22: no change", x.count(7), 2);
        x.put('3');
        Due.is("22: goes on", x.carryOut(), 2);
        Due.is("22: now", x.ofRow(0, 2), 3);
        Due.is("22: no such row is no fault", x.tilt(5, 0), NO_SUCH);
        Due.is("22: too many is for put", TOO_MANY, -4);
    }
}
