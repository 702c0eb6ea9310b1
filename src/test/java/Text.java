/** Puts texts on the pad, as put() takes them. */
final class Text {
    private Text() {
    }

    /** The number for up to 8 characters. */
    static long number(String characters) {
        long number = 0;
        for (int i = 0; i < characters.length(); i++) {
            number = number << 8 | characters.charAt(i);
        }
        return number;
    }

    /** Appends a text of any length, eight characters at a time. */
    static void append(ShadowRows x, String text) {
        for (int from = 0; from < text.length(); from += 8) {
            x.put(number(text.substring(from, Math.min(text.length(), from + 8))));
        }
    }

    /** Appends a text, and looks at what put() answers. */
    static void put(ShadowRows x, String text) {
        for (int from = 0; from < text.length(); from += 8) {
            String part = text.substring(from, Math.min(text.length(), from + 8));
            int before = x.count(6);
            Due.is("put of \"" + part + "\"", x.put(number(part)), before + part.length());
        }
    }

    /** Wipes the pad, and puts a text there. */
    static void write(ShadowRows x, String text) {
        x.wipe();
        put(x, text);
    }
}
