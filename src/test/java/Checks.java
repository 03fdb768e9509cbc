/** Counts the answers that are not as due, and tells a text to an object by feed and end. */
final class Checks {
    private final String name;
    private int asked;
    private int wrong;

    Checks(String name) {
        this.name = name;
    }

    void due(String call, long got, long want) {
        asked++;
        if (got != want) {
            wrong++;
            System.out.println(name + ": " + call + " answered " + got + ", due is " + want);
        }
    }

    void finish() {
        System.out.println(name + ": " + asked + " answers, " + wrong + " not as due");
        if (wrong != 0) {
            System.exit(1);
        }
    }

    /** Puts a text behind the TAPE; its characters are 0 to 255. */
    static void put(ReceiptLeft x, String text) {
        int before = x.count(8);
        for (int i = 0; i < text.length(); i += 20) {
            x.feed(four(text, i), four(text, i + 4), four(text, i + 8), four(text, i + 12), four(text, i + 16));
        }
        x.end(before + text.length());
    }

    /** A new object with the CITY of a text. */
    static ReceiptLeft told(String text) {
        ReceiptLeft x = new ReceiptLeft();
        put(x, text);
        x.city();
        return x;
    }

    private static int four(String text, int from) {
        int n = 0;
        for (int i = from; i < from + 4; i++) {
            n = n << 8 | (i < text.length() ? text.charAt(i) & 255 : 32);
        }
        return n;
    }
}
