import java.util.List;

/**
 * What the tests of boundary cases share: cities that are empty and full, a call at both sides of
 * its bounds, and that a refused call leaves all as it is.
 */
final class Bounds {
    interface Doing {
        void on(ReceiptLeft x);
    }

    interface Asking {
        long of(ReceiptLeft x);
    }

    interface Numbered {
        long of(ReceiptLeft x, int n);
    }

    static final String HEAD = "city eats 10 carry 2 odds 50;";
    static final String NO_THINGS = HEAD + "house purse 5;house purse 7 locked;";
    /** THINGS 0 and 5 are in HOUSE 0, each other one in the HOUSE of its number; HOUSE 4 is locked. */
    static final String FULL = HEAD
        + "house purse 100;house purse 200;house purse 300;house purse 9999;house purse 0 locked;"
        + "thing at 0 worth 40;thing at 1 worth 30;thing at 2 worth 7;thing at 3 worth 999;thing at 4 worth 5;thing at 0 worth 1;"
        + "want 1 0 5;want 4 5 500;want 0 3 9;";
    /** For PAPERS of each kind, see hows. */
    private static final String HOWS = "city eats 0 carry 1 odds 0;house purse 5;house purse 0;house purse 100;"
        + "thing at 1 worth 5;thing at 1 worth 5;thing at 1 worth 9;thing at 1 worth 1;thing at 1 worth 2;";

    private final Checks checks;

    Bounds(Checks checks) {
        this.checks = checks;
    }

    static ReceiptLeft made(Doing before) {
        ReceiptLeft x = new ReceiptLeft();
        before.on(x);
        return x;
    }

    static void tell(ReceiptLeft x, String text) {
        Checks.put(x, text);
        x.city();
    }

    static void nothing(ReceiptLeft x) {
        // a new object is one with nothing
    }

    static void headAlone(ReceiptLeft x) {
        tell(x, HEAD);
    }

    static void noThings(ReceiptLeft x) {
        tell(x, NO_THINGS);
    }

    static void full(ReceiptLeft x) {
        tell(x, FULL);
    }

    /** PAPER 0: THING 1 of HOUSE 0, held by 1; 1: THING 0 of HOUSE 1, held by 0; 2: the same THING of 2, held by 1. */
    static void withPapers(ReceiptLeft x) {
        full(x);
        x.steal(0, 1, 3);
        x.steal(1, 0, 5);
        x.steal(2, 0, 60);
    }

    /** 24 PAPERS of THING 0: the even ones of HOUSE 1, held by 0, the odd ones the other way. */
    static void crowded(ReceiptLeft x) {
        full(x);
        for (int i = 0; i < 24; i++) {
            x.steal(1 - i % 2, 0, 60);
        }
    }

    /** 60 acts: PAPER 0, THING 1 of HOUSE 0, then locks; HOUSE 2 is not locked at last. */
    static void spent(ReceiptLeft x) {
        full(x);
        x.steal(0, 1, 60);
        for (int i = 0; i < 59; i++) {
            x.lock(2, i % 2);
        }
    }

    /** PAPER 0 is RETURNED, 1 PAID, 2 FAILED, 3 STRUCK, 4 OPEN. */
    static void hows(ReceiptLeft x) {
        tell(x, HOWS);
        x.steal(0, 0, 1);
        x.steal(0, 1, 1);
        x.steal(0, 2, 1);
        x.steal(2, 3, 9);
        x.steal(2, 4, 9);
        x.strike(3);
        x.night();
    }

    /** A call answers as due and leaves an object as another one is on which it was not called. */
    void stays(String name, Doing before, Asking call, long want) {
        ReceiptLeft x = made(before);
        ReceiptLeft y = made(before);
        checks.due(name, call.of(x), want);
        same(name, Whole.of(x), Whole.of(y));
        checks.due(name + ", and undo()", x.undo(), y.undo());
        same(name + ", and undo()", Whole.brief(x), Whole.brief(y));
        checks.due(name + ", and city()", x.city(), y.city());
        same(name + ", and city()", Whole.brief(x), Whole.brief(y));
    }

    private void same(String name, List<String> got, List<String> want) {
        checks.due(name + ": as much is told", got.size(), want.size());
        for (int i = 0; i < got.size() && i < want.size(); i++) {
            boolean alike = got.get(i).equals(want.get(i));
            checks.due(name + " changed " + want.get(i) + " to " + got.get(i), alike ? 0 : 1, 0);
        }
    }

    /** The least and the greatest are taken; what is beyond them, near and far, is not, and changes nothing. */
    void edges(String name, Doing before, Numbered call, int least, int most, long outside) {
        for (int n : new int[] {least, most}) {
            long got = call.of(made(before), n);
            checks.due(name + " of " + n + " is taken: it answered " + got, got == outside ? 0 : 1, 1);
        }
        for (int n : new int[] {least - 1, most + 1, Integer.MIN_VALUE, Integer.MAX_VALUE}) {
            stays(name + " of " + n, before, x -> call.of(x, n), outside);
        }
    }

    /** No number at all is taken. */
    void never(String name, Doing before, Numbered call, long outside) {
        for (int n : new int[] {Integer.MIN_VALUE, -1, 0, 1, 5, 23, 60, Integer.MAX_VALUE}) {
            stays(name + " of " + n, before, x -> call.of(x, n), outside);
        }
    }
}
