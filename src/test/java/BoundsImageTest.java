import java.util.List;

/** Boundary cases of promises 55 to 59: each sentence by a method of its own. */
public final class BoundsImageTest {
    private static final Checks T = new Checks("BoundsImageTest");
    private static final Bounds B = new Bounds(T);

    public static void main(String[] args) {
        rateOfNoneSuch();
        rateWithActs();
        rateFromNowOn();
        wantOfNoneSuch();
        wantWithActs();
        wantFromNowOn();
        unknownAheadOfRefused();
        countOfOthers();
        countOfFull();
        imageOfNoneSuch();
        imageKeeps();
        imageOfFull();
        backOfNoneSuch();
        backOfNothing();
        backOfEach();
        backKeepsTapeAndSlots();
        T.finish();
    }

    private static void same(String name, ReceiptLeft x, ReceiptLeft y) {
        List<String> got = Whole.of(x);
        T.due(name + ": " + got, got.equals(Whole.of(y)) ? 1 : 0, 1);
    }

    private static void rateOfNoneSuch() {
        // 55: n (1 .. 999); -2: there are none such
        B.edges("rate(n, 7)", Bounds::full, (x, n) -> x.rate(n, 7), 0, 5, -2);
        B.edges("rate(0, n)", Bounds::full, (x, n) -> x.rate(0, n), 1, 999, -2);
        B.never("rate(n, 7) without THINGS", Bounds::noThings, (x, n) -> x.rate(n, 7), -2);
    }

    private static void rateWithActs() {
        // 55: -5: there are acts that are not taken back
        B.stays("rate with three acts", Bounds::withPapers, x -> x.rate(0, 7), -5);
        B.stays("rate with 60 acts", Bounds::spent, x -> x.rate(0, 7), -5);
        B.stays("rate with one act, a lock", x -> {
            Bounds.full(x);
            x.lock(0, 0);
        }, x -> x.rate(0, 7), -5);
        ReceiptLeft x = Bounds.made(Bounds::withPapers);
        x.undo();
        x.undo();
        T.due("one is left", x.rate(0, 7), -5);
        x.undo();
        T.due("all are taken back", x.rate(0, 7), 40);
        x.night();
        x.anew();
        T.due("all are taken back anew", x.rate(0, 8), 7);
    }

    private static void rateFromNowOn() {
        // 55: from now on: what it was
        ReceiptLeft x = Bounds.made(Bounds::full);
        T.due("to the most", x.rate(0, 999), 40);
        T.due("to the least", x.rate(0, 1), 999);
        T.due("to what it is", x.rate(0, 1), 1);
        T.due("thing(0, 0)", x.thing(0, 0), 1);
        T.due("value(1, 0)", x.value(1, 0), 6);
        T.due("no other's", x.thing(1, 0), 30);
        x.steal(2, 0, 9);
        T.due("the PAPER's worth", x.lacks(2) + x.hit(2), 1);
        x.anew();
        T.due("it stays behind anew()", x.thing(0, 0), 1);
        T.due("they are no acts", x.count(6), 0);
        T.due("a refused one answers nothing", x.rate(0, 0), -2);
        Bounds.tell(x, Bounds.FULL);
        T.due("another CITY has its own", x.thing(0, 0), 40);
    }

    private static void wantOfNoneSuch() {
        // 56: n (0 .. 500); -2 likewise
        B.edges("want(n, 0, 7)", Bounds::full, (x, n) -> x.want(n, 0, 7), 0, 4, -2);
        B.edges("want(0, n, 7)", Bounds::full, (x, n) -> x.want(0, n, 7), 0, 5, -2);
        B.edges("want(0, 0, n)", Bounds::full, (x, n) -> x.want(0, 0, n), 0, 500, -2);
        B.never("want(n, 0, 7) without HOUSES", Bounds::headAlone, (x, n) -> x.want(n, 0, 7), -2);
        B.never("want(0, n, 7) without THINGS", Bounds::noThings, (x, n) -> x.want(0, n, 7), -2);
    }

    private static void wantWithActs() {
        // 56: -5 likewise
        B.stays("want with three acts", Bounds::withPapers, x -> x.want(1, 0, 7), -5);
        B.stays("want with 60 acts", Bounds::spent, x -> x.want(1, 0, 7), -5);
        ReceiptLeft x = Bounds.made(Bounds::full);
        x.night();
        T.due("one act", x.want(1, 0, 7), -5);
        x.undo();
        T.due("taken back", x.want(1, 0, 7), 5);
    }

    private static void wantFromNowOn() {
        // 56: from now on: what it was
        ReceiptLeft x = Bounds.made(Bounds::full);
        T.due("one without", x.want(0, 0, 500), 0);
        T.due("to none", x.want(0, 0, 0), 500);
        T.due("from none", x.want(0, 0, 1), 0);
        T.due("value(0, 0)", x.value(0, 0), 41);
        T.due("no other HOUSE's", x.value(1, 0), 45);
        T.due("no other THING's", x.value(0, 3), 1008);
        T.due("the last of both", x.want(4, 5, 499), 500);
        x.night();
        x.undo();
        T.due("it stays behind undo()", x.value(4, 5), 500);
        T.due("they are no acts", x.count(6), 0);
        Bounds.tell(x, Bounds.FULL);
        T.due("another CITY has its own", x.value(4, 5), 501);
    }

    private static void unknownAheadOfRefused() {
        // I: -2 is asked ahead of -5
        B.stays("rate(6, 7)", Bounds::withPapers, x -> x.rate(6, 7), -2);
        B.stays("rate(0, 0)", Bounds::withPapers, x -> x.rate(0, 0), -2);
        B.stays("rate(0, 1000)", Bounds::withPapers, x -> x.rate(0, 1000), -2);
        B.stays("want(5, 0, 7)", Bounds::withPapers, x -> x.want(5, 0, 7), -2);
        B.stays("want(0, 6, 7)", Bounds::withPapers, x -> x.want(0, 6, 7), -2);
        B.stays("want(0, 0, -1)", Bounds::withPapers, x -> x.want(0, 0, -1), -2);
        B.stays("want(0, 0, 501)", Bounds::withPapers, x -> x.want(0, 0, 501), -2);
    }

    private static void countOfOthers() {
        // 57: NONE for others
        B.edges("count", Bounds::withPapers, (x, n) -> x.count(n), 0, 9, -1);
        B.edges("count with no CITY", Bounds::nothing, (x, n) -> x.count(n), 0, 9, -1);
    }

    private static void countOfFull() {
        // 57: the most of each
        ReceiptLeft x = Checks.told("city eats 50 carry 6 odds 100;" + "house purse 0;".repeat(5) + "thing at 0 worth 1;".repeat(6));
        for (int i = 0; i < 24; i++) {
            x.steal(1 - i % 2, 0, 60);
        }
        for (int i = 0; i < 36; i++) {
            x.lock(4, 0);
        }
        for (int i = 0; i < 40; i++) {
            x.feed(0, 0, 0, 0, 0);
        }
        for (int slot = 0; slot < 4; slot++) {
            x.row(slot, slot, 0);
        }
        int[] most = {50, 6, 100, 5, 6, 24, 60, 12, 800, 4};
        for (int what = 0; what < 10; what++) {
            T.due("count(" + what + ")", x.count(what), most[what]);
        }
        x.undo();
        T.due("acts that are not taken back", x.count(6), 59);
    }

    private static void imageOfNoneSuch() {
        // 58: IMAGE k (0 .. 2); -2: no such k
        B.edges("image", Bounds::withPapers, (x, n) -> x.image(n), 0, 2, -2);
        ReceiptLeft x = Bounds.made(Bounds::withPapers);
        for (int k : new int[] {-1, 3, Integer.MIN_VALUE, Integer.MAX_VALUE}) {
            x.image(k);
        }
        for (int k = 0; k < 3; k++) {
            T.due("nothing came to IMAGE " + k, x.back(k), -6);
        }
    }

    private static void imageKeeps() {
        // 58: keeps the CITY, and acts: 0; nothing else changes by it
        for (int k = 0; k < 3; k++) {
            int of = k;
            B.stays("image(" + k + ")", Bounds::withPapers, x -> x.image(of), 0);
            ReceiptLeft x = Bounds.made(Bounds::withPapers);
            x.image(k);
            x.strike(0);
            x.night();
            x.sell(1, 3);
            T.due("back(" + k + ")", x.back(k), 0);
            same("as it was", x, Bounds.made(Bounds::withPapers));
            for (int left = 2; left >= 0; left--) {
                T.due("its acts can be taken back", x.undo(), left);
            }
            same("as it was at first", x, Bounds.made(Bounds::full));
            T.due("back(" + k + ") again", x.back(k), 0);
            T.due("with its acts", x.count(6), 3);
        }
    }

    private static void imageOfFull() {
        // 58, 59: 24 PAPERS, 60 acts
        for (Bounds.Doing before : new Bounds.Doing[] {Bounds::crowded, Bounds::spent, Bounds::hows}) {
            ReceiptLeft x = Bounds.made(before);
            int acts = x.count(6);
            T.due("image(2)", x.image(2), 0);
            T.due("anew()", x.anew(), acts);
            T.due("a rate in between", x.rate(0, 555) > 0 ? 1 : 0, 1);
            for (int i = 0; i < 60; i++) {
                x.night();
            }
            T.due("60 other acts in between", x.count(6), 60);
            T.due("back(2)", x.back(2), 0);
            T.due("acts", x.count(6), acts);
            same("as it was", x, Bounds.made(before));
        }
        ReceiptLeft y = Bounds.made(Bounds::spent);
        y.image(0);
        y.city();
        y.back(0);
        T.due("a 61st act behind back", y.night(), -5);
        T.due("a rate behind back", y.rate(0, 7), -5);
    }

    private static void backOfNoneSuch() {
        // 59: -2: no such k
        Bounds.Doing kept = x -> {
            Bounds.full(x);
            for (int k = 0; k < 3; k++) {
                x.image(k);
            }
            Bounds.withPapers(x);
        };
        B.edges("back", kept, (x, n) -> x.back(n), 0, 2, -2);
    }

    private static void backOfNothing() {
        // 59: -6: it has nothing
        for (int k = 0; k < 3; k++) {
            int of = k;
            B.stays("back(" + k + ")", Bounds::withPapers, x -> x.back(of), -6);
            Bounds.Doing others = x -> {
                Bounds.withPapers(x);
                x.image((of + 1) % 3);
                x.image((of + 2) % 3);
            };
            B.stays("back(" + k + "), others have", others, x -> x.back(of), -6);
        }
    }

    private static void backOfEach() {
        // 59: It is as IMAGE k has it, not as another one
        ReceiptLeft x = Bounds.made(Bounds::full);
        x.rate(0, 1);
        x.image(0);
        x.rate(0, 2);
        x.steal(2, 0, 9);
        x.image(1);
        Bounds.tell(x, Bounds.NO_THINGS);
        x.lock(0, 1);
        x.image(2);
        int[] acts = {0, 1, 1};
        for (int k : new int[] {0, 2, 1, 0, 1, 2}) {
            T.due("back(" + k + ")", x.back(k), 0);
            T.due("its acts", x.count(6), acts[k]);
            T.due("its THING's worth", x.thing(0, 0), k == 2 ? -2 : k + 1);
            T.due("its lock", x.house(0, 1), k == 2 ? 1 : 0);
        }
        x.back(1);
        x.image(0);
        x.back(2);
        x.back(0);
        T.due("an IMAGE in place of another", x.thing(0, 0), 2);
    }

    private static void backKeepsTapeAndSlots() {
        // 58, 59: the CITY, and acts: not the TAPE, not SLOTS, not the FAULT of the latest city()
        ReceiptLeft x = Bounds.made(Bounds::withPapers);
        x.image(0);
        Checks.put(x, "#");
        x.city();
        x.row(2, 0, 60);
        x.strike(0);
        T.due("back(0)", x.back(0), 0);
        T.due("the TAPE", x.count(8), 1);
        T.due("SLOTS", x.count(9), 1);
        T.due("its row", x.write(2, 59, 1), 0);
        T.due("the FAULT", x.fault(0), 1);
        T.due("its place", x.fault(1), 0);
        T.due("acts", x.count(6), 3);
    }
}
