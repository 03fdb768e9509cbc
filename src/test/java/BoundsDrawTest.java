import java.math.BigInteger;

/** Boundary cases of Terms VI and promises 53 and 54: each sentence by a method of its own. */
public final class BoundsDrawTest {
    private static final Checks T = new Checks("BoundsDrawTest");
    private static final Bounds B = new Bounds(T);
    private static final int MOST = 2000000000;

    public static void main(String[] args) {
        drawnOfNoneSuch();
        drawnOfNoNight();
        drawnWithoutHouses();
        drawsWithoutThings();
        oddsOfNoneAndAll();
        oddsJustBelow();
        drawsOfOneThing();
        drawsInTurn();
        drawsWrapAround();
        drawnIfItMay();
        drawnToBeReturnedIn7();
        drawnOf24Papers();
        drawnFailedInThem();
        luckOfNoneSuch();
        luckOfNoneAndAll();
        luckFromTheGreatestSeed();
        nothingIsDone();
        behindTheLastDay();
        T.finish();
    }

    /** The draws by their words, in numbers without a bound. */
    private static int[] draws(long seed, int n) {
        BigInteger x = BigInteger.valueOf(seed);
        int[] drawn = new int[n];
        for (int i = 0; i < n; i++) {
            x = x.multiply(BigInteger.valueOf(1103515245L)).add(BigInteger.valueOf(12345L));
            x = x.mod(BigInteger.valueOf(2147483648L));
            drawn[i] = x.divide(BigInteger.valueOf(65536L)).intValue();
        }
        return drawn;
    }

    private static void drawnOfNoneSuch() {
        // 53: n (0 .. 40), a seed (0 .. 2,000,000,000), what 0, 1, 2; -2: there are none such, no CITY
        for (int what = 0; what < 3; what++) {
            int of = what;
            B.edges("drawn(n, 1, " + what + ")", Bounds::withPapers, (x, n) -> x.drawn(n, 1, of), 0, MOST, -2);
            B.edges("drawn(1, n, " + what + ")", Bounds::withPapers, (x, n) -> x.drawn(1, n, of), 0, 40, -2);
        }
        B.edges("drawn(0, 0, n)", Bounds::withPapers, (x, n) -> x.drawn(0, 0, n), 0, 2, -2);
        B.edges("drawn(0, 0, n) without HOUSES", Bounds::headAlone, (x, n) -> x.drawn(0, 0, n), 0, 2, -2);
        B.never("drawn(n, 0, 0) with no CITY", Bounds::nothing, (x, n) -> x.drawn(n, 0, 0), -2);
    }

    private static void drawnOfNoNight() {
        // 53: 0 NIGHTS: all as it is now
        for (int seed : new int[] {0, 1, MOST}) {
            ReceiptLeft x = Bounds.made(Bounds::withPapers);
            T.due("drawn(" + seed + ", 0, 0)", x.drawn(seed, 0, 0), 0);
            T.due("drawn(" + seed + ", 0, 1)", x.drawn(seed, 0, 1), 3);
            T.due("drawn(" + seed + ", 0, 2)", x.drawn(seed, 0, 2), 100);
            T.due("luck(" + seed + ", 20, 0, 0, 2)", x.luck(seed, 20, 0, 0, 2), 20);
            T.due("luck(" + seed + ", 20, 0, 0, 0)", x.luck(seed, 20, 0, 0, 0), 0);
        }
    }

    private static void drawnWithoutHouses() {
        // 53: 2: purse of HOUSE 0 then (NONE without)
        B.stays("drawn(5, 0, 2)", Bounds::headAlone, x -> x.drawn(5, 0, 2), -1);
        B.stays("drawn(5, 40, 2)", Bounds::headAlone, x -> x.drawn(5, 40, 2), -1);
        B.stays("drawn(5, 40, 2) of two HOUSES", Bounds::noThings, x -> x.drawn(5, 40, 2), 5);
        B.stays("drawn(5, 40, 2) of one HOUSE", x -> Bounds.tell(x, Bounds.HEAD + "house purse 9999;"), x -> x.drawn(5, 40, 2), 9999);
    }

    private static void drawsWithoutThings() {
        // VI: below odds a draw of all THINGS (without THINGS none)
        ReceiptLeft x = Checks.told("city eats 0 carry 1 odds 100;house purse 5;house purse 0;");
        T.due("drawn(5, 40, 0)", x.drawn(5, 40, 0), 0);
        T.due("drawn(5, 40, 1)", x.drawn(5, 40, 1), 0);
    }

    private static void oddsOfNoneAndAll() {
        // VI: a draw of 100: below odds: by odds 0 none, by odds 100 all
        String body = ";house purse 0 locked;house purse 0;thing at 1 worth 9;";
        for (int seed = 0; seed < 200; seed++) {
            T.due("odds 0, seed " + seed, Checks.told("city eats 0 carry 1 odds 0" + body).drawn(seed, 5, 1), 0);
            T.due("odds 100, seed " + seed, Checks.told("city eats 0 carry 1 odds 100" + body).drawn(seed, 5, 1), 1);
        }
    }

    private static void oddsJustBelow() {
        // VI: below odds: the draw itself is not. HOUSE 0 alone may steal, and draws first
        String body = ";house purse 0 locked;house purse 0;thing at 1 worth 9;";
        for (int seed = 0; seed < 300; seed++) {
            int draw = draws(seed, 1)[0] % 100;
            T.due("odds of the draw, seed " + seed, Checks.told("city eats 0 carry 1 odds " + draw + body).drawn(seed, 1, 1), 0);
            T.due("odds of one more, seed " + seed, Checks.told("city eats 0 carry 1 odds " + (draw + 1) + body).drawn(seed, 1, 1), 1);
        }
    }

    private static void drawsOfOneThing() {
        // VI: a draw of all THINGS, also of one, and also if it may not steal it. HOUSE 1 alone may, and draws behind HOUSE 0
        ReceiptLeft x = Checks.told("city eats 0 carry 1 odds 50;house purse 0;house purse 0;thing at 0 worth 9;");
        for (int seed = 0; seed < 200; seed++) {
            int[] drawn = draws(seed, 3);
            int behind = drawn[0] % 100 < 50 ? 2 : 1;
            T.due("one THING, seed " + seed, x.drawn(seed, 1, 1), drawn[behind] % 100 < 50 ? 1 : 0);
        }
    }

    private static void drawsInTurn() {
        // VI: for each HOUSE (by numbers), NIGHT by NIGHT, one draw behind the other
        String text = "city eats 0 carry 1 odds 30;house purse 0;house purse 0;house purse 0 locked;house purse 0;"
            + "thing at 0 worth 9;thing at 1 worth 9;thing at 3 worth 9;";
        for (int seed = 0; seed < 200; seed++) {
            ReceiptLeft x = Checks.told(text);
            int[] drawn = draws(seed, 40);
            int next = 0;
            int[] at = {0, 1, 3};
            int papers = 0;
            for (int n = 1; n <= 5; n++) {
                for (int house = 0; house < 4; house++) {
                    if (drawn[next++] % 100 < 30) {
                        int thing = drawn[next++] % 3;
                        boolean may = at[thing] != house && at[thing] != 2;
                        papers += may ? 1 : 0;
                        at[thing] = may ? house : at[thing];
                    }
                }
                T.due("drawn(" + seed + ", " + n + ", 1)", x.drawn(seed, n, 1), papers);
                for (int thing = 0; thing < 3; thing++) {
                    T.due("THING " + thing + " of seed " + seed + " behind " + n, x.luck(seed, 1, n, thing, at[thing]), 1);
                }
            }
        }
    }

    private static void drawsWrapAround() {
        // VI: (1103515245 x + 12345) modulo 2,147,483,648; x / 65536, cut, modulo n: which THING HOUSE 1 takes of three
        for (int seed : new int[] {0, 1, 2, 65535, 65536, 1073741823, 1073741824, 1999999999, MOST}) {
            ReceiptLeft x = Checks.told("city eats 0 carry 1 odds 100;house purse 0 locked;house purse 0;" + "thing at 1 worth 9;".repeat(3));
            int[] drawn = draws(seed, 4);
            // HOUSE 0 draws 100 and THINGS, takes that one; HOUSE 1 draws too, and takes nothing from a locked HOUSE
            int thing = drawn[1] % 3;
            for (int t = 0; t < 3; t++) {
                T.due("THING " + t + " of seed " + seed, x.luck(seed, 1, 1, t, 0), t == thing ? 1 : 0);
            }
            T.due("one PAPER of seed " + seed, x.drawn(seed, 1, 1), 1);
        }
    }

    private static void drawnIfItMay() {
        // VI: it steals that one (if it may): not what it has, not from a locked HOUSE
        for (int seed = 0; seed < 50; seed++) {
            T.due("what it has, seed " + seed, Checks.told("city eats 0 carry 1 odds 100;house purse 0;thing at 0 worth 9;").drawn(seed, 9, 1), 0);
            T.due("locked, seed " + seed,
                Checks.told("city eats 0 carry 1 odds 100;house purse 0;house purse 0 locked;thing at 1 worth 9;").drawn(seed, 9, 1), 0);
            T.due("not locked, seed " + seed,
                Checks.told("city eats 0 carry 1 odds 100;house purse 0 locked;house purse 0;thing at 1 worth 9;").drawn(seed, 6, 1), 1);
        }
    }

    private static void drawnToBeReturnedIn7() {
        // VI: to be returned in 7 DAYS; then the NIGHT
        ReceiptLeft x = Checks.told("city eats 0 carry 1 odds 100;house purse 0 locked;house purse 0;thing at 1 worth 9;");
        for (int n = 1; n <= 40; n++) {
            // stolen on DAY 0 it is RETURNED in the 7th NIGHT, stolen again in the 8th, ..
            T.due("luck(4, 20, " + n + ", 0, 1)", x.luck(4, 20, n, 0, 1), n % 7 == 0 ? 20 : 0);
            T.due("drawn(4, " + n + ", 1)", x.drawn(4, n, 1), (n + 6) / 7);
        }
    }

    private static void drawnOf24Papers() {
        // VI, 12: there are 24 PAPERS: then none is stolen
        ReceiptLeft x = Checks.told("city eats 0 carry 1 odds 100;house purse 0 locked;house purse 0;thing at 1 worth 9;");
        for (int i = 0; i < 22; i++) {
            x.lock(0, 0);
            x.steal(i % 2, 0, 60);
        }
        T.due("22 PAPERS", x.count(5), 22);
        x.lock(0, 1);
        T.due("a 23rd", x.drawn(7, 1, 1), 23);
        T.due("and a 24th behind 7 DAYS", x.drawn(7, 8, 1), 24);
        T.due("and no more", x.drawn(7, 40, 1), 24);
        T.due("it stays where it is returned to", x.luck(7, 20, 15, 0, 1), 20);
        T.due("with 24 none", Bounds.made(Bounds::crowded).drawn(7, 40, 1), 24);
    }

    private static void drawnFailedInThem() {
        // 53: 0: PAPERS that have FAILED in them, not ahead of them
        ReceiptLeft x = Checks.told("city eats 0 carry 1 odds 0;house purse 3;house purse 0;house purse 0;thing at 0 worth 9;");
        x.steal(1, 0, 1);
        x.steal(2, 0, 2);
        x.steal(0, 0, 3);
        int[] failed = {0, 1, 2, 2};
        for (int n = 0; n < 4; n++) {
            T.due("drawn(0, " + n + ", 0)", x.drawn(0, n, 0), failed[n]);
            T.due("drawn(0, " + n + ", 1)", x.drawn(0, n, 1), 3);
        }
        x.night();
        T.due("behind a NIGHT", x.drawn(0, 40, 0), 1);
        T.due("how many have FAILED in all", x.now(2), 1);
    }

    private static void luckOfNoneSuch() {
        // 54: m (1 .. 20); -2: there are none such
        B.edges("luck(n, 1, 1, 0, 0)", Bounds::withPapers, (x, n) -> x.luck(n, 1, 1, 0, 0), 0, MOST, -2);
        B.edges("luck(0, n, 1, 0, 0)", Bounds::withPapers, (x, n) -> x.luck(0, n, 1, 0, 0), 1, 20, -2);
        B.edges("luck(0, 1, n, 0, 0)", Bounds::withPapers, (x, n) -> x.luck(0, 1, n, 0, 0), 0, 40, -2);
        B.edges("luck(0, 1, 1, n, 0)", Bounds::withPapers, (x, n) -> x.luck(0, 1, 1, n, 0), 0, 5, -2);
        B.edges("luck(0, 1, 1, 0, n)", Bounds::withPapers, (x, n) -> x.luck(0, 1, 1, 0, n), 0, 4, -2);
        B.never("luck(0, 1, 0, n, 0) without THINGS", Bounds::noThings, (x, n) -> x.luck(0, 1, 0, n, 0), -2);
    }

    private static void luckOfNoneAndAll() {
        // 54: in how many a THING is in a HOUSE at last: from none to all
        ReceiptLeft x = Bounds.made(y -> Bounds.tell(y, Bounds.FULL.replace("odds 50", "odds 0")));
        for (int m = 1; m <= 20; m++) {
            T.due("all of " + m, x.luck(9, m, 40, 4, 4), m);
            T.due("none of " + m, x.luck(9, m, 40, 4, 0), 0);
        }
    }

    private static void luckFromTheGreatestSeed() {
        // 54: from seeds, the seed and 1, ..: those behind 2,000,000,000 too
        ReceiptLeft x = Checks.told("city eats 0 carry 1 odds 100;house purse 0 locked;house purse 0;" + "thing at 1 worth 9;".repeat(3));
        for (int thing = 0; thing < 3; thing++) {
            int want = 0;
            for (int i = 0; i < 20; i++) {
                want += draws(MOST + (long) i, 2)[1] % 3 == thing ? 1 : 0;
            }
            T.due("luck(2000000000, 20, 1, " + thing + ", 0)", x.luck(MOST, 20, 1, thing, 0), want);
        }
        for (int thing = 0; thing < 3; thing++) {
            T.due("of one seed it is that of drawn", x.luck(8, 1, 1, thing, 0), draws(8, 2)[1] % 3 == thing ? 1 : 0);
        }
    }

    private static void nothingIsDone() {
        // 53, 54 ask
        ReceiptLeft x = Bounds.made(Bounds::withPapers);
        B.stays("drawn", Bounds::withPapers, y -> y.drawn(3, 40, 1), x.drawn(3, 40, 1));
        B.stays("luck", Bounds::withPapers, y -> y.luck(3, 20, 40, 0, 0), x.luck(3, 20, 40, 0, 0));
        T.due("the same seed draws the same", x.drawn(3, 40, 1), Bounds.made(Bounds::withPapers).drawn(3, 40, 1));
    }

    private static void behindTheLastDay() {
        // 53: from now on: with 60 acts, on DAY 60
        ReceiptLeft x = Checks.told("city eats 0 carry 1 odds 100;house purse 0 locked;house purse 0;thing at 1 worth 9;");
        for (int i = 0; i < 60; i++) {
            x.night();
        }
        T.due("drawn(4, 40, 1)", x.drawn(4, 40, 1), 6);
        T.due("luck(4, 20, 7, 0, 1)", x.luck(4, 20, 7, 0, 1), 20);
        T.due("luck(4, 20, 6, 0, 0)", x.luck(4, 20, 6, 0, 0), 20);
    }
}
