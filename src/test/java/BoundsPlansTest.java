/** Boundary cases of Terms IV, V and promises 42 to 49: each sentence by a method of its own. */
public final class BoundsPlansTest {
    private static final Checks T = new Checks("BoundsPlansTest");
    private static final Bounds B = new Bounds(T);
    private static final String HEAD = "city eats 0 carry 1 odds 0;";
    private static final String WANTS = "want 0 0 3;want 0 1 500;want 0 2 3;want 0 3 1;want 0 4 2;";

    public static void main(String[] args) {
        planOfNoneSuch();
        planOfOneToFour();
        planOfLocksAndItsOwn();
        planIsWhatNetGains();
        plansOfNoneSuch();
        plansFirstOfLikeOnes();
        plansAsLongAsItWants();
        changeOfNoneSuch();
        changeForMoreAlone();
        changeTheLeast();
        dealOfNone();
        dealOfOneEach();
        dealOfFull();
        dealsOfNoneSuch();
        dealsTheFirst();
        dealsOnlyWithout();
        restsOfNoneSuch();
        restsAtItsCost();
        restsWithoutThings();
        restsOfAllHouses();
        restTheLeast();
        dearOfAll();
        askingDoesNothing();
        T.finish();
    }

    /** HOUSE 0 wants THINGS 0 to 4, which are in HOUSE 1, by 3, 500, 3, 1, 2; it has THING 5. */
    private static void wanted(ReceiptLeft x) {
        Bounds.tell(x, HEAD + "house purse 0;house purse 0;house purse 0;" + "thing at 1 worth 9;".repeat(5) + "thing at 0 worth 9;" + WANTS + "want 0 5 9;");
    }

    private static void planOfNoneSuch() {
        // 42: n (1 .. 4); -2: there are none such
        B.edges("plan(n, 1)", Bounds::withPapers, (x, n) -> x.plan(n, 1), 0, 4, -2);
        B.edges("plan(0, n)", Bounds::withPapers, (x, n) -> x.plan(0, n), 1, 4, -2);
        B.never("plan(n, 1) without HOUSES", Bounds::headAlone, (x, n) -> x.plan(n, 1), -2);
    }

    private static void planOfOneToFour() {
        // 42: at most by n thefts: fewer if more bring nothing
        ReceiptLeft x = Bounds.made(BoundsPlansTest::wanted);
        int[] plan = {500, 503, 506, 508};
        for (int n = 1; n <= 4; n++) {
            T.due("plan(0, " + n + ")", x.plan(0, n), plan[n - 1]);
            T.due("plan(2, " + n + ") of one that wants none", x.plan(2, n), 0);
        }
        ReceiptLeft y = Checks.told(HEAD + "house purse 0;house purse 0;thing at 1 worth 9;want 0 0 4;");
        for (int n = 1; n <= 4; n++) {
            T.due("plan(0, " + n + ") of one THING", y.plan(0, n), 4);
        }
    }

    private static void planOfLocksAndItsOwn() {
        // 42: each of a THING that is in another HOUSE that is not locked
        ReceiptLeft x = Bounds.made(BoundsPlansTest::wanted);
        x.steal(2, 1, 9);
        x.lock(2, 1);
        T.due("the dearest is locked up", x.plan(0, 4), 3 + 3 + 2 + 1);
        x.lock(1, 1);
        T.due("all is locked up", x.plan(0, 4), 0);
        x.lock(0, 1);
        x.lock(2, 0);
        T.due("its own lock is no hindrance", x.plan(0, 4), 500);
        x.steal(0, 1, 9);
        T.due("what it has is none", x.plan(0, 4), 0);
        // 24 PAPERS and 60 acts are asked by steal, not here
        T.due("with 60 acts", Bounds.made(Bounds::spent).plan(0, 1), 9);
        T.due("with 24 PAPERS", Bounds.made(Bounds::crowded).plan(0, 1), 9);
    }

    private static void planIsWhatNetGains() {
        // 42: by how much the NET of a HOUSE is more
        ReceiptLeft x = Bounds.made(BoundsPlansTest::wanted);
        int net = x.net(0);
        int plan = x.plan(0, 4);
        for (int i = 0; i < 4; i++) {
            x.steal(0, x.plans(0, 4 - i, 0), 9);
        }
        T.due("it is more by just that", x.net(0) - net, plan);
    }

    private static void plansOfNoneSuch() {
        // 43: NONE: there is none such (a THING i); -2 likewise
        B.edges("plans(n, 4, 0)", BoundsPlansTest::wanted, (x, n) -> x.plans(n, 4, 0), 0, 2, -2);
        B.edges("plans(0, n, 0)", BoundsPlansTest::wanted, (x, n) -> x.plans(0, n, 0), 1, 4, -2);
        for (int n = 1; n <= 4; n++) {
            int most = n;
            B.edges("plans(0, " + n + ", i)", BoundsPlansTest::wanted, (x, i) -> x.plans(0, most, i), 0, n - 1, -1);
        }
        B.stays("plans(3, 4, -1): -2 is asked first", BoundsPlansTest::wanted, x -> x.plans(3, 4, -1), -2);
        B.stays("plans(0, 5, 9): -2 is asked first", BoundsPlansTest::wanted, x -> x.plans(0, 5, 9), -2);
    }

    private static void plansFirstOfLikeOnes() {
        // 43: those it wants most more first (of like ones the least)
        ReceiptLeft x = Bounds.made(BoundsPlansTest::wanted);
        int[] plans = {1, 0, 2, 4};
        for (int i = 0; i < 4; i++) {
            T.due("plans(0, 4, " + i + ")", x.plans(0, 4, i), plans[i]);
        }
    }

    private static void plansAsLongAsItWants() {
        // 43: as long as it wants them more: 1 more is enough, 0 is not
        ReceiptLeft x = Bounds.made(BoundsPlansTest::wanted);
        x.want(0, 0, 0);
        x.want(0, 2, 0);
        T.due("the third of three", x.plans(0, 4, 2), 3);
        T.due("no fourth", x.plans(0, 4, 3), -1);
        x.want(0, 3, 0);
        T.due("no third", x.plans(0, 4, 2), -1);
        T.due("none that wants none", x.plans(2, 1, 0), -1);
        T.due("none when all is locked up", Bounds.made(y -> {
            wanted(y);
            y.lock(1, 1);
        }).plans(0, 4, 0), -1);
    }

    private static void changeOfNoneSuch() {
        // 44: -2: there are none such, one twice
        B.edges("change(n, 2)", Bounds::withPapers, (x, n) -> x.change(n, 2), 0, 4, -2);
        B.edges("change(2, n)", Bounds::withPapers, (x, n) -> x.change(2, n), 0, 4, -2);
        for (int house = 0; house < 5; house++) {
            int h = house;
            B.stays("change(" + house + ", " + house + ")", Bounds::withPapers, x -> x.change(h, h), -2);
        }
    }

    private static void changeForMoreAlone() {
        // 44: by which both have more VALUE: one more is enough, as much is not
        ReceiptLeft x = Checks.told(HEAD + "house purse 0;house purse 0;house purse 0;thing at 0 worth 9;thing at 1 worth 9;want 0 1 1;want 1 0 1;");
        T.due("one more for both", x.change(0, 1), 1);
        T.due("the other way", x.change(1, 0), 10);
        x.want(0, 1, 0);
        T.due("as much for the one", x.change(0, 1), -1);
        x.want(0, 1, 1);
        x.want(1, 0, 0);
        T.due("as much for the other", x.change(0, 1), -1);
        x.want(1, 0, 1);
        x.rate(0, 10);
        T.due("the worth counts too", x.change(0, 1), -1);
        T.due("none without THINGS of one", x.change(0, 2), -1);
        T.due("none without THINGS of the other", x.change(2, 0), -1);
        x.rate(0, 9);
        x.lock(0, 1);
        x.lock(1, 1);
        T.due("locks are no matter", x.change(0, 1), 1);
        x.lock(0, 0);
        x.lock(1, 0);
        x.steal(2, 0, 9);
        T.due("where they are now", x.change(0, 1), -1);
        T.due("and for whom it is there", x.change(2, 1), -1);
        // each wants what the other one has, and less than nothing is gained by what a third one has
        ReceiptLeft y = Checks.told(HEAD + "house purse 0;".repeat(3) + "thing at 0 worth 9;thing at 1 worth 9;thing at 2 worth 9;"
            + "want 0 1 5;want 1 0 5;want 0 2 5;want 2 0 4;want 1 2 1;want 2 1 9;");
        int[][] due = {{-2, 1, 2}, {10, -2, 12}, {20, 21, -2}};
        for (int house = 0; house < 3; house++) {
            for (int other = 0; other < 3; other++) {
                T.due("change(" + house + ", " + other + ") of three", y.change(house, other), due[house][other]);
            }
        }
        y.want(0, 1, 0);
        y.rate(1, 8);
        T.due("less for the one", y.change(0, 1), -1);
        T.due("less for the other", y.change(1, 0), -1);
    }

    private static void changeTheLeast() {
        // 44: 10 times the first and the second one: the first such (the least)
        ReceiptLeft x = Checks.told(HEAD + "house purse 0;house purse 0;thing at 1 worth 9;thing at 1 worth 9;thing at 1 worth 9;"
            + "thing at 0 worth 9;thing at 0 worth 9;thing at 0 worth 9;want 0 2 5;want 1 5 5;");
        T.due("the last of both", x.change(0, 1), 52);
        T.due("the last of both, the other way", x.change(1, 0), 25);
        x.want(0, 1, 1);
        T.due("a lesser second one", x.change(0, 1), 51);
        x.want(1, 4, 1);
        T.due("a lesser first one goes ahead", x.change(0, 1), 41);
        x.want(0, 0, 500);
        x.want(1, 3, 500);
        T.due("the first of both", x.change(0, 1), 30);
        T.due("the first of both, the other way", x.change(1, 0), 3);
    }

    private static void dealOfNone() {
        // 45: -2: there is no CITY; nothing to deal out
        B.stays("deal() with no CITY", Bounds::nothing, x -> x.deal(), -2);
        B.stays("deal() without HOUSES", Bounds::headAlone, x -> x.deal(), 0);
        B.stays("deal() without THINGS", Bounds::noThings, x -> x.deal(), 0);
    }

    private static void dealOfOneEach() {
        // 45: if each HOUSE has one THING at most, each THING one HOUSE
        ReceiptLeft x = Checks.told(HEAD + "house purse 0;" + "thing at 0 worth 9;thing at 0 worth 8;thing at 0 worth 999;");
        T.due("one HOUSE, three THINGS", x.deal(), 999);
        ReceiptLeft y = Checks.told(HEAD + "house purse 0;".repeat(5) + "thing at 0 worth 9;want 4 0 1;");
        T.due("five HOUSES, one THING", y.deal(), 10);
        T.due("to the last HOUSE", y.deals(0), 4);
        Bounds.tell(x, HEAD + "house purse 0;thing at 0 worth 1;");
        T.due("what was asked of another CITY is no matter", x.deal(), 1);
        Bounds.tell(x, HEAD + "house purse 0;");
        T.due("nor of one with THINGS", x.deal(), 0);
        y.lock(4, 1);
        y.steal(2, 0, 9);
        T.due("locks and where it is are no matter", y.deal(), 10);
    }

    private static void dealOfFull() {
        // 45: five HOUSES, six THINGS, the most there is
        StringBuilder text = new StringBuilder(HEAD + "house purse 0;".repeat(5) + "thing at 0 worth 999;".repeat(6));
        for (int house = 0; house < 5; house++) {
            text.append("want ").append(house).append(' ').append(5 - house).append(" 500;");
        }
        ReceiptLeft x = Checks.told(text.toString());
        T.due("deal() of all", x.deal(), 5 * 1499);
        int[] deals = {-1, 4, 3, 2, 1, 0};
        for (int thing = 0; thing < 6; thing++) {
            T.due("deals(" + thing + ")", x.deals(thing), deals[thing]);
        }
    }

    private static void dealsOfNoneSuch() {
        // 46: -2: there is none such
        B.edges("deals", Bounds::full, (x, n) -> x.deals(n), 0, 5, -2);
        B.never("deals without THINGS", Bounds::noThings, (x, n) -> x.deals(n), -2);
    }

    private static void dealsTheFirst() {
        // IV: the first, THING by THING the least HOUSE by which all is as great
        ReceiptLeft x = Checks.told(HEAD + "house purse 0;".repeat(5) + "thing at 4 worth 9;".repeat(5));
        for (int thing = 0; thing < 5; thing++) {
            T.due("all alike: deals(" + thing + ")", x.deals(thing), thing);
        }
        x.want(0, 4, 1);
        int[] deals = {1, 2, 3, 4, 0};
        for (int thing = 0; thing < 5; thing++) {
            T.due("the last to the first: deals(" + thing + ")", x.deals(thing), deals[thing]);
        }
        x.want(0, 0, 1);
        T.due("as great either way: the first", x.deals(0), 0);
        T.due("then the last to the last", x.deals(4), 4);
    }

    private static void dealsOnlyWithout() {
        // IV: or none, if only without
        ReceiptLeft x = Checks.told(HEAD + "house purse 0;house purse 0;thing at 0 worth 9;thing at 0 worth 9;thing at 0 worth 9;");
        T.due("deals(0)", x.deals(0), 0);
        T.due("deals(1)", x.deals(1), 1);
        T.due("deals(2), none is left", x.deals(2), -1);
        x.rate(2, 10);
        T.due("deals(0), the last is worth more", x.deals(0), 0);
        T.due("deals(1), only without", x.deals(1), -1);
        T.due("deals(2), worth more", x.deals(2), 1);
    }

    private static void restsOfNoneSuch() {
        // 47, 48: a cost (0 .. 999); -2: there is none such, no CITY
        B.edges("rests", Bounds::withPapers, (x, n) -> x.rests(n), 0, 999, -2);
        B.edges("rest", Bounds::withPapers, (x, n) -> x.rest(n), 0, 999, -2);
        B.edges("rests without HOUSES", Bounds::headAlone, (x, n) -> x.rests(n), 0, 999, -2);
        B.edges("rest without HOUSES", Bounds::headAlone, (x, n) -> x.rest(n), 0, 999, -2);
        B.never("rests with no CITY", Bounds::nothing, (x, n) -> x.rests(n), -2);
        B.never("rest with no CITY", Bounds::nothing, (x, n) -> x.rest(n), -2);
    }

    private static void restsAtItsCost() {
        // V: REST: no HOUSE is better by the other choice alone: at just its cost either is at REST
        ReceiptLeft x = Checks.told(HEAD + "house purse 0;thing at 0 worth 9;thing at 0 worth 9;want 0 0 7;want 0 1 6;");
        T.due("rests(6)", x.rests(6), 1);
        T.due("rest(6), locked", x.rest(6), 1);
        T.due("rests(7), either", x.rests(7), 2);
        T.due("rest(7), either", x.rest(7), 0);
        T.due("rests(8)", x.rests(8), 1);
        T.due("rest(8), not locked", x.rest(8), 0);
        x.want(0, 0, 500);
        T.due("rest(499)", x.rest(499), 1);
        T.due("rests(500)", x.rests(500), 2);
        T.due("rest(501)", x.rest(501), 0);
        T.due("rests(999)", x.rests(999), 1);
        T.due("rests(0)", x.rests(0), 1);
        T.due("rest(0)", x.rest(0), 1);
    }

    private static void restsWithoutThings() {
        // V: it loses that more (nothing without THINGS); what it gains by others is no matter for its choice
        ReceiptLeft x = Checks.told(HEAD + "house purse 0;house purse 0;thing at 0 worth 9;want 0 0 7;want 1 0 500;");
        T.due("rest(0): either by the second", x.rest(0), 0b01);
        T.due("rests(0)", x.rests(0), 2);
        T.due("rests(1)", x.rests(1), 1);
        T.due("rest(1)", x.rest(1), 0b01);
        T.due("rests(7)", x.rests(7), 2);
        T.due("rest(7)", x.rest(7), 0);
        x.want(0, 0, 0);
        T.due("a THING that it wants no more is as none", x.rests(0), 4);
        x.want(0, 0, 7);
        x.steal(1, 0, 9);
        T.due("where it is now", x.rest(499), 0b10);
        T.due("its first HOUSE loses nothing", x.rest(1), 0b10);
    }

    private static void restsOfAllHouses() {
        // 47: how many sets: of five HOUSES all 32
        ReceiptLeft x = Checks.told(HEAD + "house purse 0;".repeat(5));
        T.due("rests(0), none loses", x.rests(0), 32);
        T.due("rests(1), none loses", x.rests(1), 1);
        StringBuilder text = new StringBuilder(HEAD + "house purse 0 locked;".repeat(5));
        for (int house = 0; house < 5; house++) {
            text.append("thing at ").append(house).append(" worth 9;want ").append(house).append(' ').append(house).append(" 4;");
        }
        ReceiptLeft y = Checks.told(text.toString());
        T.due("rests(3)", y.rests(3), 1);
        T.due("rest(3)", y.rest(3), 0b11111);
        T.due("rests(4)", y.rests(4), 32);
        T.due("rest(4)", y.rest(4), 0);
        T.due("rests(5), which are locked now is no matter", y.rests(5), 1);
        T.due("rest(5)", y.rest(5), 0);
    }

    private static void restTheLeast() {
        // 48: The least of these
        ReceiptLeft x = Checks.told(HEAD + "house purse 0;".repeat(3) + "thing at 0 worth 9;thing at 1 worth 9;thing at 2 worth 9;want 0 0 5;want 1 1 8;want 2 2 5;");
        T.due("rest(5), 1 alone must", x.rest(5), 0b010);
        T.due("rests(5)", x.rests(5), 4);
        T.due("rest(4)", x.rest(4), 0b111);
        T.due("rest(6)", x.rest(6), 0b010);
        T.due("rest(9)", x.rest(9), 0);
    }

    private static void dearOfAll() {
        // 49: The greatest cost (0 .. 999) by which all HOUSES locked are at REST; -2: there is no CITY
        B.stays("dear() with no CITY", Bounds::nothing, x -> x.dear(), -2);
        B.stays("dear() without HOUSES: the greatest there is", Bounds::headAlone, x -> x.dear(), 999);
        B.stays("dear() without THINGS", Bounds::noThings, x -> x.dear(), 0);
        ReceiptLeft x = Checks.told(HEAD + "house purse 0;house purse 0;thing at 0 worth 9;thing at 1 worth 9;want 0 0 500;want 1 1 500;");
        T.due("the most", x.dear(), 500);
        x.want(1, 1, 3);
        T.due("by the one that would lose least", x.dear(), 3);
        T.due("all are at REST by it", x.rest(3), 0b01);
        T.due("by it either", x.rests(3), 2);
        T.due("by one more not all are", x.rests(4), 1);
        x.want(0, 0, 2);
        T.due("by the first", x.dear(), 2);
        x.want(1, 1, 0);
        T.due("one that would lose nothing", x.dear(), 0);
    }

    private static void askingDoesNothing() {
        // 42 to 49 ask
        B.stays("plan", Bounds::withPapers, x -> x.plan(0, 4), 9);
        B.stays("plans", Bounds::withPapers, x -> x.plans(0, 4, 0), 3);
        B.stays("change", Bounds::withPapers, x -> x.change(0, 1), -1);
        B.stays("deal", Bounds::withPapers, x -> x.deal(), 1008 + 501 + 45 + 30 + 7);
        B.stays("deals", Bounds::withPapers, x -> x.deals(5), 4);
        B.stays("rests", Bounds::withPapers, x -> x.rests(0), 32);
        B.stays("rest", Bounds::withPapers, x -> x.rest(0), 0);
        B.stays("dear", Bounds::withPapers, x -> x.dear(), 0);
    }
}
