/** Boundary cases of NIGHT (Terms II) and promises 12 to 19: each sentence by a method of its own. */
public final class BoundsActsTest {
    private static final Checks T = new Checks("BoundsActsTest");
    private static final Bounds B = new Bounds(T);

    public static void main(String[] args) {
        stealOfNoneSuch();
        stealWhatItHas();
        stealFromALockedHouse();
        stealForADayNotBehindNow();
        stealOf24Papers();
        sellOfNoneSuch();
        sellOfClosedOnes();
        sellToItsHolder();
        sellForMoreThanItHas();
        bringsOfNoneSuch();
        bringsOfClosedOnes();
        bringsWhatHeHasNot();
        bringsToHimself();
        strikeOfNoneSuch();
        strikeOfClosedOnes();
        strikeHowManyAreOpen();
        lockOfNoneSuch();
        lockAsItIs();
        sixtyActs();
        unknownAheadOfRefused();
        nightOfSixty();
        nightOfItsDay();
        nightCarries();
        nightPays();
        nightCountsTheFailed();
        undoOfNone();
        undoOfSixty();
        undoOfEach();
        anewOfAll();
        T.finish();
    }

    private static void stealOfNoneSuch() {
        // 12: -2: there are none such (a HOUSE, a THING, a DAY 1 .. 60)
        B.edges("steal(n, 2, 9)", Bounds::full, (x, n) -> x.steal(n, 2, 9), 0, 4, -2);
        B.edges("steal(2, n, 9)", Bounds::full, (x, n) -> x.steal(2, n, 9), 0, 5, -2);
        B.edges("steal(2, 0, n)", Bounds::full, (x, n) -> x.steal(2, 0, n), 1, 60, -2);
        ReceiptLeft x = Bounds.made(Bounds::full);
        T.due("for the first DAY", x.steal(2, 0, 1), 0);
        T.due("for the last DAY", x.steal(2, 1, 60), 1);
        T.due("its DAY", x.paper(1, 3), 60);
    }

    private static void stealWhatItHas() {
        // 12: -5: it has it
        B.stays("what was told there", Bounds::full, x -> x.steal(0, 0, 9), -5);
        B.stays("what it stole", Bounds::withPapers, x -> x.steal(2, 0, 9), -5);
        B.stays("what it has, from its own locked HOUSE", Bounds::full, x -> x.steal(4, 4, 9), -5);
        T.due("what was stolen from it", Bounds.made(Bounds::withPapers).steal(0, 0, 9), 3);
    }

    private static void stealFromALockedHouse() {
        // 12: -5: it is in a locked HOUSE
        B.stays("from a HOUSE told locked", Bounds::full, x -> x.steal(0, 4, 9), -5);
        B.stays("from one that was locked", x -> {
            Bounds.full(x);
            x.lock(1, 1);
        }, x -> x.steal(0, 1, 9), -5);
        ReceiptLeft x = Bounds.made(Bounds::full);
        T.due("a locked HOUSE steals", x.steal(4, 0, 9), 0);
        T.due("then it is in a locked HOUSE", x.steal(1, 0, 9), -5);
        x.lock(4, 0);
        T.due("till it is no more", x.steal(1, 0, 9), 1);
    }

    private static void nights(ReceiptLeft x, int n) {
        for (int i = 0; i < n; i++) {
            x.night();
        }
    }

    private static void stealForADayNotBehindNow() {
        // 12: -5: the DAY is not behind now
        Bounds.Doing third = x -> {
            Bounds.full(x);
            nights(x, 3);
        };
        B.stays("for DAY 1 on DAY 3", third, x -> x.steal(0, 1, 1), -5);
        B.stays("for DAY 2 on DAY 3", third, x -> x.steal(0, 1, 2), -5);
        B.stays("for DAY 3 on DAY 3", third, x -> x.steal(0, 1, 3), -5);
        T.due("for DAY 4 on DAY 3", Bounds.made(third).steal(0, 1, 4), 0);
        Bounds.Doing last = x -> {
            Bounds.full(x);
            nights(x, 59);
        };
        B.stays("for DAY 59 on DAY 59", last, x -> x.steal(0, 1, 59), -5);
        T.due("for DAY 60 on DAY 59", Bounds.made(last).steal(0, 1, 60), 0);
        B.stays("for DAY 0 on DAY 3: there is none such", third, x -> x.steal(0, 1, 0), -2);
    }

    private static void stealOf24Papers() {
        // 12: -5: there are 24 PAPERS, closed ones too
        ReceiptLeft x = Bounds.made(Bounds::crowded);
        T.due("there are 24", x.count(5), 24);
        x.undo();
        T.due("there are 23", x.count(5), 23);
        T.due("the last one", x.steal(3, 1, 9), 23);
        B.stays("a 25th", Bounds::crowded, y -> y.steal(3, 1, 9), -5);
        B.stays("a 25th, some STRUCK", y -> {
            Bounds.crowded(y);
            y.strike(23);
            y.strike(0);
        }, y -> y.steal(3, 1, 9), -5);
        B.stays("a 25th of none such", Bounds::crowded, y -> y.steal(5, 1, 9), -2);
        ReceiptLeft z = Bounds.made(Bounds::crowded);
        T.due("24 and a sale", z.sell(0, 3), z.price(0));
        T.due("24 and a return", z.brings(23), 1);
        T.due("24 and a strike", z.strike(22), 22);
        T.due("24 and a lock", z.lock(0, 1), 0);
        T.due("24 and a NIGHT", z.night(), 0);
    }

    private static void sellOfNoneSuch() {
        // 13: -2: there are none such
        B.edges("sell(n, 3)", Bounds::withPapers, (x, n) -> x.sell(n, 3), 0, 2, -2);
        B.edges("sell(n, 3) of 24", Bounds::crowded, (x, n) -> x.sell(n, 3), 0, 23, -2);
        B.edges("sell(2, n)", Bounds::withPapers, (x, n) -> x.sell(2, n), 0, 4, -2);
    }

    private static void sellOfClosedOnes() {
        // 13: -5: it is not OPEN
        for (int paper = 0; paper < 4; paper++) {
            int p = paper;
            B.stays("sell a closed one, " + paper, Bounds::hows, x -> x.sell(p, 2), -5);
        }
        T.due("sell an OPEN one", Bounds.made(Bounds::hows).sell(4, 2), 2);
    }

    private static void sellToItsHolder() {
        // 13: -5: it is that HOUSE's
        B.stays("to its first HOLDER", Bounds::withPapers, x -> x.sell(0, 1), -5);
        Bounds.Doing sold = x -> {
            Bounds.withPapers(x);
            x.sell(0, 3);
        };
        B.stays("to whom it was sold", sold, x -> x.sell(0, 3), -5);
        ReceiptLeft x = Bounds.made(sold);
        T.due("back to the first", x.sell(0, 1), 21);
        T.due("to the THIEF", x.sell(0, 0), 21);
    }

    private static void sellForMoreThanItHas() {
        // 13: -5: it is that HOUSE's, which has not so much
        String text = "city eats 0 carry 1 odds 0;house purse 0;house purse 8;house purse 7;house purse 9;thing at 0 worth 8;";
        Bounds.Doing stolen = x -> {
            Bounds.tell(x, text);
            x.steal(1, 0, 9);
        };
        B.stays("to one with one less", stolen, x -> x.sell(0, 2), -5);
        ReceiptLeft x = Bounds.made(stolen);
        T.due("to one with just so much", x.sell(0, 1), 8);
        T.due("its purse", x.house(1, 0), 0);
        T.due("the seller's", x.house(0, 0), 8);
        T.due("to one with one more", x.sell(0, 3), 8);
        T.due("its purse then", x.house(3, 0), 1);
        T.due("the seller's then", x.house(1, 0), 8);
        T.due("all purses are as they were", x.now(3), 24);
        ReceiptLeft free = Checks.told("city eats 50 carry 1 odds 0;house purse 0;house purse 0;thing at 0 worth 1;");
        free.steal(1, 0, 1);
        T.due("for nothing, to one with nothing", free.sell(0, 1), 0);
        T.due("it is his", free.paper(0, 2), 1);
        T.due("the most there is", Bounds.made(y -> {
            Bounds.tell(y, "city eats 0 carry 1 odds 0;house purse 0;house purse 999;thing at 0 worth 999;");
            y.steal(1, 0, 60);
        }).sell(0, 1), 999);
    }

    private static void bringsOfNoneSuch() {
        // 14: -2: there is none such
        B.edges("brings", Bounds::withPapers, (x, n) -> x.brings(n), 0, 2, -2);
        B.edges("brings of 24", Bounds::crowded, (x, n) -> x.brings(n), 0, 23, -2);
    }

    private static void bringsOfClosedOnes() {
        // 14: -5: it is not OPEN
        for (int paper = 0; paper < 4; paper++) {
            int p = paper;
            B.stays("brings a closed one, " + paper, Bounds::hows, x -> x.brings(p), -5);
        }
        B.stays("brings it twice", x -> {
            Bounds.withPapers(x);
            x.brings(2);
        }, x -> x.brings(2), -5);
        T.due("brings an OPEN one", Bounds.made(Bounds::hows).brings(4), 1);
    }

    private static void bringsWhatHeHasNot() {
        // 14: -5: he has it not
        B.stays("it was stolen from him", Bounds::withPapers, x -> x.brings(1), -5);
        ReceiptLeft x = Bounds.made(Bounds::withPapers);
        T.due("he who has it", x.brings(2), 1);
        T.due("he who has it again", x.brings(1), 0);
        T.due("where it is then", x.thing(0, 1), 0);
    }

    private static void bringsToHimself() {
        // 14, II: whose HOUSE that is, also if that is his own; locks are no hindrance
        ReceiptLeft x = Bounds.made(Bounds::withPapers);
        x.sell(0, 0);
        T.due("to himself", x.brings(0), 0);
        T.due("it went no more", x.went(1), 1);
        T.due("RETURNED", x.paper(0, 4), 1);
        x.lock(1, 1);
        T.due("to a locked HOUSE", x.brings(2), 1);
    }

    private static void strikeOfNoneSuch() {
        // 15: -2: there is none such
        B.edges("strike", Bounds::withPapers, (x, n) -> x.strike(n), 0, 2, -2);
        B.edges("strike of 24", Bounds::crowded, (x, n) -> x.strike(n), 0, 23, -2);
    }

    private static void strikeOfClosedOnes() {
        // 15: -5: it is not OPEN
        for (int paper = 0; paper < 4; paper++) {
            int p = paper;
            B.stays("strike a closed one, " + paper, Bounds::hows, x -> x.strike(p), -5);
        }
        T.due("strike the last OPEN one", Bounds.made(Bounds::hows).strike(4), 0);
    }

    private static void strikeHowManyAreOpen() {
        // 15: how many are OPEN then: from 24 to none
        ReceiptLeft x = Bounds.made(Bounds::crowded);
        for (int left = 23; left >= 0; left--) {
            T.due("strike(" + left + ")", x.strike(left), left);
        }
        T.due("none is OPEN", x.now(1), 0);
    }

    private static void lockOfNoneSuch() {
        // 16: -2: there are none such (a HOUSE, 0 or 1)
        B.edges("lock(n, 1)", Bounds::full, (x, n) -> x.lock(n, 1), 0, 4, -2);
        B.edges("lock(0, n)", Bounds::full, (x, n) -> x.lock(0, n), 0, 1, -2);
        B.edges("lock(4, n)", Bounds::full, (x, n) -> x.lock(4, n), 0, 1, -2);
    }

    private static void lockAsItIs() {
        // 16: what it was; one that was so already is an act too
        ReceiptLeft x = Bounds.made(Bounds::full);
        T.due("locked as it was", x.lock(4, 1), 1);
        T.due("unlocked as it was", x.lock(0, 0), 0);
        T.due("both are acts", x.count(6), 2);
        for (int house = 0; house < 5; house++) {
            x.lock(house, 1);
        }
        for (int house = 0; house < 5; house++) {
            T.due("all are locked, " + house, x.house(house, 1), 1);
        }
        T.due("the first alone is not", x.lock(0, 0), 1);
        T.due("the first", x.house(0, 1), 0);
        T.due("the last", x.house(4, 1), 1);
    }

    private static void sixtyActs() {
        // 12 to 17: -5: there were 60 acts
        T.due("there are 60", Bounds.made(Bounds::spent).count(6), 60);
        B.stays("a 61st steal", Bounds::spent, x -> x.steal(0, 3, 60), -5);
        B.stays("a 61st sell", Bounds::spent, x -> x.sell(0, 3), -5);
        B.stays("a 61st brings", Bounds::spent, x -> x.brings(0), -5);
        B.stays("a 61st strike", Bounds::spent, x -> x.strike(0), -5);
        B.stays("a 61st lock", Bounds::spent, x -> x.lock(0, 1), -5);
        B.stays("a 61st NIGHT", Bounds::spent, x -> x.night(), -5);
        Bounds.Doing free = x -> {
            Bounds.spent(x);
            x.undo();
        };
        T.due("a 60th steal", Bounds.made(free).steal(0, 3, 60), 1);
        T.due("a 60th sell", Bounds.made(free).sell(0, 3), 0);
        T.due("a 60th brings", Bounds.made(free).brings(0), 1);
        T.due("a 60th strike", Bounds.made(free).strike(0), 0);
        T.due("a 60th lock", Bounds.made(free).lock(0, 1), 0);
        T.due("a 60th NIGHT", Bounds.made(free).night(), 0);
        ReceiptLeft x = Bounds.made(Bounds::spent);
        T.due("anew()", x.anew(), 60);
        T.due("then there is room", x.night(), 0);
    }

    private static void unknownAheadOfRefused() {
        // I: -2 is asked ahead of -5
        B.stays("steal(5, 3, 60)", Bounds::spent, x -> x.steal(5, 3, 60), -2);
        B.stays("steal(0, 6, 60)", Bounds::spent, x -> x.steal(0, 6, 60), -2);
        B.stays("steal(0, 3, 61)", Bounds::spent, x -> x.steal(0, 3, 61), -2);
        B.stays("steal(0, 0, 0), what it has", Bounds::full, x -> x.steal(0, 0, 0), -2);
        B.stays("steal(0, 4, 61), a locked one", Bounds::full, x -> x.steal(0, 4, 61), -2);
        B.stays("sell(1, 3)", Bounds::spent, x -> x.sell(1, 3), -2);
        B.stays("sell(0, 5)", Bounds::spent, x -> x.sell(0, 5), -2);
        B.stays("sell(3, 5), a closed one", Bounds::hows, x -> x.sell(3, 5), -2);
        B.stays("brings(1)", Bounds::spent, x -> x.brings(1), -2);
        B.stays("strike(1)", Bounds::spent, x -> x.strike(1), -2);
        B.stays("lock(5, 1)", Bounds::spent, x -> x.lock(5, 1), -2);
        B.stays("lock(0, 2)", Bounds::spent, x -> x.lock(0, 2), -2);
    }

    private static void nightOfSixty() {
        // 17: -5: there were 60 acts: 60 NIGHTS are all that can be
        ReceiptLeft x = Bounds.made(Bounds::headAlone);
        for (int i = 0; i < 60; i++) {
            T.due("NIGHT " + i, x.night(), 0);
        }
        T.due("DAY 60", x.now(0), 60);
        B.stays("a 61st NIGHT", y -> {
            Bounds.full(y);
            nights(y, 60);
        }, y -> y.night(), -5);
    }

    private static void nightOfItsDay() {
        // II: it is a DAY later; then each OPEN PAPER of that DAY
        ReceiptLeft x = Bounds.made(Bounds::full);
        x.steal(0, 1, 1);
        x.steal(2, 0, 2);
        x.steal(3, 2, 2);
        x.strike(2);
        x.night();
        T.due("of the first DAY", x.paper(0, 4), 1);
        T.due("of the second, a DAY ahead", x.paper(1, 4), 0);
        x.night();
        T.due("of the second", x.paper(1, 4), 1);
        T.due("one that is STRUCK stays so", x.paper(2, 4), 4);
        T.due("and its THING where it is", x.thing(2, 1), 3);
        ReceiptLeft y = Bounds.made(Bounds::full);
        nights(y, 58);
        T.due("for the last DAY", y.steal(0, 1, 60), 0);
        y.night();
        T.due("it is due in one NIGHT more, which is the 61st act", y.night(), -5);
        T.due("it would be brought", y.later(1, 1), 1);
    }

    private static void nightCarries() {
        // II: and brought fewer than carry this NIGHT: of six just carry are brought
        String body = " odds 0;house purse 0;house purse 0;" + "thing at 0 worth 9;".repeat(6);
        for (int carry = 1; carry <= 6; carry++) {
            ReceiptLeft x = Checks.told("city eats 0 carry " + carry + body);
            for (int thing = 0; thing < 6; thing++) {
                x.steal(1, thing, 1);
            }
            T.due("carry " + carry, x.night(), 6 - carry);
            T.due("the last one brought", x.paper(carry - 1, 4), 1);
            T.due("the next one", carry < 6 ? x.paper(carry, 4) : 3, 3);
            T.due("those brought", x.house(0, 2), (1 << carry) - 1);
        }
        // those to his own HOUSE are among them, those brought by day are not, others' are not
        ReceiptLeft y = Checks.told("city eats 0 carry 1 odds 0;house purse 0;house purse 9;house purse 0;" + "thing at 0 worth 9;".repeat(4));
        y.steal(1, 0, 1);
        y.steal(1, 1, 1);
        y.steal(1, 2, 1);
        y.steal(2, 3, 1);
        y.sell(0, 1);
        y.brings(2);
        T.due("one of two is left over", y.night(), 1);
        T.due("to himself", y.paper(0, 4), 1);
        T.due("left over", y.paper(1, 4), 3);
        T.due("another's", y.paper(3, 4), 1);
    }

    private static void nightPays() {
        // II: else, if his purse has its worth, that goes to the HOLDER's: PAID; else FAILED
        for (int purse = 8; purse <= 10; purse++) {
            ReceiptLeft x = Checks.told("city eats 0 carry 1 odds 0;house purse 0;house purse " + purse + ";house purse 0;thing at 0 worth 9;");
            x.steal(1, 0, 1);
            x.steal(2, 0, 60);
            boolean pays = purse >= 9;
            T.due("NIGHT of a purse of " + purse, x.night(), pays ? 0 : 1);
            T.due("how it is", x.paper(0, 4), pays ? 2 : 3);
            T.due("his purse", x.house(1, 0), pays ? purse - 9 : purse);
            T.due("the HOLDER's", x.house(0, 0), pays ? 9 : 0);
            T.due("the THING stays", x.thing(0, 1), 2);
        }
    }

    private static void nightCountsTheFailed() {
        // 17: how many PAPERS have FAILED in it: none, some, not those of NIGHTS ahead
        ReceiptLeft x = Checks.told("city eats 0 carry 6 odds 0;house purse 0;house purse 0;house purse 0;thing at 0 worth 9;thing at 0 worth 9;");
        x.steal(1, 0, 1);
        x.steal(1, 1, 1);
        x.steal(2, 0, 2);
        x.steal(2, 1, 2);
        x.steal(0, 0, 60);
        T.due("two", x.night(), 2);
        T.due("one", x.night(), 1);
        T.due("none", x.night(), 0);
        T.due("all together", x.now(2), 3);
    }

    private static void undoOfNone() {
        // 18: -5: there is none
        B.stays("undo() of a new CITY", Bounds::full, x -> x.undo(), -5);
        B.stays("undo() behind anew()", x -> {
            Bounds.withPapers(x);
            x.anew();
        }, x -> x.undo(), -5);
        B.stays("undo() behind undo()", x -> {
            Bounds.full(x);
            x.night();
            x.undo();
        }, x -> x.undo(), -5);
    }

    private static void undoOfSixty() {
        // 18: how many there are: from 60 to none
        ReceiptLeft x = Bounds.made(Bounds::spent);
        for (int left = 59; left >= 0; left--) {
            T.due("undo()", x.undo(), left);
        }
        T.due("undo() of none", x.undo(), -5);
        T.due("all as at first", Whole.of(x).equals(Whole.of(Bounds.made(Bounds::full))) ? 1 : 0, 1);
    }

    private static void undoOfEach() {
        // 18: The latest act is taken back, whichever it is
        Bounds.Doing[] acts = {x -> x.steal(3, 2, 4), x -> x.sell(0, 3), x -> x.brings(2), x -> x.strike(1), x -> x.lock(4, 0), x -> x.lock(4, 1),
            x -> x.night()};
        for (int i = 0; i < acts.length; i++) {
            ReceiptLeft x = Bounds.made(Bounds::withPapers);
            acts[i].on(x);
            T.due("act " + i, x.count(6), 4);
            T.due("undo() of act " + i, x.undo(), 3);
            T.due("all as ahead of act " + i, Whole.of(x).equals(Whole.of(Bounds.made(Bounds::withPapers))) ? 1 : 0, 1);
        }
    }

    private static void anewOfAll() {
        // 19: All are: how many there were
        T.due("of none", Bounds.made(Bounds::full).anew(), 0);
        for (Bounds.Doing before : new Bounds.Doing[] {Bounds::withPapers, Bounds::crowded, Bounds::spent}) {
            ReceiptLeft x = Bounds.made(before);
            T.due("of all", x.anew(), Bounds.made(before).count(6));
            T.due("all as at first", Whole.of(x).equals(Whole.of(Bounds.made(Bounds::full))) ? 1 : 0, 1);
            T.due("again", x.anew(), 0);
        }
    }
}
