/** Promises 12 to 20: steal, sell, brings, strike, lock, night, undo, anew, now. */
public final class ActsTest {
    private static final Checks T = new Checks("ActsTest");
    private static final String HEAD = "city eats 10 carry 1 odds 50;";
    private static final String TEXT = HEAD
        + "house purse 100; house purse 50; house purse 20 locked;"
        + "thing at 0 worth 40; thing at 1 worth 30; thing at 2 worth 7; thing at 1 worth 99;";

    public static void main(String[] args) {
        thefts();
        sales();
        returns();
        strikes();
        locks();
        nights();
        carried();
        ownPapers();
        paperLimit();
        actLimit();
        takenBack();
        nowNumbers();
        T.finish();
    }

    private static void thefts() {
        ReceiptLeft x = Checks.told(TEXT);
        T.due("steal(0, 1, 3)", x.steal(0, 1, 3), 0);
        T.due("steal what it has", x.steal(0, 0, 3), -5);
        T.due("steal what it stole", x.steal(0, 1, 3), -5);
        T.due("steal from a locked house", x.steal(0, 2, 3), -5);
        T.due("steal on day 0", x.steal(0, 3, 0), -2);
        T.due("steal on day 61", x.steal(0, 3, 61), -2);
        T.due("steal(3, 0, 1)", x.steal(3, 0, 1), -2);
        T.due("steal(-1, 0, 1)", x.steal(-1, 0, 1), -2);
        T.due("steal(0, 4, 1)", x.steal(0, 4, 1), -2);
        T.due("steal(0, -1, 1)", x.steal(0, -1, 1), -2);
        T.due("none of these is an act", x.count(6), 1);
        T.due("a locked house steals", x.steal(2, 0, 60), 1);
        T.due("count(6)", x.count(6), 2);
        x.night();
        T.due("steal for today", x.steal(0, 3, 1), -5);
        T.due("steal for tomorrow", x.steal(0, 3, 2), 2);
        T.due("its holder", x.paper(2, 2), 1);
    }

    private static void sales() {
        ReceiptLeft x = Checks.told(TEXT);
        x.steal(0, 3, 1);
        x.steal(0, 1, 2);
        T.due("sell to its holder", x.sell(0, 1), -5);
        T.due("sell to one with too little", x.sell(0, 2), -5);
        T.due("sell(2, 0)", x.sell(2, 0), -2);
        T.due("sell(-1, 0)", x.sell(-1, 0), -2);
        T.due("sell(0, 3)", x.sell(0, 3), -2);
        T.due("sell(0, -1)", x.sell(0, -1), -2);
        T.due("sell to the thief", x.sell(0, 0), 89);
        T.due("the thief's purse", x.house(0, 0), 11);
        T.due("the seller's purse", x.house(1, 0), 139);
        T.due("the holder", x.paper(0, 2), 0);
        T.due("sell for all but 4 (20 - 24)", x.sell(1, 2), -5);
        T.due("and back again", x.sell(0, 1), 89);
        T.due("count(6)", x.count(6), 4);
        x.strike(1);
        T.due("sell a struck one", x.sell(1, 0), -5);
        ReceiptLeft y = Checks.told("city eats 0 carry 1 odds 0;house purse 0;house purse 8;house purse 7;thing at 0 worth 8;");
        y.steal(1, 0, 9);
        T.due("sell to one with one too little", y.sell(0, 2), -5);
        T.due("sell to one with just so much", y.sell(0, 1), 8);
        T.due("who has nothing then", y.house(1, 0), 0);
    }

    private static void returns() {
        ReceiptLeft x = Checks.told(TEXT);
        x.steal(0, 1, 3);
        x.steal(2, 0, 5);
        x.lock(2, 0);
        x.steal(1, 0, 4);
        T.due("brings what he has not", x.brings(1), -5);
        T.due("brings(3)", x.brings(3), -2);
        T.due("brings(-1)", x.brings(-1), -2);
        T.due("brings to a house", x.brings(2), 2);
        T.due("then it is there", x.thing(0, 1), 2);
        T.due("then it is returned", x.paper(2, 4), 1);
        T.due("brings again", x.brings(2), -5);
        T.due("brings the other", x.brings(1), 0);
        x.sell(0, 0);
        int acts = x.count(6);
        T.due("brings it to himself", x.brings(0), 0);
        T.due("then that is returned", x.paper(0, 4), 1);
        T.due("and an act", x.count(6), acts + 1);
        T.due("the thing went nowhere", x.went(1), 1);
    }

    private static void strikes() {
        ReceiptLeft x = Checks.told(TEXT);
        x.steal(0, 1, 3);
        x.steal(0, 3, 3);
        T.due("strike(0)", x.strike(0), 1);
        T.due("paper(0, 4)", x.paper(0, 4), 4);
        T.due("strike(0) again", x.strike(0), -5);
        T.due("strike(2)", x.strike(2), -2);
        T.due("strike(-1)", x.strike(-1), -2);
        T.due("the thing stays", x.thing(1, 1), 0);
        T.due("strike(1)", x.strike(1), 0);
    }

    private static void locks() {
        ReceiptLeft x = Checks.told(TEXT);
        T.due("lock(2, 0)", x.lock(2, 0), 1);
        T.due("lock(2, 0) again", x.lock(2, 0), 0);
        T.due("lock(2, 1)", x.lock(2, 1), 0);
        T.due("house(2, 1)", x.house(2, 1), 1);
        T.due("house(1, 1)", x.house(1, 1), 0);
        T.due("lock(1, 1)", x.lock(1, 1), 0);
        T.due("steal from it", x.steal(0, 1, 9), -5);
        T.due("lock(1, 2)", x.lock(1, 2), -2);
        T.due("lock(1, -1)", x.lock(1, -1), -2);
        T.due("lock(3, 1)", x.lock(3, 1), -2);
        T.due("lock(-1, 1)", x.lock(-1, 1), -2);
        T.due("each is an act", x.count(6), 4);
    }

    private static void nights() {
        // a purse of just the worth pays; one less fails; a thing that is there goes back
        ReceiptLeft x = Checks.told("city eats 0 carry 6 odds 0;house purse 5;house purse 4;house purse 0;"
            + "thing at 2 worth 5;thing at 2 worth 5;thing at 2 worth 9;");
        x.steal(0, 0, 2);
        x.steal(1, 1, 2);
        x.steal(0, 2, 2);
        x.steal(2, 0, 3);
        x.steal(2, 1, 3);
        T.due("night() with nothing due", x.night(), 0);
        T.due("night() with three due", x.night(), 1);
        T.due("paid", x.paper(0, 4), 2);
        T.due("failed", x.paper(1, 4), 3);
        T.due("returned", x.paper(2, 4), 1);
        T.due("the payer", x.house(0, 0), 0);
        T.due("the one that failed keeps his", x.house(1, 0), 4);
        T.due("the holder", x.house(2, 0), 5);
        T.due("where it went", x.thing(2, 1), 2);
        T.due("night() with two more", x.night(), 0);
        T.due("to the first thief", x.thing(0, 1), 0);
        T.due("to the second thief", x.thing(1, 1), 1);
        T.due("open ones", x.now(1), 0);
        T.due("failed ones", x.now(2), 1);
        // by numbers: what 0 is paid lets 1 pay in turn, and not the other way
        ReceiptLeft y = Checks.told("city eats 0 carry 1 odds 0;house purse 0;house purse 9;house purse 0;"
            + "thing at 0 worth 9;thing at 2 worth 9;");
        y.steal(1, 0, 1);
        y.steal(2, 0, 9);
        y.steal(0, 1, 1);
        y.steal(1, 1, 9);
        T.due("night() in turn", y.night(), 0);
        T.due("paid first", y.paper(0, 4), 2);
        T.due("paid on", y.paper(2, 4), 2);
        T.due("at last", y.house(2, 0), 9);
        ReceiptLeft z = Checks.told("city eats 0 carry 1 odds 0;house purse 0;house purse 9;house purse 0;"
            + "thing at 0 worth 9;thing at 2 worth 9;");
        z.steal(0, 1, 1);
        z.steal(1, 1, 9);
        z.steal(1, 0, 1);
        z.steal(2, 0, 9);
        T.due("night() out of turn", z.night(), 1);
        T.due("failed first", z.paper(0, 4), 3);
        T.due("paid behind it", z.paper(2, 4), 2);
        // a thing brought that night lets a later paper of the same night be returned
        ReceiptLeft w = Checks.told("city eats 0 carry 1 odds 0;house purse 0;house purse 0;house purse 0;thing at 0 worth 9;");
        w.steal(1, 0, 1);
        w.steal(2, 0, 1);
        T.due("night(): not there yet", w.night(), 1);
        T.due("the first fails", w.paper(0, 4), 3);
        T.due("the second comes back", w.thing(0, 1), 1);
    }

    private static void carried() {
        String text = " odds 0;house purse 0;house purse 0;thing at 0 worth 9;thing at 0 worth 8;thing at 0 worth 7;";
        ReceiptLeft x = Checks.told("city eats 0 carry 2" + text);
        x.steal(1, 0, 1);
        x.steal(1, 1, 1);
        x.steal(1, 2, 1);
        T.due("night(), two are carried", x.night(), 1);
        T.due("the third fails", x.paper(2, 4), 3);
        T.due("and stays", x.thing(2, 1), 1);
        ReceiptLeft y = Checks.told("city eats 0 carry 1" + text);
        y.steal(1, 0, 1);
        y.steal(1, 1, 2);
        y.steal(1, 2, 2);
        T.due("night() of one", y.night(), 0);
        T.due("night() counts anew", y.night(), 1);
        T.due("the second is carried", y.paper(1, 4), 1);
        ReceiptLeft z = Checks.told("city eats 0 carry 1 odds 0;house purse 0;house purse 0;house purse 0;"
            + "thing at 0 worth 9;thing at 0 worth 8;");
        z.steal(1, 0, 1);
        z.steal(2, 1, 1);
        T.due("night(), each carries his own", z.night(), 0);
        ReceiptLeft w = Checks.told("city eats 0 carry 1" + text);
        w.steal(1, 0, 1);
        w.steal(1, 1, 1);
        w.brings(0);
        T.due("night(), what was brought ahead is not of it", w.night(), 0);
    }

    private static void ownPapers() {
        ReceiptLeft x = Checks.told("city eats 0 carry 6 odds 0;house purse 0;house purse 50;house purse 0;"
            + "thing at 0 worth 9;thing at 0 worth 30;");
        x.steal(1, 0, 1);
        x.sell(0, 1);
        T.due("night(), his own thing and paper", x.night(), 0);
        T.due("it is returned", x.paper(0, 4), 1);
        T.due("it went once", x.went(0), 1);
        x.steal(1, 1, 2);
        x.sell(1, 1);
        x.steal(2, 1, 9);
        T.due("his purse", x.house(1, 0), 11);
        T.due("night(), his own paper, no thing, no purse", x.night(), 1);
        T.due("it fails", x.paper(1, 4), 3);
        ReceiptLeft y = Checks.told("city eats 0 carry 6 odds 0;house purse 0;house purse 60;house purse 0;thing at 0 worth 30;");
        y.steal(1, 0, 1);
        y.sell(0, 1);
        y.steal(2, 0, 9);
        T.due("night(), his own paper, a purse", y.night(), 0);
        T.due("it is paid", y.paper(0, 4), 2);
        T.due("to himself", y.house(1, 0), 30);
    }

    private static void paperLimit() {
        ReceiptLeft x = Checks.told("city eats 0 carry 1 odds 0;house purse 0;house purse 0;thing at 0 worth 9;");
        for (int i = 0; i < 24; i++) {
            T.due("steal " + i, x.steal(1 - i % 2, 0, 60), i);
        }
        T.due("the 25th", x.steal(1, 0, 60), -5);
        x.strike(3);
        T.due("a struck one is a paper too", x.steal(1, 0, 60), -5);
        x.undo();
        x.undo();
        T.due("one taken back leaves room", x.steal(0, 0, 60), 23);
        T.due("went", x.went(0), 24);
        for (int i = 23; i >= 0; i--) {
            T.due("brings " + i, x.brings(i), i % 2);
        }
        T.due("went there and back", x.went(0), 48);
        T.due("the last house of its trail", x.trail(0, 48), 0);
        T.due("one before", x.trail(0, 47), 1);
        T.due("none behind", x.trail(0, 49), -1);
    }

    private static void actLimit() {
        ReceiptLeft x = Checks.told(TEXT);
        x.steal(0, 1, 60);
        for (int i = 0; i < 59; i++) {
            x.lock(2, i % 2);
        }
        T.due("count(6)", x.count(6), 60);
        T.due("a 61st steal", x.steal(0, 3, 60), -5);
        T.due("a 61st sell", x.sell(0, 0), -5);
        T.due("a 61st brings", x.brings(0), -5);
        T.due("a 61st strike", x.strike(0), -5);
        T.due("a 61st lock", x.lock(0, 1), -5);
        T.due("a 61st night", x.night(), -5);
        T.due("-2 is asked ahead: steal", x.steal(9, 3, 60), -2);
        T.due("-2 is asked ahead: sell", x.sell(9, 0), -2);
        T.due("-2 is asked ahead: brings", x.brings(9), -2);
        T.due("-2 is asked ahead: strike", x.strike(9), -2);
        T.due("-2 is asked ahead: lock", x.lock(0, 2), -2);
        T.due("undo()", x.undo(), 59);
        T.due("a 60th night", x.night(), 0);
        ReceiptLeft y = Checks.told(TEXT);
        y.steal(0, 1, 60);
        for (int i = 0; i < 59; i++) {
            T.due("night " + i, y.night(), 0);
        }
        T.due("day", y.now(0), 59);
        T.due("fails(60) at 60 acts", y.fails(60), 0);
        T.due("later(1, 1) at 60 acts", y.later(1, 1), 1);
        T.due("drawn(1, 40, 0) at 60 acts", y.drawn(1, 40, 0) >= 0 ? 1 : 0, 1);
    }

    private static void takenBack() {
        ReceiptLeft x = Checks.told(TEXT);
        T.due("undo() with none", x.undo(), -5);
        T.due("anew() with none", x.anew(), 0);
        x.steal(0, 1, 1);
        x.lock(2, 0);
        x.sell(0, 0);
        x.steal(0, 2, 1);
        x.strike(0);
        x.night();
        T.due("where it went back to", x.thing(2, 1), 2);
        T.due("undo() a night", x.undo(), 5);
        T.due("the day", x.now(0), 0);
        T.due("the thing", x.thing(2, 1), 0);
        T.due("undo() a strike", x.undo(), 4);
        T.due("the paper", x.paper(0, 4), 0);
        T.due("undo() a theft", x.undo(), 3);
        T.due("the papers", x.count(5), 1);
        T.due("its trail", x.went(2), 0);
        T.due("undo() a sale", x.undo(), 2);
        T.due("a purse", x.house(0, 0), 100);
        T.due("the other purse", x.house(1, 0), 50);
        T.due("the holder", x.paper(0, 2), 1);
        T.due("undo() a lock", x.undo(), 1);
        T.due("the lock", x.house(2, 1), 1);
        x.brings(0);
        T.due("undo() a return", x.undo(), 1);
        T.due("the thing is with the thief", x.thing(1, 1), 0);
        x.night();
        x.night();
        T.due("anew()", x.anew(), 3);
        T.due("the day anew", x.now(0), 0);
        T.due("papers anew", x.count(5), 0);
        T.due("acts anew", x.count(6), 0);
        T.due("thing anew", x.thing(1, 1), 1);
        T.due("undo() behind anew", x.undo(), -5);
    }

    private static void nowNumbers() {
        ReceiptLeft x = Checks.told("city eats 0 carry 1 odds 0;house purse 3;house purse 4;"
            + "thing at 0 worth 9;thing at 0 worth 8;thing at 0 worth 7;");
        x.steal(1, 0, 1);
        x.steal(1, 1, 1);
        x.steal(1, 2, 2);
        T.due("now(1)", x.now(1), 0b111);
        T.due("now(3)", x.now(3), 7);
        x.night();
        T.due("now(0)", x.now(0), 1);
        T.due("now(1) behind a night", x.now(1), 0b100);
        T.due("now(2)", x.now(2), 1);
        x.anew();
        x.steal(1, 0, 1);
        x.steal(0, 0, 9);
        x.night();
        T.due("now(2), the first paper", x.now(2), 1);
        T.due("now(4)", x.now(4), -2);
        T.due("now(-1)", x.now(-1), -2);
        ReceiptLeft y = new ReceiptLeft();
        T.due("steal with no city", y.steal(0, 0, 1), -2);
        T.due("sell with no city", y.sell(0, 0), -2);
        T.due("brings with no city", y.brings(0), -2);
        T.due("strike with no city", y.strike(0), -2);
        T.due("lock with no city", y.lock(0, 0), -2);
        T.due("night with no city", y.night(), -2);
        T.due("undo with no city", y.undo(), -2);
        T.due("anew with no city", y.anew(), -2);
        T.due("now with no city", y.now(0), -2);
        ReceiptLeft z = Checks.told(HEAD);
        T.due("night with a head alone", z.night(), 0);
        T.due("undo with a head alone", z.undo(), 0);
        T.due("now(3) with a head alone", z.now(3), 0);
    }
}
