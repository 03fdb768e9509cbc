/** Promises 1 to 5: a new object, the TAPE, the CITY as a text, its FAULTS. */
public final class TextTest {
    private static final Checks T = new Checks("TextTest");
    private static final String HEAD = "city eats 10 carry 2 odds 50;";
    private static final String HOUSE = "house purse 0;";
    private static final String THING = "thing at 0 worth 1;";

    public static void main(String[] args) {
        newObject();
        tape();
        cities();
        keeps();
        faults();
        bounds();
        T.finish();
    }

    private static void newObject() {
        ReceiptLeft x = new ReceiptLeft();
        T.due("NONE", ReceiptLeft.NONE, -1);
        for (int what = 0; what < 10; what++) {
            T.due("count(" + what + ") of a new one", x.count(what), 0);
        }
        T.due("now(0) of a new one", x.now(0), -2);
        T.due("fault(0) ahead of any", x.fault(0), 0);
        T.due("fault(1) ahead of any", x.fault(1), -1);
        T.due("fault(2) ahead of any", x.fault(2), -1);
    }

    private static void tape() {
        ReceiptLeft x = new ReceiptLeft();
        for (int i = 1; i <= 40; i++) {
            T.due("feed " + i, x.feed(0x20202020, 0x20202020, 0x20202020, 0x20202020, 0x20202020), 20 * i);
        }
        T.due("feed beyond 800", x.feed(0, 0, 0, 0, 0), -1);
        T.due("count(8) at 800", x.count(8), 800);
        T.due("end(801)", x.end(801), -1);
        T.due("end(-1)", x.end(-1), -1);
        T.due("count(8) behind refused ends", x.count(8), 800);
        T.due("end(781)", x.end(781), 781);
        T.due("feed at 781", x.feed(0, 0, 0, 0, 0), -1);
        T.due("end(780)", x.end(780), 780);
        T.due("feed at 780", x.feed(0, 0, 0, 0, 0), 800);
        T.due("end(800)", x.end(800), 800);
        T.due("end(0)", x.end(0), 0);
        T.due("count(8) behind end(0)", x.count(8), 0);
        // "city eats 1 carry 2 odds 3;" by its numbers, the highest byte first
        T.due("feed a", x.feed(0x63697479, 0x20656174, 0x73203120, 0x63617272, 0x79203220), 20);
        T.due("feed b", x.feed(0x6f646473, 0x20333b20, 0x80818283, -1, Integer.MIN_VALUE), 40);
        T.due("end(27)", x.end(27), 27);
        T.due("city of bytes", x.city(), 1);
        T.due("eats", x.count(0), 1);
        T.due("carry", x.count(1), 2);
        T.due("odds", x.count(2), 3);
        T.due("TAPE behind city", x.count(8), 0);
    }

    private static void cities() {
        ReceiptLeft x = Checks.told(HEAD);
        T.due("lines of a head alone", x.count(7), 1);
        T.due("houses of a head alone", x.count(3), 0);
        Checks.put(x, HEAD + HOUSE + THING + "want 0 0 5;");
        T.due("city of four", x.city(), 4);
        T.due("fault(0) of a sound one", x.fault(0), 0);
        T.due("fault(1) of a sound one", x.fault(1), -1);
        T.due("fault(-1)", x.fault(-1), -1);
        Checks.put(x, "city\neats 0\ncarry 6odds 100\n;\n\n house purse9999locked ; ");
        T.due("city, blanks anyhow", x.city(), 2);
        T.due("purse with no blank", x.house(0, 0), 9999);
        T.due("locked with no blank", x.house(0, 1), 1);
        Checks.put(x, "city eats 00050 carry 0001 odds 000;house purse 0000000000000000000007;");
        T.due("city, zeros ahead", x.city(), 2);
        T.due("eats, zeros ahead", x.count(0), 50);
        T.due("purse, zeros ahead", x.house(0, 0), 7);
        Checks.put(x, " \n ");
        T.due("city of blanks", x.city(), 0);
        T.due("then there is none", x.now(0), -2);
        T.due("then no lines", x.count(7), 0);
        Checks.put(x, HEAD + HOUSE + THING + "want 0 0 5;want 0 0 9;");
        T.due("city, wanted again", x.city(), 5);
        T.due("the later want", x.value(0, 0), 10);
        x.lock(0, 0);
        T.due("city of nothing", x.city(), 0);
        for (int what = 0; what < 10; what++) {
            T.due("then count(" + what + ")", x.count(what), 0);
        }
        T.due("then no value", x.value(0, 0), -2);
        T.due("then no thing", x.thing(0, 0), -2);
        Checks.put(x, HEAD + HOUSE + THING);
        x.city();
        T.due("an earlier want is gone", x.value(0, 0), 1);
        Checks.put(x, HEAD + "house purse 0 locked;");
        x.city();
        T.due("an earlier thing is gone", x.count(4), 0);
        Checks.put(x, HEAD + HOUSE);
        x.city();
        T.due("an earlier lock is gone", x.house(0, 1), 0);
    }

    private static void keeps() {
        ReceiptLeft x = Checks.told(HEAD + HOUSE + HOUSE + THING);
        x.steal(1, 0, 4);
        Checks.put(x, HEAD + HOUSE + "house purse x;");
        T.due("a city with a fault", x.city(), -4);
        T.due("lines stay", x.count(7), 4);
        T.due("houses stay", x.count(3), 2);
        T.due("papers stay", x.count(5), 1);
        T.due("acts stay", x.count(6), 1);
        T.due("places stay", x.thing(0, 1), 1);
        T.due("its fault", x.fault(0), 1);
        T.due("its place", x.fault(1), HEAD.length() + HOUSE.length() + 12);
        T.due("the TAPE stays", x.count(8), HEAD.length() + HOUSE.length() + 14);
        T.due("a city with the same fault", x.city(), -4);
        T.due("end(0)", x.end(0), 0);
        Checks.put(x, HEAD + HOUSE);
        T.due("a sound one in its place", x.city(), 2);
        T.due("no TAPE then", x.count(8), 0);
        T.due("no fault then", x.fault(0), 0);
        T.due("no place then", x.fault(1), -1);
        T.due("nothing done", x.count(6), 0);
        T.due("no papers", x.count(5), 0);
        Checks.put(x, HEAD + "house purse");
        T.due("a text that ends too early", x.city(), -4);
        Checks.put(x, " 8;");
        T.due("and goes on", x.city(), 2);
        T.due("its purse", x.house(0, 0), 8);
    }

    private static void fault(String text, int kind, int place) {
        ReceiptLeft x = new ReceiptLeft();
        Checks.put(x, text);
        T.due("city of '" + text + "'", x.city(), -4);
        T.due("fault(0) of '" + text + "'", x.fault(0), kind);
        T.due("fault(1) of '" + text + "'", x.fault(1), place);
        T.due("lines of '" + text + "'", x.count(7), 0);
    }

    private static void faults() {
        int h = HEAD.length();
        fault(";", 1, 0);
        fault("  house purse 1;", 1, 2);
        fault("7", 1, 0);
        fault("City", 1, 0);
        fault("citys eats", 1, 0);
        fault("cityz eats 1", 1, 0);
        fault("acity eats 1", 1, 0);
        fault("bity eats 10 carry 2 odds 50;", 1, 0);
        fault("city`eats 10 carry 2 odds 50;", 1, 4);
        fault("city{eats 10 carry 2 odds 50;", 1, 4);
        fault("city eats 10/carry 2 odds 50;", 1, 12);
        fault("city eats 10:carry 2 odds 50;", 1, 12);
        fault("cit", 1, 0);
        fault("city", 1, 4);
        fault("city  \n", 1, 7);
        fault("city eats 10 carry 2 odds 50", 1, h - 1);
        fault("city eats 10 carry 2 odds 50 ", 1, h);
        fault("city eats 10;", 1, 12);
        fault("city carry 2", 1, 5);
        fault("city eats x", 1, 10);
        fault("city eats 10 carry 2 odds 50 50;", 1, 29);
        fault(HEAD + ";", 1, h);
        fault(HEAD + HEAD, 1, h);
        fault(HEAD + "\t", 1, h);
        fault(HEAD + (char) 200 + HOUSE, 1, h);
        fault(HEAD + (char) 0, 1, h);
        fault(HEAD + "houses purse 0;", 1, h);
        fault(HEAD + "housepurse 0;", 1, h);
        fault(HEAD + "house purse 0 lock;", 1, h + 14);
        fault(HEAD + "house purse 0 locked locked;", 1, h + 21);
        fault(HEAD + "house purse 0 locked", 1, h + 20);
        fault(HEAD + "house purse -1;", 1, h + 12);
        fault(HEAD + "locked", 1, h);
        fault(HEAD + HOUSE + "thing at 0;", 1, h + 24);
        fault(HEAD + HOUSE + "thing 0 worth 1;", 1, h + 20);
        fault(HEAD + HOUSE + THING + "want 0 0;", 1, h + 14 + 19 + 8);
        fault(HEAD + HOUSE + THING + "want 0 0 1 1;", 1, h + 14 + 19 + 11);
        // of one text the first by its place
        fault("city eats 51 carry 9 odds 50; house", 2, 10);
        fault("city eats 51", 2, 10);
        fault("city eats # carry 9", 1, 10);
        fault(HEAD + HOUSE.repeat(6), 3, h + 5 * 14);
        fault(HEAD + HOUSE.repeat(5) + "house nothing", 3, h + 5 * 14);
        fault(HEAD + HOUSE.repeat(5) + "house", 3, h + 5 * 14);
        fault(HEAD + HOUSE + THING.repeat(7), 3, h + 14 + 6 * 19);
        fault(HEAD + HOUSE + THING.repeat(6) + "thing at 9", 3, h + 14 + 6 * 19);
    }

    private static void bounds() {
        int h = HEAD.length();
        fault("city eats 50 carry 0 odds 0;", 2, 19);
        fault("city eats 50 carry 7 odds 0;", 2, 19);
        fault("city eats 50 carry 6 odds 101;", 2, 26);
        fault(HEAD + "house purse 10000;", 2, h + 12);
        fault(HEAD + "house purse 4294967296;", 2, h + 12);
        fault(HEAD + "house purse 18446744073709551617;", 2, h + 12);
        fault(HEAD + THING, 2, h + 9);
        fault(HEAD + HOUSE + "thing at 1 worth 1;", 2, h + 14 + 9);
        fault(HEAD + HOUSE + "thing at 0 worth 0;", 2, h + 14 + 17);
        fault(HEAD + HOUSE + "thing at 0 worth 1000;", 2, h + 14 + 17);
        fault(HEAD + "want 0 0 1;", 2, h + 5);
        fault(HEAD + HOUSE + "want 0 0 1;", 2, h + 14 + 7);
        fault(HEAD + HOUSE + THING + "want 1 0 1;", 2, h + 33 + 5);
        fault(HEAD + HOUSE + THING + "want 0 1 1;", 2, h + 33 + 7);
        fault(HEAD + HOUSE + THING + "want 0 0 0;", 2, h + 33 + 9);
        fault(HEAD + HOUSE + THING + "want 0 0 501;", 2, h + 33 + 9);
        ReceiptLeft x = Checks.told("city eats 50 carry 6 odds 100;" + HOUSE.repeat(5)
            + "thing at 4 worth 999;" + THING.repeat(5) + "want 4 5 500;");
        T.due("lines of a full one", x.count(7), 13);
        T.due("houses of a full one", x.count(3), 5);
        T.due("things of a full one", x.count(4), 6);
        T.due("the most worth", x.thing(0, 0), 999);
        T.due("the most wanted", x.value(4, 5), 501);
    }
}
