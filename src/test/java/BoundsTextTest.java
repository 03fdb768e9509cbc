import java.util.List;

/** Boundary cases of Terms I and promises 1 to 5: each sentence by a method of its own. */
public final class BoundsTextTest {
    private static final Checks T = new Checks("BoundsTextTest");
    private static final Bounds B = new Bounds(T);
    private static final String HEAD = Bounds.HEAD;
    private static final String HOUSE = "house purse 0;";
    private static final String THING = "thing at 0 worth 1;";
    private static final int H = HEAD.length();

    public static void main(String[] args) {
        noLine();
        lineEndsWithItsSign();
        cityIsTheFirst();
        cityIsNoOther();
        numbersOfTheCity();
        numbersOfHouses();
        numbersOfThings();
        numbersOfWants();
        toldAheadNotLater();
        laterWantStrikes();
        numberedAsTheyStand();
        lockedOrNot();
        twoBlanksAlone();
        wordsOfLettersAlone();
        numbersOfDigitsAlone();
        theLongestToken();
        everyLetterOfAWord();
        longNumbers();
        sixthHouse();
        seventhThing();
        firstByItsPlace();
        ofOnePlaceTheLeast();
        placeOfTheEnd();
        feedUpTo800();
        feedTakesFourBytesEach();
        endCutsOnly();
        endInsideAToken();
        cityEmptiesTheTape();
        cityInPlaceOfAnother();
        cityOfNothing();
        cityOfFullTape();
        mostLines();
        faultStays();
        faultOfTheLatest();
        faultOfOtherWhats();
        lastOf512Calls();
        T.finish();
    }

    private static void sound(String text, int lines) {
        ReceiptLeft x = new ReceiptLeft();
        Checks.put(x, text);
        T.due("city of '" + text + "'", x.city(), lines);
        T.due("lines of '" + text + "'", x.count(7), lines);
        T.due("fault(0) of '" + text + "'", x.fault(0), 0);
        T.due("fault(1) of '" + text + "'", x.fault(1), -1);
        T.due("the TAPE behind '" + text + "'", x.count(8), 0);
    }

    private static void faulty(String text, int kind, int place) {
        ReceiptLeft x = new ReceiptLeft();
        Checks.put(x, text);
        T.due("city of '" + text + "'", x.city(), -4);
        T.due("fault(0) of '" + text + "'", x.fault(0), kind);
        T.due("fault(1) of '" + text + "'", x.fault(1), place);
        T.due("lines of '" + text + "'", x.count(7), 0);
    }

    /** A number between two texts is sound from least to most, zeros ahead or not, and no wrap-around brings it back. */
    private static void number(String before, int least, int most, String behind, int lines) {
        for (int n : new int[] {least, most}) {
            sound(before + n + behind, lines);
            sound(before + "0000000000000000000000" + n + behind, lines);
        }
        if (least > 0) {
            faulty(before + (least - 1) + behind, 2, before.length());
        }
        faulty(before + (most + 1) + behind, 2, before.length());
        for (String far : new String[] {"999999999", "2147483647", "2147483648", "99999999999999999999999999999999999999"}) {
            faulty(before + far + behind, 2, before.length());
        }
        faulty(before + (4294967296L + most) + behind, 2, before.length());
        faulty(before + "1844674407370955" + (1616 + most) + behind, 2, before.length());
        faulty(before + "-1" + behind, 1, before.length());
        faulty(before + "+" + most + behind, 1, before.length());
        faulty(before + "x" + behind, 1, before.length());
        faulty(before + ";" + behind, 1, before.length());
    }

    private static void noLine() {
        // I: CITY: {LINE ;}: none at all
        sound("", 0);
        sound(" ", 0);
        sound("\n", 0);
        sound(" \n ".repeat(200), 0);
    }

    private static void lineEndsWithItsSign() {
        // I: each LINE has its ; and no ; stands alone
        sound(HEAD, 1);
        sound(HEAD + " \n", 1);
        faulty(HEAD.substring(0, H - 1), 1, H - 1);
        faulty(";", 1, 0);
        faulty(HEAD + ";", 1, H);
        faulty(HEAD + HOUSE + ";", 1, H + 14);
        faulty(HEAD + "house purse 0", 1, H + 13);
        faulty(HEAD + "house purse 0 house purse 0;", 1, H + 14);
        faulty(HEAD + "house purse 0 locked", 1, H + 20);
        faulty(HEAD + HOUSE + "thing at 0 worth 1", 1, H + 14 + 18);
        faulty(HEAD + HOUSE + THING + "want 0 0 1", 1, H + 33 + 10);
        faulty(HEAD.replace(";", ":"), 1, H - 1);
        faulty(HEAD.replace(";", "<"), 1, H - 1);
    }

    private static void cityIsTheFirst() {
        // I: another word ahead of it can't stand there
        for (String word : new String[] {"house", "thing", "want", "locked", "eats", "purse", "at", "cit", "citya", "acity", "ity", "x"}) {
            faulty(word + " purse 0;" + HEAD, 1, 0);
            faulty(" \n" + word, 1, 2);
        }
        faulty("0 " + HEAD, 1, 0);
        faulty("City eats 10 carry 2 odds 50;", 1, 0);
    }

    private static void cityIsNoOther() {
        // I: city behind the first LINE can't stand there
        faulty(HEAD + HEAD, 1, H);
        faulty(HEAD + HOUSE + HEAD, 1, H + 14);
        faulty(HEAD + "city", 1, H);
        faulty(HEAD + "locked;", 1, H);
        faulty(HEAD + "0;", 1, H);
        faulty(HEAD + "houses purse 0;", 1, H);
        faulty(HEAD + "hous purse 0;", 1, H);
    }

    private static void numbersOfTheCity() {
        // I: eats 0 .. 50, carry 1 .. 6, odds 0 .. 100
        number("city eats ", 0, 50, " carry 1 odds 0;", 1);
        number("city eats 50 carry ", 1, 6, " odds 100;", 1);
        number("city eats 0 carry 6 odds ", 0, 100, ";", 1);
        ReceiptLeft x = Checks.told("city eats 50 carry 6 odds 100;");
        T.due("the most eats", x.count(0), 50);
        T.due("the most carry", x.count(1), 6);
        T.due("the most odds", x.count(2), 100);
        ReceiptLeft y = Checks.told("city eats 0 carry 1 odds 0;");
        T.due("the least eats", y.count(0), 0);
        T.due("the least carry", y.count(1), 1);
        T.due("the least odds", y.count(2), 0);
        faulty("city eats carry 1 odds 0;", 1, 10);
        faulty("city carry 1 eats 0 odds 0;", 1, 5);
        faulty("city eats 0 odds 0 carry 1;", 1, 12);
        faulty("city eats 0 carry 1;", 1, 19);
        faulty("city eats 0 carry 1 odds 0 0;", 1, 27);
    }

    private static void numbersOfHouses() {
        // I: purse 0 .. 9,999
        number(HEAD + "house purse ", 0, 9999, ";", 2);
        number(HEAD + "house purse ", 0, 9999, " locked;", 2);
        faulty(HEAD + "house purse 9,999;", 1, H + 13);
        faulty(HEAD + "house 0;", 1, H + 6);
        faulty(HEAD + "house locked purse 0;", 1, H + 6);
        T.due("the most purse", Checks.told(HEAD + "house purse 9999;").house(0, 0), 9999);
        T.due("the least purse", Checks.told(HEAD + "house purse 0;").house(0, 0), 0);
    }

    private static void numbersOfThings() {
        // I: thing: H a HOUSE told ahead, worth 1 .. 999
        number(HEAD + HOUSE + "thing at ", 0, 0, " worth 1;", 3);
        number(HEAD + HOUSE.repeat(5) + "thing at ", 0, 4, " worth 1;", 7);
        number(HEAD + HOUSE + "thing at 0 worth ", 1, 999, ";", 3);
        faulty(HEAD + THING, 2, H + 9);
        T.due("the most worth", Checks.told(HEAD + HOUSE + "thing at 0 worth 999;").thing(0, 0), 999);
        T.due("the least worth", Checks.told(HEAD + HOUSE + "thing at 0 worth 1;").thing(0, 0), 1);
    }

    private static void numbersOfWants() {
        // I: want: H, T a HOUSE, a THING told ahead, N 1 .. 500
        number(HEAD + HOUSE + THING + "want ", 0, 0, " 0 1;", 4);
        number(HEAD + HOUSE.repeat(5) + THING + "want ", 0, 4, " 0 1;", 8);
        number(HEAD + HOUSE + THING + "want 0 ", 0, 0, " 1;", 4);
        number(HEAD + HOUSE + THING.repeat(6) + "want 0 ", 0, 5, " 1;", 9);
        number(HEAD + HOUSE + THING + "want 0 0 ", 1, 500, ";", 4);
        faulty(HEAD + "want 0 0 1;", 2, H + 5);
        faulty(HEAD + HOUSE + "want 0 0 1;", 2, H + 14 + 7);
        T.due("the most wanted", Checks.told(HEAD + HOUSE + THING + "want 0 0 500;").value(0, 0), 501);
        T.due("the least wanted", Checks.told(HEAD + HOUSE + THING + "want 0 0 1;").value(0, 0), 2);
    }

    private static void toldAheadNotLater() {
        // I: a HOUSE, a THING told ahead: one told behind is not yet there
        faulty(HEAD + THING + HOUSE, 2, H + 9);
        faulty(HEAD + HOUSE + "thing at 1 worth 1;" + HOUSE, 2, H + 14 + 9);
        faulty(HEAD + HOUSE + THING + "want 1 0 1;" + HOUSE, 2, H + 33 + 5);
        faulty(HEAD + HOUSE + "want 0 0 1;" + THING, 2, H + 14 + 7);
        faulty(HEAD + HOUSE + THING + "want 0 1 1;" + THING, 2, H + 33 + 7);
        sound(HEAD + HOUSE + THING + HOUSE + "thing at 1 worth 1;want 1 1 1;", 6);
    }

    private static void laterWantStrikes() {
        // I: (a later one of both strikes): of the same HOUSE and THING, of no other
        ReceiptLeft x = Checks.told(HEAD + HOUSE + HOUSE + THING + THING + "want 0 0 9;want 0 1 8;want 1 0 7;want 0 0 500;want 0 0 2;");
        T.due("the last of three", x.value(0, 0), 3);
        T.due("another thing", x.value(0, 1), 9);
        T.due("another house", x.value(1, 0), 8);
        T.due("both others", x.value(1, 1), 1);
        T.due("each is a LINE", x.count(7), 10);
    }

    private static void numberedAsTheyStand() {
        // I: HOUSES 0 .. 4, THINGS 0 .. 5 are numbered as they stand
        ReceiptLeft x = Checks.told(HEAD + "house purse 10;thing at 0 worth 1;house purse 11;thing at 1 worth 2;house purse 12;thing at 0 worth 3;"
            + "house purse 13;thing at 3 worth 4;house purse 14;thing at 4 worth 5;thing at 2 worth 6;");
        for (int house = 0; house < 5; house++) {
            T.due("purse of " + house, x.house(house, 0), 10 + house);
        }
        int[] at = {0, 1, 0, 3, 4, 2};
        for (int thing = 0; thing < 6; thing++) {
            T.due("worth of " + thing, x.thing(thing, 0), 1 + thing);
            T.due("house of " + thing, x.thing(thing, 1), at[thing]);
        }
    }

    private static void lockedOrNot() {
        // I: [locked]: with it or without, once
        ReceiptLeft x = Checks.told(HEAD + "house purse 0 locked;house purse 0;house purse 0 locked;");
        T.due("locked", x.house(0, 1), 1);
        T.due("not locked", x.house(1, 1), 0);
        T.due("locked too", x.house(2, 1), 1);
        faulty(HEAD + "house purse 0 locked locked;", 1, H + 21);
        faulty(HEAD + "house purse 0 lock;", 1, H + 14);
        faulty(HEAD + "house purse 0 lockedx;", 1, H + 14);
        faulty(HEAD + HOUSE + "thing at 0 worth 1 locked;", 1, H + 14 + 19);
    }

    private static void twoBlanksAlone() {
        // I: blanks (32, 10) aside: no other byte is one
        for (int b = 0; b < 256; b++) {
            if (b == 32 || b == 10) {
                sound(HEAD + (char) b, 1);
                sound((char) b + HEAD, 1);
            } else {
                faulty(HEAD + (char) b, 1, H);
                faulty(HEAD + (char) b + HOUSE, 1, H);
            }
        }
    }

    private static void wordsOfLettersAlone() {
        // I: words (a .. z): a letter makes the word another one, any other byte ends it
        for (int b = 0; b < 256; b++) {
            String text = HEAD + "house" + (char) b + "purse 0;";
            if (b == 32 || b == 10) {
                sound(text, 2);
            } else {
                faulty(text, 1, b >= 'a' && b <= 'z' ? H : H + 5);
            }
        }
    }

    private static void numbersOfDigitsAlone() {
        // I: numbers (digits): a digit makes the number another one, any other byte ends it
        for (int b = 0; b < 256; b++) {
            String text = HEAD + "house purse 5" + (char) b + ";";
            if (b == 32 || b == 10 || b >= '0' && b <= '9') {
                sound(text, 2);
            } else {
                faulty(text, 1, b == ';' ? H + 14 : H + 13);
            }
        }
    }

    private static void theLongestToken() {
        // I: TOKENS, the longest
        sound("city eats1carry1odds1;house purse1locked;thing at0worth1;want0 0 1;", 4);
        faulty("cityeats 1 carry 1 odds 1;", 1, 0);
        faulty("city eats 1 carry 1 odds 1;housepurse 0;", 1, 27);
        faulty("city eats 1 0 carry 1 odds 1;", 1, 12);
        faulty(HEAD + HOUSE + THING + "want 00 0;", 1, H + 33 + 9);
    }

    private static void everyLetterOfAWord() {
        // I: a word that is another one by a letter, or shorter or longer by one, can't stand there
        String text = "city eats 1 carry 1 odds 1;house purse 1 locked;thing at 0 worth 1;want 0 0 1;";
        sound(text, 4);
        int word = 0;
        for (int i = 0; i < text.length(); i++) {
            char c = text.charAt(i);
            if (c < 'a' || c > 'z') {
                word = i + 1;
                continue;
            }
            faulty(text.substring(0, i) + "q" + text.substring(i + 1), 1, word);
            faulty(text.substring(0, i) + (char) (c - 32) + text.substring(i + 1), 1, word);
            faulty(text.substring(0, i) + text.substring(i + 1), 1, word);
            faulty(text.substring(0, i) + c + text.substring(i), 1, word);
        }
    }

    private static void longNumbers() {
        // I: a number may have as many digits as the TAPE has room for
        String zeros = "0".repeat(700);
        T.due("seven hundred zeros ahead", Checks.told(HEAD + "house purse " + zeros + "9;").house(0, 0), 9);
        faulty(HEAD + "house purse 1" + zeros + ";", 2, H + 12);
        faulty(HEAD + "house purse " + zeros + "10000;", 2, H + 12);
    }

    private static void sixthHouse() {
        // I: 3 a 6th house, at its word; 5 are sound
        sound(HEAD + HOUSE.repeat(5), 6);
        faulty(HEAD + HOUSE.repeat(6), 3, H + 70);
        faulty(HEAD + HOUSE.repeat(5) + THING + "  house", 3, H + 70 + 19 + 2);
        faulty(HEAD + HOUSE.repeat(5) + "house purse 10000;", 3, H + 70);
        faulty(HEAD + HOUSE.repeat(5) + "house;", 3, H + 70);
    }

    private static void seventhThing() {
        // I: 3 a 7th thing, at its word; 6 are sound
        sound(HEAD + HOUSE + THING.repeat(6), 8);
        faulty(HEAD + HOUSE + THING.repeat(7), 3, H + 14 + 6 * 19);
        faulty(HEAD + HOUSE + THING.repeat(6) + "\nthing", 3, H + 14 + 6 * 19 + 1);
        faulty(HEAD + HOUSE + THING.repeat(6) + "thing at 5 worth 0;", 3, H + 14 + 6 * 19);
        sound(HEAD + HOUSE.repeat(5) + THING.repeat(6), 12);
    }

    private static void firstByItsPlace() {
        // I: FAULTS, the first by its place, whatever its number
        faulty("city eats 51 carry 0 odds 101;;", 2, 10);
        faulty("city eats 51 #", 2, 10);
        faulty("city # eats 51", 1, 5);
        faulty(HEAD + HOUSE.repeat(5) + "house # purse 10000;", 3, H + 70);
        faulty(HEAD + "house purse 10000;" + HOUSE.repeat(5), 2, H + 12);
        faulty(HEAD + HOUSE.repeat(4) + "house purse x;" + HOUSE, 1, H + 4 * 14 + 12);
        faulty(HEAD + HOUSE + "thing at 1 worth 1000;", 2, H + 14 + 9);
        faulty(HEAD + HOUSE + THING + "want 1 1 501;", 2, H + 33 + 5);
        faulty(HEAD + HOUSE + THING + "want 0 1 501;", 2, H + 33 + 7);
    }

    private static void ofOnePlaceTheLeast() {
        // I: of one place the least: a 6th house, a number out of bounds, that can't stand there at all
        faulty(HEAD + HOUSE.repeat(4) + "house purse 0 house purse 0;", 1, H + 5 * 14);
        faulty(HEAD + HOUSE + THING.repeat(5) + "thing at 0 worth 1 thing at 0 worth 1;", 1, H + 14 + 6 * 19);
        faulty(HEAD + "10000;", 1, H);
        faulty("city eats 0 51;", 1, 12);
    }

    private static void placeOfTheEnd() {
        // I: its place (.. the end's): as many bytes as the TAPE has
        faulty("city", 1, 4);
        faulty("city \n ", 1, 7);
        faulty("city eats 10 carry 2 odds 50", 1, 28);
        faulty("city eats 10 carry 2 odds 5" + " ".repeat(773), 1, 800);
        faulty(HEAD + "house", 1, H + 5);
        faulty(HEAD + HOUSE + THING + "want 0 ", 1, H + 33 + 7);
        faulty(HEAD + " ".repeat(799 - H) + "h", 1, 799);
    }

    private static void feedUpTo800() {
        // 2: how many it has; NONE, and none come, if it would have more than 800
        ReceiptLeft x = new ReceiptLeft();
        for (int i = 1; i <= 40; i++) {
            T.due("feed " + i, x.feed(0x20202020, 0x20202020, 0x20202020, 0x20202020, 0x20202020), 20 * i);
        }
        T.due("the 41st feed", x.feed(0, 0, 0, 0, 0), -1);
        T.due("none come", x.count(8), 800);
        T.due("end(799)", x.end(799), 799);
        T.due("feed at 799", x.feed(0, 0, 0, 0, 0), -1);
        T.due("none come at 799", x.count(8), 799);
        T.due("end(781)", x.end(781), 781);
        T.due("feed at 781", x.feed(0, 0, 0, 0, 0), -1);
        T.due("none come at 781", x.count(8), 781);
        T.due("its bytes are as they were: all blanks", x.city(), 0);
        Bounds.Doing most = y -> Checks.put(y, " ".repeat(780));
        T.due("feed at 780", Bounds.made(most).feed(0, 0, 0, 0, 0), 800);
        B.stays("feed of a full one", y -> {
            Bounds.withPapers(y);
            Checks.put(y, HEAD + " ".repeat(781 - H));
        }, y -> y.feed(0, 0, 0, 0, 0), -1);
    }

    private static void feedTakesFourBytesEach() {
        // 2: four of each number, the highest first
        ReceiptLeft x = new ReceiptLeft();
        x.feed(0x63697479, 0x20656174, 0x73203120, 0x63617272, 0x79203220);
        x.feed(0x6f646473, 0x20333b0a, 0x3b202020, 0, -1);
        T.due("city of 40 bytes", x.city(), -4);
        T.due("its place is the sign behind", x.fault(1), 28);
        x.end(28);
        T.due("city of 28 bytes", x.city(), 1);
        int[] place = {0, 1, 2, 3};
        for (int i : place) {
            ReceiptLeft y = new ReceiptLeft();
            y.feed(0x20202020, 0x20202020, 0x20202020, 0x20202020, 0x20202020 ^ 0xFF << 24 - 8 * i);
            T.due("city with one odd byte", y.city(), -4);
            T.due("its place", y.fault(1), 16 + i);
        }
    }

    private static void endCutsOnly() {
        // 3: its first n bytes alone: n; NONE, and nothing happens, if it has not so many, or n is below 0
        Bounds.Doing fed = y -> {
            Bounds.withPapers(y);
            Checks.put(y, HEAD + HOUSE);
        };
        int most = H + 14;
        B.edges("end", fed, (y, n) -> y.end(n), 0, most, -1);
        B.edges("end of an empty one", Bounds::full, (y, n) -> y.end(n), 0, 0, -1);
        ReceiptLeft x = Bounds.made(fed);
        T.due("end of all", x.end(most), most);
        T.due("end of the first LINE", x.end(H), H);
        T.due("more again is not so many", x.end(H + 1), -1);
        T.due("what was cut does not come back", x.feed(0x686f7573, 0x65207075, 0x72736520, 0x373b2020, 0x20202020), H + 20);
        T.due("city of both", x.city(), 2);
        T.due("its purse", x.house(0, 0), 7);
        T.due("end(0)", x.end(0), 0);
        ReceiptLeft full = Bounds.made(y -> Checks.put(y, " ".repeat(800)));
        T.due("end(801) of 800", full.end(801), -1);
        T.due("end(800) of 800", full.end(800), 800);
    }

    private static void endInsideAToken() {
        // 3: what was cut is no part of a TOKEN, a number's or a word's
        ReceiptLeft x = new ReceiptLeft();
        Checks.put(x, "city eats 10 carry 2 odds 55;");
        T.due("end inside the number", x.end(27), 27);
        T.due("city", x.city(), -4);
        T.due("the end's place", x.fault(1), 27);
        Checks.put(x, ";");
        T.due("city of it and a sign", x.city(), 1);
        T.due("the number", x.count(2), 5);
        Checks.put(x, HEAD + "house purse 0 lockedx;");
        x.end(H + 20);
        T.due("city, cut inside a word", x.city(), -4);
        T.due("the end's place behind it", x.fault(1), H + 20);
        Checks.put(x, ";");
        T.due("city of it and its sign", x.city(), 2);
        T.due("the word", x.house(0, 1), 1);
        faulty(HEAD + "house purse " + "0".repeat(800 - H - 12), 1, 800);
        faulty(HEAD + "house purse 0" + " ".repeat(800 - H - 19) + "locked", 1, 800);
    }

    private static void cityEmptiesTheTape() {
        // 4: The TAPE (empty then)
        ReceiptLeft x = new ReceiptLeft();
        Checks.put(x, HEAD + HOUSE);
        T.due("city", x.city(), 2);
        T.due("the TAPE", x.count(8), 0);
        T.due("end(1)", x.end(1), -1);
        T.due("city again is of nothing", x.city(), 0);
    }

    private static void cityInPlaceOfAnother() {
        // 4: (in place of another), nothing done
        ReceiptLeft x = Bounds.made(Bounds::withPapers);
        x.lock(3, 1);
        x.night();
        Bounds.tell(x, Bounds.FULL);
        ReceiptLeft y = Bounds.made(Bounds::full);
        T.due("all as of a new object", Whole.of(x).equals(Whole.of(y)) ? 1 : 0, 1);
        T.due("undo() behind it", x.undo(), -5);
        Bounds.tell(x, Bounds.NO_THINGS);
        T.due("lines", x.count(7), 3);
        T.due("no HOUSE 2 any more", x.house(2, 0), -2);
        T.due("no THING 0 any more", x.thing(0, 0), -2);
        Bounds.tell(x, HEAD + HOUSE + THING + HOUSE);
        T.due("no want of another", x.value(1, 0), 1);
        T.due("no lock of another", x.house(1, 1), 0);
    }

    private static void cityOfNothing() {
        // 4: how many LINES (0: there is none then)
        ReceiptLeft x = Bounds.made(Bounds::withPapers);
        T.due("city of nothing", x.city(), 0);
        for (int what = 0; what < 10; what++) {
            T.due("count(" + what + ") then", x.count(what), 0);
        }
        T.due("now(0) then", x.now(0), -2);
        T.due("house(0, 0) then", x.house(0, 0), -2);
        T.due("thing(0, 0) then", x.thing(0, 0), -2);
        T.due("paper(0, 0) then", x.paper(0, 0), -2);
        T.due("undo() then", x.undo(), -2);
    }

    private static void cityOfFullTape() {
        // 4, 2: a TAPE of 800 bytes is read to its last
        String text = HEAD + " ".repeat(800 - H - 14) + "house purse 6;";
        T.due("so long", text.length(), 800);
        sound(text, 2);
        T.due("its last LINE", Checks.told(text).house(0, 0), 6);
        faulty(text.substring(0, 799), 1, 799);
        faulty(text.substring(0, 799) + "#", 1, 799);
    }

    private static void mostLines() {
        // 4: how many LINES, as many as the TAPE has room for
        String text = HEAD + HOUSE + THING + "want0 0 1;".repeat(73);
        T.due("so long", text.length() <= 800 && text.length() > 790 ? 1 : 0, 1);
        sound(text, 76);
    }

    private static void faultStays() {
        // 4: -4: a FAULT (all stays)
        for (String text : new String[] {"#", HEAD + "house", HEAD + "house purse 10000;", HEAD + HOUSE.repeat(6), HEAD + HOUSE + THING + "want 0 0 9;;"}) {
            Bounds.Doing fed = y -> {
                Bounds.withPapers(y);
                y.row(0, 1, 4);
                y.image(1);
                y.night();
                Checks.put(y, text);
            };
            ReceiptLeft x = Bounds.made(fed);
            ReceiptLeft y = Bounds.made(fed);
            T.due("city of '" + text + "'", x.city(), -4);
            for (int what = 0; what < 2; what++) {
                T.due("there is a fault " + what, x.fault(what) > (what == 0 ? 0 : -1) ? 1 : 0, 1);
            }
            List<String> got = Whole.of(x);
            List<String> want = Whole.of(y);
            got.removeIf(s -> s.startsWith("fault"));
            want.removeIf(s -> s.startsWith("fault"));
            T.due("all stays: " + got + " " + want, got.equals(want) ? 1 : 0, 1);
            T.due("the TAPE stays", x.count(8), text.length());
            T.due("and has the same fault", x.city(), -4);
            T.due("undo() then", x.undo(), 3);
            T.due("back(1) then", x.back(1), 0);
        }
    }

    private static void faultOfTheLatest() {
        // 5: Of the latest city()
        ReceiptLeft x = new ReceiptLeft();
        Checks.put(x, "city eats 51");
        x.city();
        T.due("fault(0) of one", x.fault(0), 2);
        T.due("fault(1) of one", x.fault(1), 10);
        x.end(0);
        Checks.put(x, " #");
        T.due("fault(0) ahead of the next city", x.fault(0), 2);
        x.city();
        T.due("fault(0) of another", x.fault(0), 1);
        T.due("fault(1) of another", x.fault(1), 1);
        x.end(0);
        x.city();
        T.due("fault(0) of none", x.fault(0), 0);
        T.due("fault(1) of none", x.fault(1), -1);
    }

    private static void faultOfOtherWhats() {
        // 5: NONE for another what, and ahead of any (what 1)
        B.edges("fault ahead of any", Bounds::nothing, (x, what) -> x.fault(what), 0, 0, -1);
        T.due("fault(0) ahead of any", new ReceiptLeft().fault(0), 0);
        Bounds.Doing faulty = x -> Bounds.tell(x, "#");
        B.edges("fault of a faulty one", faulty, (x, what) -> x.fault(what), 0, 1, -1);
        T.due("fault(1) at place 0", Bounds.made(faulty).fault(1), 0);
    }

    private static void lastOf512Calls() {
        // What it is: at most 512 calls: the last one answers as the first
        ReceiptLeft x = new ReceiptLeft();
        x.feed(0x63697479, 0x20656174, 0x73203120, 0x63617272, 0x79203220);
        x.feed(0x6f646473, 0x20333b20, 0x20202020, 0x20202020, 0x20202020);
        x.city();
        for (int i = 3; i < 511; i++) {
            T.due("call " + i, x.count(1), 2);
        }
        T.due("call 512", x.night(), 0);
    }
}
