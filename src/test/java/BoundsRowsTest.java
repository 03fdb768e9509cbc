/** Boundary cases of SLOTS (Terms I) and promises 50 to 52 and 60 to 62: each sentence by a method of its own. */
public final class BoundsRowsTest {
    private static final Checks T = new Checks("BoundsRowsTest");
    private static final Bounds B = new Bounds(T);
    /** By WIDTH: how many bits a number has. */
    private static final int[] BITS = {8, 16, 32, 64};

    public static void main(String[] args) {
        rowOfNoneSuch();
        rowBelowNothing();
        rowOf0And60();
        rowAllZeros();
        rowInPlaceOfAnother();
        slotsThatHaveARow();
        writeOfNoneSuch();
        writeOfNothing();
        writeBeyondItsRow();
        writeCutToItsWidth();
        pasteOfNoneSuch();
        pasteOfNothing();
        pasteOfAnotherWidth();
        pasteBeyondARow();
        pasteOfNone();
        pasteOfAll60();
        pasteAsTheyWere();
        pasteOrderOfRefusals();
        wrongOfNoneSuch();
        wrongOfNothing();
        wrongNotFourEach();
        wrongNumbers();
        wrongNumbersOfLessCities();
        wrongAskedLast();
        wrongOfEmptyAndFull();
        wrongEachStandsForOne();
        wrongOfOpenOnesAlone();
        forgedTheFirst();
        arguedOfWorthAlone();
        T.finish();
    }

    /** A SLOT has a row of a WIDTH with these numbers. */
    private static void put(ReceiptLeft x, int slot, int width, long... numbers) {
        x.row(slot, width, numbers.length);
        for (int i = 0; i < numbers.length; i++) {
            x.write(slot, i, numbers[i]);
        }
    }

    /** SLOT 0 tells PAPER 0 of withPapers and one that is false; SLOT 3 is empty. */
    private static void withRows(ReceiptLeft x) {
        Bounds.withPapers(x);
        put(x, 0, 1, 0, 1, 30, 3, 3, 1, 30, 3);
        x.row(3, 2, 0);
    }

    private static void rowOfNoneSuch() {
        // 60: -2: there is no such SLOT or WIDTH (0 .. 3), or n is above 60
        B.edges("row(n, 0, 1)", BoundsRowsTest::withRows, (x, n) -> x.row(n, 0, 1), 0, 3, -2);
        B.edges("row(0, n, 1)", BoundsRowsTest::withRows, (x, n) -> x.row(0, n, 1), 0, 3, -2);
        B.stays("row(0, 0, 61)", BoundsRowsTest::withRows, x -> x.row(0, 0, 61), -2);
        B.stays("row(0, 0, far)", BoundsRowsTest::withRows, x -> x.row(0, 0, Integer.MAX_VALUE), -2);
        T.due("row(0, 0, 60)", Bounds.made(BoundsRowsTest::withRows).row(0, 0, 60), 0);
        T.due("row(0, 3, 60)", Bounds.made(BoundsRowsTest::withRows).row(0, 3, 60), 0);
    }

    private static void rowBelowNothing() {
        // 60: -3, and the SLOT stays: n is below 0
        B.stays("row(0, 0, -1)", BoundsRowsTest::withRows, x -> x.row(0, 0, -1), -3);
        B.stays("row(0, 0, far)", BoundsRowsTest::withRows, x -> x.row(0, 0, Integer.MIN_VALUE), -3);
        B.stays("row(1, 0, -1) of nothing", BoundsRowsTest::withRows, x -> x.row(1, 0, -1), -3);
        B.stays("row(4, 0, -1): no such SLOT", BoundsRowsTest::withRows, x -> x.row(4, 0, -1), -2);
        B.stays("row(0, 4, -1): no such WIDTH", BoundsRowsTest::withRows, x -> x.row(0, 4, -1), -2);
        ReceiptLeft x = Bounds.made(BoundsRowsTest::withRows);
        x.row(0, 3, -1);
        T.due("its WIDTH stays", x.paste(0, 0, 3, 0, 0), -8);
        x.row(3, 1, 0);
        T.due("it is what it was", x.paste(0, 0, 3, 0, 0), 0);
        T.due("its length stays", x.write(0, 7, 3), 0);
        T.due("nothing came to an empty SLOT", x.write(1, 0, 3), -6);
    }

    private static void rowOf0And60() {
        // I: at most 60, or nothing; 60: a row of n numbers
        for (int width = 0; width < 4; width++) {
            ReceiptLeft x = new ReceiptLeft();
            T.due("row(0, " + width + ", 0)", x.row(0, width, 0), 0);
            T.due("it has no number", x.write(0, 0, 1), -7);
            T.due("it is a row", x.count(9), 1);
            T.due("row(0, " + width + ", 1)", x.row(0, width, 1), 0);
            T.due("its only number", x.write(0, 0, 1), 0);
            T.due("none behind", x.write(0, 1, 1), -7);
            T.due("row(0, " + width + ", 60)", x.row(0, width, 60), 0);
            T.due("its last number", x.write(0, 59, 1), 0);
            T.due("none behind it", x.write(0, 60, 1), -7);
        }
    }

    private static void rowAllZeros() {
        // 60: all 0: DAY 0 is none, and THIEF, THING, worth 0 are some
        ReceiptLeft x = Bounds.made(Bounds::full);
        put(x, 0, 1, 4, 5, 9999, 60);
        x.row(0, 1, 4);
        T.due("DAY 0", x.wrong(0), -2);
        x.write(0, 3, 1);
        T.due("all others are 0", x.wrong(0), 1);
        x.steal(2, 0, 9);
        x.row(1, 1, 60);
        for (int i = 3; i < 60; i += 4) {
            x.write(1, i, 1);
        }
        T.due("fifteen of them", x.wrong(1), 15);
    }

    private static void rowInPlaceOfAnother() {
        // 60: (in place of another one)
        ReceiptLeft x = Bounds.made(BoundsRowsTest::withRows);
        T.due("a shorter one", x.row(0, 1, 4), 0);
        T.due("is shorter", x.write(0, 4, 1), -7);
        T.due("and longer again", x.row(0, 1, 8), 0);
        x.write(0, 3, 1);
        T.due("what it had is gone", x.wrong(0), -2);
        x.write(0, 7, 1);
        T.due("all 0 but the DAYS", x.wrong(0), 2);
        T.due("another WIDTH", x.row(0, 2, 4), 0);
        T.due("is that of SLOT 3", x.paste(0, 0, 3, 0, 0), 0);
    }

    private static void slotsThatHaveARow() {
        // 57: 9 SLOTS that have a row: from none to all four, also empty ones
        ReceiptLeft x = new ReceiptLeft();
        for (int slot = 0; slot < 4; slot++) {
            T.due("ahead of SLOT " + slot, x.count(9), slot);
            x.row(slot, slot, slot == 1 ? 0 : 60);
            T.due("behind SLOT " + slot, x.count(9), slot + 1);
            x.row(slot, 0, 0);
            T.due("another one in its place", x.count(9), slot + 1);
        }
    }

    private static void writeOfNoneSuch() {
        // 61: -2: there is no such SLOT
        B.edges("write(n, 0, 1)", BoundsRowsTest::withRows, (x, n) -> x.write(n, 0, 1), 0, 3, -2);
        B.stays("write(4, -1, 1)", BoundsRowsTest::withRows, x -> x.write(4, -1, 1), -2);
    }

    private static void writeOfNothing() {
        // 61: -6: it has nothing
        for (int i : new int[] {Integer.MIN_VALUE, -1, 0, 60, Integer.MAX_VALUE}) {
            B.stays("write(1, " + i + ", 1)", BoundsRowsTest::withRows, x -> x.write(1, i, 1), -6);
        }
        T.due("an empty row is not nothing", Bounds.made(BoundsRowsTest::withRows).write(3, 0, 1), -7);
    }

    private static void writeBeyondItsRow() {
        // 61: -7: there is no such number
        B.edges("write(0, n, 1)", BoundsRowsTest::withRows, (x, n) -> x.write(0, n, 1), 0, 7, -7);
        B.edges("write(0, n, 1) of 60", x -> {
            Bounds.withPapers(x);
            x.row(0, 0, 60);
        }, (x, n) -> x.write(0, n, 1), 0, 59, -7);
        B.never("write(3, n, 1) of an empty row", BoundsRowsTest::withRows, (x, n) -> x.write(3, n, 1), -7);
    }

    /** What wrong tells of one PAPER with this DAY: 1 if there is such a DAY, else -2. */
    private static int ofDay(int width, long day) {
        ReceiptLeft x = Bounds.made(Bounds::full);
        put(x, 2, width, 0, 0, 0, day);
        return x.wrong(2);
    }

    private static void writeCutToItsWidth() {
        // 61: v, cut to its WIDTH (1, 2, 4 or 8 bytes)
        for (int width = 0; width < 4; width++) {
            String name = "WIDTH " + width + ": ";
            T.due(name + "60", ofDay(width, 60), 1);
            T.due(name + "61", ofDay(width, 61), -2);
            T.due(name + "-1", ofDay(width, -1), -2);
            for (int wider = width; wider < 3; wider++) {
                long beyond = 1L << BITS[wider];
                T.due(name + beyond + " is 0", ofDay(width, beyond), -2);
                T.due(name + beyond + " and 1", ofDay(width, beyond + 1), 1);
                T.due(name + beyond + " and 60", ofDay(width, beyond + 60), 1);
                T.due(name + beyond + " and 61", ofDay(width, beyond + 61), -2);
                T.due(name + beyond + " less 1 is -1", ofDay(width, beyond - 1), -2);
                T.due(name + "1 less " + beyond, ofDay(width, 1 - beyond), 1);
            }
            if (width < 3) {
                T.due(name + "half of it and 1 is below 0", ofDay(width, (1L << BITS[width] - 1) + 1), -2);
            }
            for (int lesser = 0; lesser < width; lesser++) {
                T.due(name + "is not cut to " + BITS[lesser] + " bits", ofDay(width, (1L << BITS[lesser]) + 1), -2);
            }
            T.due(name + "the least long and 1", ofDay(width, Long.MIN_VALUE + 1), width == 3 ? -2 : 1);
            T.due(name + "the greatest long", ofDay(width, Long.MAX_VALUE), -2);
        }
        // with its sign: 127 is the greatest of a byte, 128 is below 0; a worth of 9,999 has room in two bytes
        ReceiptLeft x = Bounds.made(Bounds::full);
        put(x, 0, 0, 0, 0, 127, 1);
        T.due("a worth of 127 in a byte", x.wrong(0), 1);
        x.write(0, 2, 128);
        T.due("a worth of 128 in a byte", x.wrong(0), -2);
        x.write(0, 2, 255);
        T.due("a worth of 255 in a byte", x.wrong(0), -2);
        x.write(0, 2, 256);
        T.due("a worth of 256 in a byte is 0", x.wrong(0), 1);
        put(x, 0, 1, 0, 0, 9999, 1);
        T.due("a worth of 9,999 in two bytes", x.wrong(0), 1);
        x.write(0, 2, 65536 + 9999);
        T.due("a worth of 75,535 in two bytes", x.wrong(0), 1);
        put(x, 0, 2, 0, 0, 65536 + 9999, 1);
        T.due("a worth of 75,535 in four bytes", x.wrong(0), -2);
    }

    private static void pasteOfNoneSuch() {
        // 62: -2: there is no such SLOT
        Bounds.Doing all = x -> {
            Bounds.withPapers(x);
            for (int slot = 0; slot < 4; slot++) {
                x.row(slot, 1, 8);
            }
        };
        B.edges("paste(n, 0, 0, 0, 1)", all, (x, n) -> x.paste(n, 0, 0, 0, 1), 0, 3, -2);
        B.edges("paste(0, 0, n, 0, 1)", all, (x, n) -> x.paste(0, 0, n, 0, 1), 0, 3, -2);
    }

    private static void pasteOfNothing() {
        // 62: -6: one has nothing
        B.stays("from nothing", BoundsRowsTest::withRows, x -> x.paste(1, 0, 0, 0, 1), -6);
        B.stays("to nothing", BoundsRowsTest::withRows, x -> x.paste(0, 0, 1, 0, 1), -6);
        B.stays("from nothing to nothing", BoundsRowsTest::withRows, x -> x.paste(1, 0, 2, 0, 0), -6);
        B.stays("from nothing to itself", BoundsRowsTest::withRows, x -> x.paste(1, 0, 1, 0, 0), -6);
    }

    private static void pasteOfAnotherWidth() {
        // 62: -8: they are not of one WIDTH
        for (int width = 0; width < 4; width++) {
            int w = width;
            Bounds.Doing made = x -> {
                withRows(x);
                x.row(1, w, 8);
            };
            if (width == 1) {
                T.due("to the same WIDTH", Bounds.made(made).paste(0, 0, 1, 0, 8), 0);
            } else {
                B.stays("to WIDTH " + width, made, x -> x.paste(0, 0, 1, 0, 8), -8);
                B.stays("from WIDTH " + width, made, x -> x.paste(1, 0, 0, 0, 8), -8);
                B.stays("none to WIDTH " + width, made, x -> x.paste(0, 0, 1, 0, 0), -8);
            }
        }
    }

    private static void pasteBeyondARow() {
        // 62: -7, and nothing happens: some are beyond their rows, or a place or n is below 0
        Bounds.Doing two = x -> {
            withRows(x);
            put(x, 1, 1, 1, 0, 40, 5);
        };
        B.edges("paste(0, n, 1, 0, 4): eight less four", two, (x, n) -> x.paste(0, n, 1, 0, 4), 0, 4, -7);
        B.edges("paste(1, 0, 0, n, 4): eight less four", two, (x, n) -> x.paste(1, 0, 0, n, 4), 0, 4, -7);
        B.edges("paste(0, 0, 1, 0, n): four", two, (x, n) -> x.paste(0, 0, 1, 0, n), 0, 4, -7);
        B.edges("paste(1, 0, 0, 0, n): four", two, (x, n) -> x.paste(1, 0, 0, 0, n), 0, 4, -7);
        B.edges("paste(0, 7, 1, n, 1): the last", two, (x, n) -> x.paste(0, 7, 1, n, 1), 0, 3, -7);
        B.edges("paste(1, n, 0, 7, 1): the last", two, (x, n) -> x.paste(1, n, 0, 7, 1), 0, 3, -7);
        // numbers that together wrap around
        B.stays("from the farthest", two, x -> x.paste(0, Integer.MAX_VALUE, 1, 0, Integer.MAX_VALUE), -7);
        B.stays("to the farthest", two, x -> x.paste(0, 0, 1, Integer.MAX_VALUE, 4), -7);
        B.stays("from below and far", two, x -> x.paste(0, Integer.MIN_VALUE, 1, 0, Integer.MIN_VALUE), -7);
        B.stays("within its own row beyond", two, x -> x.paste(0, 0, 0, 5, 4), -7);
        B.stays("within its own row from beyond", two, x -> x.paste(0, 5, 0, 0, 4), -7);
    }

    private static void pasteOfNone() {
        // 62: 0 numbers: from each place of a row, and from just behind its last
        Bounds.Doing made = BoundsRowsTest::withRows;
        B.edges("paste(0, n, 0, 0, 0)", made, (x, n) -> x.paste(0, n, 0, 0, 0), 0, 8, -7);
        B.edges("paste(0, 0, 0, n, 0)", made, (x, n) -> x.paste(0, 0, 0, n, 0), 0, 8, -7);
        B.edges("paste(3, n, 3, 0, 0) of an empty row", made, (x, n) -> x.paste(3, n, 3, 0, 0), 0, 0, -7);
        B.stays("none happens", made, x -> x.paste(0, 8, 0, 3, 0), 0);
        B.stays("one of an empty row", made, x -> x.paste(3, 0, 3, 0, 1), -7);
    }

    private static void pasteOfAll60() {
        // 62: a row of 60 as a whole, and its last number
        ReceiptLeft x = Bounds.made(Bounds::withPapers);
        x.row(0, 3, 60);
        x.row(1, 3, 60);
        for (int i = 3; i < 60; i += 4) {
            x.write(0, i, 60);
        }
        T.due("SLOT 1 is all 0", x.wrong(1), -2);
        T.due("all 60", x.paste(0, 0, 1, 0, 60), 0);
        T.due("SLOT 1 is as SLOT 0", x.wrong(1), 15);
        x.write(0, 59, 61);
        T.due("the last one", x.paste(0, 59, 1, 59, 1), 0);
        T.due("it came", x.wrong(1), -2);
        T.due("one too many", x.paste(0, 0, 1, 0, 61), -7);
        T.due("one too far", x.paste(0, 0, 1, 1, 60), -7);
    }

    /** No call reads a row but wrong: so each number is told as a DAY, and is the one on which a PAPER like that falls due. */
    private static void rowIs(String name, ReceiptLeft x, long... numbers) {
        for (int i = 0; i < numbers.length; i++) {
            x.row(2, 1, 4);
            x.paste(1, i, 2, 3, 1);
            int day = 0;
            for (int d = 1; d <= 8 && day == 0; d++) {
                x.anew();
                x.steal(1, 0, d);
                x.write(2, 0, 1);
                x.write(2, 2, 40);
                day = x.wrong(2) == 0 ? d : 0;
            }
            T.due(name + ", number " + i, day, numbers[i]);
        }
    }

    private static ReceiptLeft eight() {
        ReceiptLeft x = Bounds.made(Bounds::full);
        put(x, 1, 1, 1, 2, 3, 4, 5, 6, 7, 8);
        return x;
    }

    private static void pasteAsTheyWere() {
        // 62: to another one's (or its own), as they were: also if the places overlap
        ReceiptLeft x = eight();
        T.due("one ahead", x.paste(1, 0, 1, 1, 7), 0);
        rowIs("one ahead", x, 1, 1, 2, 3, 4, 5, 6, 7);
        ReceiptLeft y = eight();
        T.due("one back", y.paste(1, 1, 1, 0, 7), 0);
        rowIs("one back", y, 2, 3, 4, 5, 6, 7, 8, 8);
        ReceiptLeft z = eight();
        T.due("on itself", z.paste(1, 2, 1, 2, 4), 0);
        rowIs("on itself", z, 1, 2, 3, 4, 5, 6, 7, 8);
        ReceiptLeft w = eight();
        T.due("some to the middle", w.paste(1, 0, 1, 3, 2), 0);
        rowIs("some to the middle", w, 1, 2, 3, 1, 2, 6, 7, 8);
        ReceiptLeft v = eight();
        T.due("beyond: nothing happens", v.paste(1, 0, 1, 2, 7), -7);
        rowIs("beyond: nothing happens", v, 1, 2, 3, 4, 5, 6, 7, 8);
        ReceiptLeft u = eight();
        put(u, 0, 1, 8, 7, 6);
        T.due("from another one", u.paste(0, 1, 1, 6, 2), 0);
        rowIs("from another one", u, 1, 2, 3, 4, 5, 6, 7, 6);
    }

    private static void pasteOrderOfRefusals() {
        // I: -2 is asked ahead of -6; 62: then -6, -8, -7
        B.stays("no such SLOT, nothing", BoundsRowsTest::withRows, x -> x.paste(4, -1, 1, 0, 1), -2);
        B.stays("nothing, no such SLOT", BoundsRowsTest::withRows, x -> x.paste(1, 0, -1, 0, -1), -2);
        B.stays("nothing, below 0", BoundsRowsTest::withRows, x -> x.paste(1, -1, 0, -1, -1), -6);
        B.stays("another WIDTH, beyond", BoundsRowsTest::withRows, x -> x.paste(0, 99, 3, 99, 99), -8);
    }

    private static void wrongOfNoneSuch() {
        // 50 to 52: -2: there is no such SLOT, no CITY
        Bounds.Doing rows = x -> {
            withRows(x);
            x.row(1, 0, 0);
            x.row(2, 0, 0);
        };
        B.edges("wrong", rows, (x, n) -> x.wrong(n), 0, 3, -2);
        B.edges("forged", rows, (x, n) -> x.forged(n), 0, 3, -2);
        B.edges("argued", rows, (x, n) -> x.argued(n), 0, 3, -2);
        Bounds.Doing noCity = x -> {
            rows.on(x);
            x.city();
        };
        B.never("wrong with no CITY", noCity, (x, n) -> x.wrong(n), -2);
        B.never("forged with no CITY", noCity, (x, n) -> x.forged(n), -2);
        B.never("argued with no CITY", noCity, (x, n) -> x.argued(n), -2);
    }

    private static void wrongOfNothing() {
        // 50 to 52: -6: it has nothing
        for (int slot = 1; slot < 3; slot++) {
            int s = slot;
            B.stays("wrong(" + slot + ")", BoundsRowsTest::withRows, x -> x.wrong(s), -6);
            B.stays("forged(" + slot + ")", BoundsRowsTest::withRows, x -> x.forged(s), -6);
            B.stays("argued(" + slot + ")", BoundsRowsTest::withRows, x -> x.argued(s), -6);
        }
    }

    private static void wrongNotFourEach() {
        // 50: -2: not four each: of 0 to 60 numbers each fourth length alone
        for (int n = 0; n <= 60; n++) {
            ReceiptLeft x = Bounds.made(Bounds::full);
            x.row(0, 0, n);
            for (int i = 3; i < n; i += 4) {
                x.write(0, i, 1);
            }
            T.due("wrong(0) of " + n + " numbers", x.wrong(0), n % 4 == 0 ? n / 4 : -2);
            T.due("forged(0) of " + n + " numbers", x.forged(0), n % 4 != 0 ? -2 : n == 0 ? -1 : 0);
            T.due("argued(0) of " + n + " numbers", x.argued(0), n % 4 == 0 ? 0 : -2);
        }
    }

    private static void wrongNumbers() {
        // 50: THIEF, THING, worth (0 .. 9,999), DAY (1 .. 60); -2: a number is none such
        int[] least = {0, 0, 0, 1};
        int[] most = {4, 5, 9999, 60};
        for (int told = 0; told < 15; told += 7) {
            for (int field = 0; field < 4; field++) {
                for (int width = 1; width < 4; width++) {
                    numbers(4 * told + field, width, least[field], most[field]);
                }
            }
        }
    }

    private static void numbers(int place, int width, long least, long most) {
        ReceiptLeft x = Bounds.made(Bounds::full);
        x.row(0, width, 60);
        for (int i = 3; i < 60; i += 4) {
            x.write(0, i, 1);
        }
        String name = "number " + place + " of WIDTH " + width + " is ";
        for (long n : new long[] {least, most}) {
            x.write(0, place, n);
            T.due(name + n, x.wrong(0), 15);
        }
        for (long n : new long[] {least - 1, most + 1, Short.MIN_VALUE, Short.MAX_VALUE}) {
            x.write(0, place, n);
            T.due(name + n, x.wrong(0), -2);
            T.due(name + n + ", forged", x.forged(0), -2);
            T.due(name + n + ", argued", x.argued(0), -2);
        }
        if (width == 3) {
            for (long n : new long[] {Long.MIN_VALUE, Long.MAX_VALUE, (1L << 32) + least, Integer.MIN_VALUE}) {
                x.write(0, place, n);
                T.due(name + n, x.wrong(0), -2);
            }
        }
    }

    private static void wrongNumbersOfLessCities() {
        // 50: a THIEF, a THING that the CITY has
        ReceiptLeft x = Checks.told(Bounds.HEAD + "house purse 0;house purse 0;thing at 0 worth 1;");
        put(x, 0, 1, 1, 0, 0, 1);
        T.due("the last HOUSE, the last THING", x.wrong(0), 1);
        x.write(0, 0, 2);
        T.due("a HOUSE that is not", x.wrong(0), -2);
        x.write(0, 0, 0);
        x.write(0, 1, 1);
        T.due("a THING that is not", x.wrong(0), -2);
        Bounds.tell(x, Bounds.NO_THINGS);
        x.write(0, 1, 0);
        T.due("no THINGS", x.wrong(0), -2);
    }

    private static void wrongAskedLast() {
        // 50: a number is none such (asked last): -6 is ahead of it, and so are the SLOT and the CITY
        ReceiptLeft x = Bounds.made(Bounds::full);
        T.due("nothing", x.wrong(0), -6);
        x.row(0, 1, 4);
        T.due("DAY 0", x.wrong(0), -2);
        T.due("another one with nothing", x.wrong(1), -6);
    }

    private static void wrongOfEmptyAndFull() {
        // 50 to 52: rows of 0 and of 60 numbers
        ReceiptLeft x = Bounds.made(Bounds::crowded);
        x.row(0, 1, 0);
        T.due("wrong(0) of no PAPERS told", x.wrong(0), 0);
        T.due("forged(0) of no PAPERS told", x.forged(0), -1);
        T.due("argued(0) of no PAPERS told", x.argued(0), 0);
        x.row(1, 1, 60);
        for (int i = 0; i < 60; i += 4) {
            x.write(1, i, 1);
            x.write(1, i + 2, 40);
            x.write(1, i + 3, 60);
        }
        // twelve PAPERS of HOUSE 1 stand for the first twelve
        T.due("wrong(1) of fifteen", x.wrong(1), 3);
        T.due("forged(1) of fifteen", x.forged(1), 12);
        T.due("argued(1) of fifteen", x.argued(1), 0);
        x.write(1, 58, 41);
        T.due("argued(1), the last", x.argued(1), 1);
        x.write(1, 2, 41);
        T.due("wrong(1), the first and two of the last three", x.wrong(1), 3);
        T.due("forged(1), the first", x.forged(1), 0);
        T.due("argued(1), two", x.argued(1), 2);
    }

    private static void wrongEachStandsForOne() {
        // 50: each PAPER stands for one of them, the first ones first
        ReceiptLeft x = Bounds.made(Bounds::withPapers);
        put(x, 0, 1, 0, 1, 30, 3, 1, 0, 40, 5, 2, 0, 40, 60);
        T.due("all three", x.wrong(0), 0);
        T.due("none is forged", x.forged(0), -1);
        put(x, 0, 1, 0, 1, 30, 3, 0, 1, 30, 3);
        T.due("one told twice", x.wrong(0), 1);
        T.due("the second is", x.forged(0), 1);
        for (int field = 0; field < 4; field++) {
            put(x, 0, 1, 0, 1, 30, 3);
            x.write(0, field, new int[] {3, 2, 31, 4}[field]);
            T.due("number " + field + " is another's", x.wrong(0), 1);
            T.due("it is argued by its worth alone, " + field, x.argued(0), field == 2 ? 1 : 0);
            put(x, 0, 1, 2, 0, 40, 60);
            x.write(0, field, new int[] {1, 5, 39, 59}[field]);
            T.due("number " + field + " is that of one ahead", x.wrong(0), 1);
            T.due("that is argued by its worth alone, " + field, x.argued(0), field == 2 ? 1 : 0);
        }
    }

    private static void wrongOfOpenOnesAlone() {
        // 50: those that are no OPEN PAPER's
        ReceiptLeft x = Bounds.made(Bounds::hows);
        put(x, 0, 1, 0, 0, 5, 1, 0, 1, 5, 1, 0, 2, 9, 1, 2, 3, 1, 9, 2, 4, 2, 9);
        T.due("four closed ones", x.wrong(0), 4);
        T.due("the first of them", x.forged(0), 0);
        T.due("their worth is right", x.argued(0), 0);
        put(x, 0, 1, 2, 3, 8, 9, 2, 4, 8, 9);
        T.due("a wrong worth", x.wrong(0), 2);
        T.due("of an OPEN one alone", x.argued(0), 1);
    }

    private static void forgedTheFirst() {
        // 51: Which of them (from 0) is the first. NONE: none
        for (int bad = 0; bad < 3; bad++) {
            ReceiptLeft x = Bounds.made(Bounds::withPapers);
            put(x, 0, 1, 0, 1, 30, 3, 1, 0, 40, 5, 2, 0, 40, 60);
            x.write(0, 4 * bad + 3, 59);
            T.due("forged(0)", x.forged(0), bad);
            T.due("wrong(0)", x.wrong(0), 1);
        }
    }

    private static void arguedOfWorthAlone() {
        // 52: it is not the THING's, and there is some OPEN PAPER of that THIEF, THING and DAY, whether it stands for another one or not
        ReceiptLeft x = Bounds.made(Bounds::withPapers);
        put(x, 0, 1, 0, 1, 30, 3, 0, 1, 29, 3, 0, 1, 0, 3, 0, 1, 9999, 3, 0, 1, 30, 3, 0, 1, 31, 4);
        T.due("wrong(0): all but the first", x.wrong(0), 5);
        T.due("argued(0): not those of its worth, not that of another DAY", x.argued(0), 3);
        x.strike(0);
        T.due("wrong(0), STRUCK", x.wrong(0), 6);
        T.due("argued(0), STRUCK", x.argued(0), 0);
    }
}
