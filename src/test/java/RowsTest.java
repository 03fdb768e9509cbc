/** Promises 50 to 52 and 60 to 62: rows of numbers, and papers told by them. */
public final class RowsTest {
    private static final Checks T = new Checks("RowsTest");
    private static final String TEXT = "city eats 0 carry 1 odds 0;house purse 0;house purse 0;house purse 0;"
        + "thing at 0 worth 40;thing at 1 worth 30;thing at 2 worth 200;";

    public static void main(String[] args) {
        rows();
        writes();
        pastes();
        falseOnes();
        edges();
        T.finish();
    }

    private static void rows() {
        ReceiptLeft x = new ReceiptLeft();
        T.due("row(4, 0, 1)", x.row(4, 0, 1), -2);
        T.due("row(-1, 0, 1)", x.row(-1, 0, 1), -2);
        T.due("row(0, 4, 1)", x.row(0, 4, 1), -2);
        T.due("row(0, -1, 1)", x.row(0, -1, 1), -2);
        T.due("row(0, 0, 61)", x.row(0, 0, 61), -2);
        T.due("row(0, 0, -1)", x.row(0, 0, -1), -3);
        T.due("row(4, 0, -1)", x.row(4, 0, -1), -2);
        T.due("row(0, 4, -1)", x.row(0, 4, -1), -2);
        T.due("count(9) of none", x.count(9), 0);
        T.due("row(0, 0, 60)", x.row(0, 0, 60), 0);
        T.due("row(3, 3, 0)", x.row(3, 3, 0), 0);
        T.due("count(9), an empty one too", x.count(9), 2);
        T.due("row(0, 0, -1) of a filled one", x.row(0, 0, -1), -3);
        T.due("it stays", x.write(0, 59, 1), 0);
        T.due("row(0, 0, 2) in its place", x.row(0, 0, 2), 0);
        T.due("it is shorter", x.write(0, 2, 1), -7);
        T.due("count(9)", x.count(9), 2);
    }

    private static void writes() {
        ReceiptLeft x = new ReceiptLeft();
        T.due("write(4, 0, 1)", x.write(4, 0, 1), -2);
        T.due("write(-1, 0, 1)", x.write(-1, 0, 1), -2);
        T.due("write(0, 0, 1)", x.write(0, 0, 1), -6);
        T.due("write(0, -1, 1) of nothing", x.write(0, -1, 1), -6);
        x.row(0, 2, 3);
        T.due("write(0, 2, 1)", x.write(0, 2, 1), 0);
        T.due("write(0, 3, 1)", x.write(0, 3, 1), -7);
        T.due("write(0, -1, 1)", x.write(0, -1, 1), -7);
        x.row(1, 0, 0);
        T.due("write(1, 0, 1)", x.write(1, 0, 1), -7);
    }

    private static void pastes() {
        ReceiptLeft x = told(new int[][] {{0, 1, 30, 3}, {1, 0, 40, 5}});
        x.steal(0, 1, 3);
        x.steal(1, 0, 5);
        T.due("wrong(0)", x.wrong(0), 0);
        T.due("paste(4, 0, 0, 0, 0)", x.paste(4, 0, 0, 0, 0), -2);
        T.due("paste(0, 0, 4, 0, 0)", x.paste(0, 0, 4, 0, 0), -2);
        T.due("paste(-1, 0, 0, 0, 0)", x.paste(-1, 0, 0, 0, 0), -2);
        T.due("paste(0, 0, -1, 0, 0)", x.paste(0, 0, -1, 0, 0), -2);
        T.due("paste to nothing", x.paste(0, 0, 1, 0, 0), -6);
        T.due("paste of nothing", x.paste(1, 0, 0, 0, 0), -6);
        T.due("paste of nothing to none such", x.paste(1, 0, 4, 0, 0), -2);
        x.row(1, 2, 8);
        T.due("paste of another width", x.paste(0, 0, 1, 0, 4), -8);
        T.due("paste of another width, beyond", x.paste(0, 0, 1, 0, 99), -8);
        x.row(1, 1, 4);
        T.due("paste beyond its row", x.paste(0, 5, 1, 0, 4), -7);
        T.due("paste beyond the other", x.paste(0, 0, 1, 1, 4), -7);
        T.due("paste(0, -1, 1, 0, 1)", x.paste(0, -1, 1, 0, 1), -7);
        T.due("paste(0, 0, 1, -1, 1)", x.paste(0, 0, 1, -1, 1), -7);
        T.due("paste(0, 0, 1, 0, -1)", x.paste(0, 0, 1, 0, -1), -7);
        T.due("paste of far too many", x.paste(0, 1, 1, 0, Integer.MAX_VALUE), -7);
        T.due("paste from far too far", x.paste(0, Integer.MAX_VALUE, 1, 0, 1), -7);
        T.due("paste of none at the end", x.paste(0, 8, 1, 4, 0), 0);
        T.due("nothing happened: day 0", x.wrong(1), -2);
        T.due("paste(0, 4, 1, 0, 4)", x.paste(0, 4, 1, 0, 4), 0);
        T.due("wrong(1)", x.wrong(1), 0);
        // within one row, as they were: 0 1 30 3 1 0 40 5 -> 0 1 30 3 0 1 30 3
        T.due("paste to its own", x.paste(0, 0, 0, 4, 4), 0);
        T.due("forged(0)", x.forged(0), 1);
        ReceiptLeft y = told(new int[][] {{0, 1, 30, 3}, {0, 0, 0, 0}});
        y.steal(0, 1, 3);
        y.steal(1, 0, 5);
        // 0 1 30 3 0 0 0 0 -> 0 0 1 30 3 0 0 0: they overlap
        T.due("paste that overlaps, ahead", y.paste(0, 0, 0, 1, 4), 0);
        T.due("and back", y.paste(0, 1, 0, 0, 4), 0);
        y.write(0, 4, 1);
        y.write(0, 6, 40);
        y.write(0, 7, 5);
        T.due("wrong(0) behind both", y.wrong(0), 0);
    }

    private static ReceiptLeft told(int[][] papers) {
        ReceiptLeft x = Checks.told(TEXT);
        x.row(0, 1, 4 * papers.length);
        for (int i = 0; i < papers.length; i++) {
            for (int j = 0; j < 4; j++) {
                x.write(0, 4 * i + j, papers[i][j]);
            }
        }
        return x;
    }

    private static void falseOnes() {
        ReceiptLeft x = told(new int[][] {{0, 1, 30, 3}, {0, 1, 30, 3}, {2, 0, 41, 3}, {1, 0, 40, 2}, {1, 0, 40, 3}, {2, 1, 31, 3}});
        x.steal(0, 1, 3);
        x.steal(2, 0, 3);
        x.steal(1, 0, 2);
        // the second is of no other paper; the third has a wrong worth; the fifth a wrong day; the sixth is of none
        T.due("wrong(0)", x.wrong(0), 4);
        T.due("forged(0)", x.forged(0), 1);
        T.due("argued(0)", x.argued(0), 1);
        x.write(0, 6, 29);
        T.due("argued(0), whether it stands for another or not", x.argued(0), 2);
        x.strike(0);
        T.due("wrong(0), struck", x.wrong(0), 5);
        T.due("forged(0), struck", x.forged(0), 0);
        T.due("argued(0), struck", x.argued(0), 1);
        ReceiptLeft y = told(new int[][] {{1, 0, 40, 9}, {1, 0, 40, 9}, {1, 0, 40, 9}});
        y.steal(1, 0, 9);
        y.steal(0, 0, 9);
        y.steal(1, 0, 9);
        T.due("wrong(0), two papers alike", y.wrong(0), 1);
        T.due("forged(0), the third", y.forged(0), 2);
        T.due("argued(0), its worth is right", y.argued(0), 0);
        y.undo();
        y.undo();
        T.due("wrong(0), one of them", y.wrong(0), 2);
        ReceiptLeft z = told(new int[][] {{1, 0, 40, 9}});
        z.steal(1, 0, 9);
        T.due("forged(0) of none", z.forged(0), -1);
        T.due("wrong(0) of none", z.wrong(0), 0);
    }

    private static void edges() {
        ReceiptLeft x = Checks.told(TEXT);
        T.due("wrong(0) of nothing", x.wrong(0), -6);
        T.due("forged(0) of nothing", x.forged(0), -6);
        T.due("argued(0) of nothing", x.argued(0), -6);
        T.due("wrong(4)", x.wrong(4), -2);
        T.due("wrong(-1)", x.wrong(-1), -2);
        T.due("forged(4)", x.forged(4), -2);
        T.due("argued(-1)", x.argued(-1), -2);
        x.row(0, 1, 0);
        T.due("wrong(0) of an empty row", x.wrong(0), 0);
        T.due("forged(0) of an empty row", x.forged(0), -1);
        T.due("argued(0) of an empty row", x.argued(0), 0);
        x.row(0, 1, 5);
        x.write(0, 3, 1);
        T.due("wrong(0), not four each", x.wrong(0), -2);
        numbers(0, 2, 3);
        numbers(1, 2, 3);
        numbers(2, 9999, 10000);
        numbers(3, 60, 61);
        x = told(new int[][] {{0, 0, 0, 1}});
        T.due("wrong(0) of least ones", x.wrong(0), 1);
        x.write(0, 3, 0);
        T.due("wrong(0) of day 0", x.wrong(0), -2);
        // cut to its WIDTH, with its sign
        x.row(1, 0, 4);
        x.write(1, 3, 1 + 256);
        T.due("a day cut to a byte", x.wrong(1), 1);
        x.write(1, 2, 128);
        T.due("a worth cut below 0", x.wrong(1), -2);
        x.row(1, 1, 4);
        x.write(1, 3, 1 + 65536 * 7L);
        T.due("a day cut to two bytes", x.wrong(1), 1);
        x.row(1, 2, 4);
        x.write(1, 3, 1 + (5L << 32));
        T.due("a day cut to four bytes", x.wrong(1), 1);
        x.row(1, 3, 4);
        x.write(1, 3, 1 + (5L << 32));
        T.due("a day of eight bytes", x.wrong(1), -2);
        ReceiptLeft y = new ReceiptLeft();
        T.due("wrong(0) with no city, nothing", y.wrong(0), -2);
        y.row(0, 1, 0);
        T.due("wrong(0) with no city", y.wrong(0), -2);
        T.due("forged(0) with no city", y.forged(0), -2);
        T.due("argued(0) with no city", y.argued(0), -2);
    }

    private static void numbers(int field, int most, int beyond) {
        ReceiptLeft x = told(new int[][] {{0, 0, 0, 1}, {0, 0, 0, 1}});
        x.write(0, 4 + field, most);
        T.due("number " + field + " of " + most, x.wrong(0), 2);
        x.write(0, 4 + field, beyond);
        T.due("number " + field + " of " + beyond, x.wrong(0), -2);
        T.due("forged, number " + field + " of " + beyond, x.forged(0), -2);
        T.due("argued, number " + field + " of " + beyond, x.argued(0), -2);
        x.write(0, 4 + field, -1);
        T.due("number " + field + " of -1", x.wrong(0), -2);
    }
}
