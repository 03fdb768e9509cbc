/** Promises 55 to 59: rates and wants, counts, images. */
public final class ImageTest {
    private static final Checks T = new Checks("ImageTest");
    private static final String TEXT = "city eats 10 carry 2 odds 30;house purse 60;house purse 0;house purse 9;"
        + "thing at 0 worth 40;thing at 1 worth 30;want 1 0 5;";

    public static void main(String[] args) {
        rates();
        counts();
        images();
        imagesOfNone();
        T.finish();
    }

    private static void rates() {
        ReceiptLeft x = Checks.told(TEXT);
        T.due("rate(0, 999)", x.rate(0, 999), 40);
        T.due("rate(0, 1)", x.rate(0, 1), 999);
        T.due("thing(0, 0)", x.thing(0, 0), 1);
        T.due("value(1, 0)", x.value(1, 0), 6);
        T.due("rate(0, 0)", x.rate(0, 0), -2);
        T.due("rate(0, 1000)", x.rate(0, 1000), -2);
        T.due("rate(2, 1)", x.rate(2, 1), -2);
        T.due("rate(-1, 1)", x.rate(-1, 1), -2);
        T.due("want(1, 0, 500)", x.want(1, 0, 500), 5);
        T.due("want(1, 0, 0)", x.want(1, 0, 0), 500);
        T.due("want(1, 1, 7)", x.want(1, 1, 7), 0);
        T.due("value(1, 1)", x.value(1, 1), 37);
        T.due("want(1, 0, 501)", x.want(1, 0, 501), -2);
        T.due("want(1, 0, -1)", x.want(1, 0, -1), -2);
        T.due("want(3, 0, 1)", x.want(3, 0, 1), -2);
        T.due("want(-1, 0, 1)", x.want(-1, 0, 1), -2);
        T.due("want(0, 2, 1)", x.want(0, 2, 1), -2);
        T.due("want(0, -1, 1)", x.want(0, -1, 1), -2);
        T.due("they are no acts", x.count(6), 0);
        x.steal(2, 0, 3);
        T.due("rate(0, 5) with an act", x.rate(0, 5), -5);
        T.due("want(0, 0, 5) with an act", x.want(0, 0, 5), -5);
        T.due("rate(0, 0) with an act", x.rate(0, 0), -2);
        T.due("want(0, 0, 501) with an act", x.want(0, 0, 501), -2);
        x.undo();
        T.due("rate(0, 5) with none again", x.rate(0, 5), 1);
        x.night();
        x.anew();
        T.due("want(0, 0, 5) with none again", x.want(0, 0, 5), 0);
        T.due("what was rated stays behind anew", x.thing(0, 0), 5);
    }

    private static void counts() {
        ReceiptLeft x = Checks.told(TEXT);
        x.steal(2, 0, 3);
        x.night();
        x.feed(0, 0, 0, 0, 0);
        x.row(2, 3, 7);
        int[] due = {10, 2, 30, 3, 2, 1, 2, 7, 20, 1};
        for (int what = 0; what < due.length; what++) {
            T.due("count(" + what + ")", x.count(what), due[what]);
        }
        T.due("count(10)", x.count(10), -1);
        T.due("count(-1)", x.count(-1), -1);
    }

    private static void images() {
        ReceiptLeft x = Checks.told(TEXT);
        T.due("image(3)", x.image(3), -2);
        T.due("image(-1)", x.image(-1), -2);
        T.due("back(3)", x.back(3), -2);
        T.due("back(-1)", x.back(-1), -2);
        T.due("back(2) of nothing", x.back(2), -6);
        x.steal(2, 0, 3);
        x.night();
        T.due("image(0)", x.image(0), 0);
        x.steal(2, 1, 3);
        x.lock(1, 1);
        T.due("image(1)", x.image(1), 0);
        x.anew();
        x.rate(0, 77);
        x.want(0, 1, 9);
        T.due("image(2)", x.image(2), 0);
        T.due("back(0)", x.back(0), 0);
        T.due("day of 0", x.now(0), 1);
        T.due("papers of 0", x.count(5), 1);
        T.due("acts of 0", x.count(6), 2);
        T.due("worth of 0", x.thing(0, 0), 40);
        T.due("want of 0", x.value(0, 1), 30);
        T.due("undo() of 0", x.undo(), 1);
        T.due("day of 0 behind undo", x.now(0), 0);
        T.due("back(1)", x.back(1), 0);
        T.due("lock of 1", x.house(1, 1), 1);
        T.due("papers of 1", x.count(5), 2);
        T.due("back(2)", x.back(2), 0);
        x.lock(2, 1);
        x.steal(1, 0, 9);
        T.due("back(2) behind other acts", x.back(2), 0);
        T.due("worth of 2", x.thing(0, 0), 77);
        T.due("want of 2", x.value(0, 1), 39);
        T.due("acts of 2", x.count(6), 0);
        T.due("back(0) once more", x.back(0), 0);
        T.due("acts of 0 once more", x.count(6), 2);
        T.due("thief of 0 once more", x.paper(0, 0), 2);
        T.due("lock of 0 once more", x.house(2, 1), 0);
        Checks.put(x, "city eats 0 carry 1 odds 0;");
        x.city();
        x.feed(0, 0, 0, 0, 0);
        x.row(1, 0, 1);
        T.due("back(1) behind another city", x.back(1), 0);
        T.due("lines of 1", x.count(7), 7);
        T.due("houses of 1", x.count(3), 3);
        T.due("the TAPE is no part of it", x.count(8), 20);
        T.due("nor are SLOTS", x.count(9), 1);
        T.due("an image in place of another", x.image(0), 0);
        x.anew();
        x.back(0);
        T.due("acts of the other", x.count(6), 4);
    }

    private static void imagesOfNone() {
        ReceiptLeft x = new ReceiptLeft();
        T.due("image(0) of none", x.image(0), 0);
        Checks.put(x, TEXT);
        x.city();
        x.night();
        T.due("back(0) to none", x.back(0), 0);
        T.due("there is none", x.now(0), -2);
        T.due("lines of none", x.count(7), 0);
        T.due("acts of none", x.count(6), 0);
        T.due("papers of none", x.count(5), 0);
    }
}
