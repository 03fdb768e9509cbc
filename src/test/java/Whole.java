import java.util.ArrayList;
import java.util.List;

/** What an object tells of itself by calls that do nothing, so that two can be held against each other. */
final class Whole {
    private final ReceiptLeft x;
    private final List<String> told = new ArrayList<>();

    private Whole(ReceiptLeft x) {
        this.x = x;
    }

    /** All that can be seen: some 150 calls, or 280 with 24 PAPERS. */
    static List<String> of(ReceiptLeft x) {
        Whole whole = new Whole(x);
        whole.counts();
        whole.houses(5);
        whole.things();
        whole.values();
        whole.papers();
        whole.slots();
        return whole.told;
    }

    /** What acts and nights move: some 30 calls. */
    static List<String> brief(ReceiptLeft x) {
        Whole whole = new Whole(x);
        whole.counts();
        whole.houses(2);
        return whole.told;
    }

    private void add(String call, long answer) {
        told.add(call + " = " + answer);
    }

    private void counts() {
        for (int what = 0; what < 10; what++) {
            add("count(" + what + ")", x.count(what));
        }
        for (int what = 0; what < 4; what++) {
            add("now(" + what + ")", x.now(what));
        }
        add("fault(0)", x.fault(0));
        add("fault(1)", x.fault(1));
    }

    private void houses(int whats) {
        for (int house = 0; house < x.count(3); house++) {
            for (int what = 0; what < whats; what++) {
                add("house(" + house + ", " + what + ")", x.house(house, what));
            }
        }
    }

    private void things() {
        for (int thing = 0; thing < x.count(4); thing++) {
            add("thing(" + thing + ", 0)", x.thing(thing, 0));
            add("thing(" + thing + ", 2)", x.thing(thing, 2));
            int went = x.went(thing);
            for (int i = 0; i <= went; i++) {
                add("trail(" + thing + ", " + i + ")", x.trail(thing, i));
            }
        }
    }

    private void values() {
        for (int house = 0; house < x.count(3); house++) {
            for (int thing = 0; thing < x.count(4); thing++) {
                add("value(" + house + ", " + thing + ")", x.value(house, thing));
            }
        }
    }

    private void papers() {
        for (int paper = 0; paper < x.count(5); paper++) {
            for (int what = 0; what < 5; what++) {
                add("paper(" + paper + ", " + what + ")", x.paper(paper, what));
            }
        }
    }

    private void slots() {
        for (int slot = 0; slot < 4; slot++) {
            add("wrong(" + slot + ")", x.wrong(slot));
            add("forged(" + slot + ")", x.forged(slot));
            add("argued(" + slot + ")", x.argued(slot));
        }
    }
}
