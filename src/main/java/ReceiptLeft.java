import java.util.Arrays;

/**
 * A city of houses in which every theft leaves a paper with a day of return. The document
 * (DOC.md) says what each call answers; the words in capitals there are the names used here.
 */
public final class ReceiptLeft {
    public static final int NONE = -1;

    private static final int UNKNOWN = -2;
    private static final int NEGATIVE = -3;
    private static final int FAULTY = -4;
    private static final int REFUSED = -5;
    private static final int EMPTY = -6;
    private static final int BEYOND = -7;
    private static final int UNLIKE = -8;
    private static final int NO_NET = -100000;

    private static final int HOUSES = 5;
    private static final int THINGS = 6;
    private static final int PAPERS = 24;
    private static final int ACTS = 60;
    private static final int IMAGES = 3;
    private static final int SLOTS = 4;
    private static final int LAST_DAY = 60;
    private static final int MOST_WORTH = 999;
    private static final int MOST_WANT = 500;
    private static final int MOST_COST = 999;
    private static final int MOST_SEED = 2000000000;
    private static final int MOST_DRAWN = 40;
    private static final int MOST_LUCK = 20;
    private static final int MOST_THEFTS = 4;
    private static final int RETURN_IN = 7;

    private static final int OPEN = 0;
    private static final int RETURNED = 1;
    private static final int PAID = 2;
    private static final int FAILED = 3;
    private static final int STRUCK = 4;

    private static final int STEAL = 0;
    private static final int SELL = 1;
    private static final int BRING = 2;
    private static final int STRIKE = 3;
    private static final int LOCK = 4;
    private static final int NIGHT = 5;

    private final Tape tape = new Tape();
    private final City city = new City();
    private final City draft = new City();
    private final Acts acts = new Acts();
    private final World world = new World(city);
    private final World trial = new World(city);
    private final Titles titles = new Titles();
    private final Deal deal = new Deal();
    private final Dice dice = new Dice();
    private final Audit audit = new Audit();
    private final Image[] images = new Image[IMAGES];
    private final Row[] slots = new Row[SLOTS];

    public ReceiptLeft() {
        for (int k = 0; k < IMAGES; k++) {
            images[k] = new Image();
        }
        for (int slot = 0; slot < SLOTS; slot++) {
            slots[slot] = new Row();
        }
    }

    // ---- the text ----

    public int feed(int a, int b, int c, int d, int e) {
        if (!tape.hasRoom()) {
            return NONE;
        }
        tape.add(a);
        tape.add(b);
        tape.add(c);
        tape.add(d);
        tape.add(e);
        return tape.length;
    }

    public int end(int n) {
        if (n < 0 || n > tape.length) {
            return NONE;
        }
        tape.length = n;
        return n;
    }

    public int city() {
        if (!tape.read(draft)) {
            return FAULTY;
        }
        tape.length = 0;
        city.copyFrom(draft);
        acts.count = 0;
        world.begin();
        return city.lines;
    }

    public int fault(int what) {
        if (what == 0) {
            return tape.faultKind;
        }
        return what == 1 ? tape.faultPlace : NONE;
    }

    // ---- what there is now ----

    public int house(int house, int what) {
        if (!isHouse(house)) {
            return UNKNOWN;
        }
        switch (what) {
            case 0: return world.purses[house];
            case 1: return world.isLocked(house) ? 1 : 0;
            case 2: return world.thingsIn(house);
            case 3: return world.heldBy(house);
            case 4: return world.owedBy(house);
            default: return UNKNOWN;
        }
    }

    public int thing(int thing, int what) {
        if (!isThing(thing)) {
            return UNKNOWN;
        }
        switch (what) {
            case 0: return city.worth[thing];
            case 1: return world.place[thing];
            case 2: return city.at[thing];
            default: return UNKNOWN;
        }
    }

    public int value(int house, int thing) {
        return isHouse(house) && isThing(thing) ? city.valueTo(house, thing) : UNKNOWN;
    }

    public int paper(int paper, int what) {
        if (!isPaper(paper)) {
            return UNKNOWN;
        }
        switch (what) {
            case 0: return world.thief[paper];
            case 1: return world.stolen[paper];
            case 2: return world.holder[paper];
            case 3: return world.dueDay[paper];
            case 4: return world.how[paper];
            default: return UNKNOWN;
        }
    }

    public int price(int paper) {
        if (!isPaper(paper)) {
            return UNKNOWN;
        }
        return world.isOpen(paper) ? world.priceOf(paper) : NONE;
    }

    public int net(int house) {
        return isHouse(house) ? world.netOf(house) : NO_NET;
    }

    // ---- acts ----

    public int steal(int house, int thing, int day) {
        if (!isHouse(house) || !isThing(thing) || day < 1 || day > LAST_DAY) {
            return UNKNOWN;
        }
        if (isFull() || day <= world.day || !world.maySteal(house, thing)) {
            return REFUSED;
        }
        return perform(STEAL, house, thing, day);
    }

    public int sell(int paper, int house) {
        if (!isPaper(paper) || !isHouse(house)) {
            return UNKNOWN;
        }
        if (isFull() || !world.isOpen(paper) || world.holder[paper] == house
                || world.purses[house] < world.priceOf(paper)) {
            return REFUSED;
        }
        return perform(SELL, paper, house, 0);
    }

    public int brings(int paper) {
        if (!isPaper(paper)) {
            return UNKNOWN;
        }
        if (isFull() || !world.isOpen(paper) || !world.thiefHasIt(paper)) {
            return REFUSED;
        }
        return perform(BRING, paper, 0, 0);
    }

    public int strike(int paper) {
        if (!isPaper(paper)) {
            return UNKNOWN;
        }
        if (isFull() || !world.isOpen(paper)) {
            return REFUSED;
        }
        return perform(STRIKE, paper, 0, 0);
    }

    public int lock(int house, int is) {
        if (!isHouse(house) || is < 0 || is > 1) {
            return UNKNOWN;
        }
        return isFull() ? REFUSED : perform(LOCK, house, is, 0);
    }

    public int night() {
        if (!hasCity()) {
            return UNKNOWN;
        }
        return isFull() ? REFUSED : perform(NIGHT, 0, 0, 0);
    }

    public int undo() {
        if (!hasCity()) {
            return UNKNOWN;
        }
        if (acts.count == 0) {
            return REFUSED;
        }
        acts.count--;
        acts.replay(world);
        return acts.count;
    }

    public int anew() {
        if (!hasCity()) {
            return UNKNOWN;
        }
        int were = acts.count;
        acts.count = 0;
        world.begin();
        return were;
    }

    public int now(int what) {
        if (!hasCity()) {
            return UNKNOWN;
        }
        switch (what) {
            case 0: return world.day;
            case 1: return world.openPapers();
            case 2: return world.failedSoFar();
            case 3: return world.allPurses();
            default: return UNKNOWN;
        }
    }

    // ---- whose a thing is ----

    public int owner(int thing) {
        if (!isThing(thing)) {
            return UNKNOWN;
        }
        titles.follow(world, thing);
        return titles.last();
    }

    public int chain(int thing, int i) {
        if (!isThing(thing)) {
            return UNKNOWN;
        }
        titles.follow(world, thing);
        return i >= 0 && i < titles.length ? titles.chain[i] : NONE;
    }

    public int rings() {
        return hasCity() ? thingsOwnedBy(NONE) : UNKNOWN;
    }

    public int owns(int house) {
        return isHouse(house) ? thingsOwnedBy(house) : UNKNOWN;
    }

    public int twice() {
        return hasCity() ? titles.pairs(world) : UNKNOWN;
    }

    public int strikes() {
        return hasCity() ? Integer.bitCount(titles.toStrike(world)) : UNKNOWN;
    }

    public int struck() {
        return hasCity() ? titles.toStrike(world) : UNKNOWN;
    }

    public int trail(int thing, int i) {
        if (!isThing(thing)) {
            return UNKNOWN;
        }
        return i >= 0 && i <= world.moves[thing] ? world.stationOf(thing, i) : NONE;
    }

    public int went(int thing) {
        return isThing(thing) ? world.moves[thing] : UNKNOWN;
    }

    public int lies(int house) {
        return isHouse(house) ? world.inReachOf(house) : UNKNOWN;
    }

    public int poorest() {
        if (!hasCity()) {
            return UNKNOWN;
        }
        int poor = NONE;
        int least = 0;
        for (int house = 0; house < city.houses; house++) {
            int has = world.netOf(house);
            if (poor == NONE || has < least) {
                poor = house;
                least = has;
            }
        }
        return poor;
    }

    // ---- what falls due ----

    public int due(int day) {
        if (!hasCity() || day < 0 || day > LAST_DAY) {
            return UNKNOWN;
        }
        return world.dueOn(day);
    }

    public int monday() {
        if (!hasCity()) {
            return UNKNOWN;
        }
        int monday = NONE;
        int most = 0;
        for (int day = 0; day <= LAST_DAY; day++) {
            int fall = Integer.bitCount(world.dueOn(day));
            if (fall > most) {
                most = fall;
                monday = day;
            }
        }
        return monday;
    }

    public int lacks(int house) {
        return isHouse(house) ? world.owedWithoutThing(house) : UNKNOWN;
    }

    public int needs(int house) {
        if (!isHouse(house)) {
            return UNKNOWN;
        }
        trial.copyFrom(world);
        return trial.leastPurse(house, LAST_DAY);
    }

    public int fails(int n) {
        return hasCity() && isSpan(n) ? tryNights(n) : UNKNOWN;
    }

    public int later(int thing, int n) {
        if (!isThing(thing) || !isSpan(n)) {
            return UNKNOWN;
        }
        tryNights(n);
        return trial.place[thing];
    }

    public int purse(int house, int n) {
        if (!isHouse(house) || !isSpan(n)) {
            return UNKNOWN;
        }
        tryNights(n);
        return trial.purses[house];
    }

    public int run() {
        if (!hasCity()) {
            return UNKNOWN;
        }
        trial.copyFrom(world);
        trial.callAllIn();
        return trial.thievesOf(trial.passNight());
    }

    public int hit(int house) {
        if (!isHouse(house)) {
            return UNKNOWN;
        }
        int other = hardestHitBy(house);
        return other == NONE ? 0 : world.owedTo(other, house);
    }

    public int hits(int house) {
        return isHouse(house) ? hardestHitBy(house) : UNKNOWN;
    }

    // ---- what to do ----

    public int plan(int house, int n) {
        if (!isHouse(house) || n < 1 || n > MOST_THEFTS) {
            return UNKNOWN;
        }
        int more = 0;
        for (int i = 0; i < n; i++) {
            int thing = wishOf(house, i);
            more += thing == NONE ? 0 : city.moreTo(house, thing);
        }
        return more;
    }

    public int plans(int house, int n, int i) {
        if (!isHouse(house) || n < 1 || n > MOST_THEFTS) {
            return UNKNOWN;
        }
        return i >= 0 && i < n ? wishOf(house, i) : NONE;
    }

    public int change(int house, int other) {
        if (!isHouse(house) || !isHouse(other) || house == other) {
            return UNKNOWN;
        }
        for (int given = 0; given < city.things; given++) {
            for (int taken = 0; taken < city.things; taken++) {
                if (world.place[given] == house && world.place[taken] == other
                        && city.valueTo(house, taken) > city.valueTo(house, given)
                        && city.valueTo(other, given) > city.valueTo(other, taken)) {
                    return 10 * given + taken;
                }
            }
        }
        return NONE;
    }

    public int deal() {
        return hasCity() ? deal.greatest(city) : UNKNOWN;
    }

    public int deals(int thing) {
        return isThing(thing) ? deal.houseOf(city, thing) : UNKNOWN;
    }

    public int rests(int cost) {
        if (!hasCity() || !isCost(cost)) {
            return UNKNOWN;
        }
        int sets = 0;
        for (int set = 0; set < 1 << city.houses; set++) {
            sets += isAtRest(set, cost) ? 1 : 0;
        }
        return sets;
    }

    public int rest(int cost) {
        if (!hasCity() || !isCost(cost)) {
            return UNKNOWN;
        }
        for (int set = 0; set < 1 << city.houses; set++) {
            if (isAtRest(set, cost)) {
                return set;
            }
        }
        return NONE;
    }

    public int dear() {
        if (!hasCity()) {
            return UNKNOWN;
        }
        // All locked are at REST as long as none would rather lose its THING than pay.
        int dearest = MOST_COST;
        for (int house = 0; house < city.houses; house++) {
            dearest = Math.min(dearest, world.lossOf(house));
        }
        return dearest;
    }

    // ---- false papers ----

    public int wrong(int slot) {
        int refusal = look(slot);
        return refusal == 0 ? audit.wrong : refusal;
    }

    public int forged(int slot) {
        int refusal = look(slot);
        return refusal == 0 ? audit.first : refusal;
    }

    public int argued(int slot) {
        int refusal = look(slot);
        return refusal == 0 ? audit.argued : refusal;
    }

    // ---- nights drawn ----

    public int drawn(int seed, int n, int what) {
        if (!hasCity() || !isDrawable(seed, n) || what < 0 || what > 2) {
            return UNKNOWN;
        }
        int failed = drawNights(seed, n);
        if (what == 0) {
            return failed;
        }
        if (what == 1) {
            return trial.papers;
        }
        return city.houses > 0 ? trial.purses[0] : NONE;
    }

    public int luck(int seed, int m, int n, int thing, int house) {
        if (!isThing(thing) || !isHouse(house) || !isDrawable(seed, n) || m < 1 || m > MOST_LUCK) {
            return UNKNOWN;
        }
        int lucky = 0;
        for (int i = 0; i < m; i++) {
            drawNights(seed + i, n);
            lucky += trial.place[thing] == house ? 1 : 0;
        }
        return lucky;
    }

    // ---- the city told otherwise ----

    public int rate(int thing, int n) {
        if (!isThing(thing) || n < 1 || n > MOST_WORTH) {
            return UNKNOWN;
        }
        if (acts.count > 0) {
            return REFUSED;
        }
        int was = city.worth[thing];
        city.worth[thing] = n;
        return was;
    }

    public int want(int house, int thing, int n) {
        if (!isHouse(house) || !isThing(thing) || n < 0 || n > MOST_WANT) {
            return UNKNOWN;
        }
        if (acts.count > 0) {
            return REFUSED;
        }
        int was = city.moreTo(house, thing);
        city.setMore(house, thing, n);
        return was;
    }

    public int count(int what) {
        switch (what) {
            case 0: return city.eats;
            case 1: return city.carry;
            case 2: return city.odds;
            case 3: return city.houses;
            case 4: return city.things;
            case 5: return world.papers;
            case 6: return acts.count;
            case 7: return city.lines;
            case 8: return tape.length;
            case 9: return filledSlots();
            default: return NONE;
        }
    }

    public int image(int k) {
        if (k < 0 || k >= IMAGES) {
            return UNKNOWN;
        }
        Image image = images[k];
        image.kept = true;
        image.city.copyFrom(city);
        image.acts.copyFrom(acts);
        return 0;
    }

    public int back(int k) {
        if (k < 0 || k >= IMAGES) {
            return UNKNOWN;
        }
        Image image = images[k];
        if (!image.kept) {
            return EMPTY;
        }
        city.copyFrom(image.city);
        acts.copyFrom(image.acts);
        acts.replay(world);
        return 0;
    }

    // ---- rows ----

    public int row(int slot, int width, int n) {
        if (!isSlot(slot) || width < 0 || width > 3 || n > Row.MOST) {
            return UNKNOWN;
        }
        if (n < 0) {
            return NEGATIVE;
        }
        slots[slot].begin(width, n);
        return 0;
    }

    public int write(int slot, int i, long v) {
        if (!isSlot(slot)) {
            return UNKNOWN;
        }
        Row row = slots[slot];
        if (!row.isThere()) {
            return EMPTY;
        }
        if (i < 0 || i >= row.length) {
            return BEYOND;
        }
        row.put(i, v);
        return 0;
    }

    public int paste(int slot, int i, int to, int k, int n) {
        if (!isSlot(slot) || !isSlot(to)) {
            return UNKNOWN;
        }
        Row from = slots[slot];
        Row into = slots[to];
        if (!from.isThere() || !into.isThere()) {
            return EMPTY;
        }
        if (from.width != into.width) {
            return UNLIKE;
        }
        if (!from.spans(i, n) || !into.spans(k, n)) {
            return BEYOND;
        }
        System.arraycopy(from.numbers, i, into.numbers, k, n);
        return 0;
    }

    // ---- what is asked of arguments ----

    private boolean hasCity() {
        return city.lines > 0;
    }

    private boolean isHouse(int house) {
        return house >= 0 && house < city.houses;
    }

    private boolean isThing(int thing) {
        return thing >= 0 && thing < city.things;
    }

    private boolean isPaper(int paper) {
        return paper >= 0 && paper < world.papers;
    }

    private boolean isFull() {
        return acts.count >= ACTS;
    }

    private static boolean isSlot(int slot) {
        return slot >= 0 && slot < SLOTS;
    }

    private static boolean isSpan(int nights) {
        return nights >= 0 && nights <= LAST_DAY;
    }

    private static boolean isCost(int cost) {
        return cost >= 0 && cost <= MOST_COST;
    }

    private static boolean isDrawable(int seed, int nights) {
        return seed >= 0 && seed <= MOST_SEED && nights >= 0 && nights <= MOST_DRAWN;
    }

    // ---- what several calls use ----

    private int perform(int kind, int a, int b, int c) {
        acts.add(kind, a, b, c);
        return world.act(kind, a, b, c);
    }

    private int thingsOwnedBy(int house) {
        int bits = 0;
        for (int thing = 0; thing < city.things; thing++) {
            titles.follow(world, thing);
            if (titles.last() == house) {
                bits |= 1 << thing;
            }
        }
        return bits;
    }

    private int tryNights(int n) {
        trial.copyFrom(world);
        int failed = 0;
        for (int i = 0; i < n; i++) {
            failed |= trial.passNight();
        }
        return failed;
    }

    private int hardestHitBy(int house) {
        int most = 0;
        int which = NONE;
        for (int other = 0; other < city.houses; other++) {
            int owed = world.owedTo(other, house);
            if (owed > most) {
                most = owed;
                which = other;
            }
        }
        return which;
    }

    /** A theft adds VALUE and owes the worth, so NET grows by what the HOUSE wants the THING more. */
    private int wishOf(int house, int i) {
        int left = world.inReachOf(house);
        int wish = NONE;
        for (int turn = 0; turn <= i && turn < MOST_THEFTS; turn++) {
            wish = mostWanted(house, left);
            if (wish == NONE) {
                return NONE;
            }
            left &= ~(1 << wish);
        }
        return wish;
    }

    private int mostWanted(int house, int among) {
        int wanted = NONE;
        int most = 0;
        for (int thing = 0; thing < city.things; thing++) {
            int more = city.moreTo(house, thing);
            if ((among >> thing & 1) != 0 && more > most) {
                most = more;
                wanted = thing;
            }
        }
        return wanted;
    }

    /** What a HOUSE gains by the others' locks is the same by both its choices, so only its loss counts. */
    private boolean isAtRest(int set, int cost) {
        for (int house = 0; house < city.houses; house++) {
            int loss = world.lossOf(house);
            boolean locked = (set >> house & 1) != 0;
            if (locked ? loss < cost : cost < loss) {
                return false;
            }
        }
        return true;
    }

    private int look(int slot) {
        if (!isSlot(slot) || !hasCity()) {
            return UNKNOWN;
        }
        Row row = slots[slot];
        if (!row.isThere()) {
            return EMPTY;
        }
        if (!audit.isSound(row, city)) {
            return UNKNOWN;
        }
        audit.compare(row, world);
        return 0;
    }

    private int drawNights(int seed, int n) {
        trial.copyFrom(world);
        dice.begin(seed);
        int failed = 0;
        for (int i = 0; i < n; i++) {
            for (int house = 0; house < city.houses; house++) {
                drawTheft(house);
            }
            failed += Integer.bitCount(trial.passNight());
        }
        return failed;
    }

    private void drawTheft(int house) {
        boolean dares = dice.draw(100) < city.odds;
        if (!dares || city.things == 0) {
            return;
        }
        int thing = dice.draw(city.things);
        if (trial.maySteal(house, thing)) {
            trial.take(house, thing, trial.day + RETURN_IN);
        }
    }

    private int filledSlots() {
        int filled = 0;
        for (int slot = 0; slot < SLOTS; slot++) {
            filled += slots[slot].isThere() ? 1 : 0;
        }
        return filled;
    }

    /** The CITY as it is told, with what rate and want changed; nothing of what was done in it. */
    private static final class City {
        int lines;
        int eats;
        int carry;
        int odds;
        int houses;
        int things;
        int locked;
        final int[] purse = new int[HOUSES];
        final int[] at = new int[THINGS];
        final int[] worth = new int[THINGS];
        final int[] more = new int[HOUSES * THINGS];

        void clear() {
            lines = 0;
            eats = 0;
            carry = 0;
            odds = 0;
            houses = 0;
            things = 0;
            locked = 0;
            Arrays.fill(more, 0);
        }

        void copyFrom(City other) {
            lines = other.lines;
            eats = other.eats;
            carry = other.carry;
            odds = other.odds;
            houses = other.houses;
            things = other.things;
            locked = other.locked;
            System.arraycopy(other.purse, 0, purse, 0, HOUSES);
            System.arraycopy(other.at, 0, at, 0, THINGS);
            System.arraycopy(other.worth, 0, worth, 0, THINGS);
            System.arraycopy(other.more, 0, more, 0, HOUSES * THINGS);
        }

        int moreTo(int house, int thing) {
            return more[house * THINGS + thing];
        }

        void setMore(int house, int thing, int n) {
            more[house * THINGS + thing] = n;
        }

        int valueTo(int house, int thing) {
            return worth[thing] + moreTo(house, thing);
        }
    }

    /** The TAPE, read TOKEN by TOKEN; the first FAULT met is the first by its place. */
    private static final class Tape {
        static final int MOST = 800;
        static final int FED = 20;
        static final int HUGE = 1000000;

        static final int END = 0;
        static final int WORD = 1;
        static final int NUMBER = 2;
        static final int SIGN = 3;
        static final int OTHER = 4;

        static final int MISPLACED = 1;
        static final int OUT_OF_BOUNDS = 2;
        static final int TOO_MANY = 3;

        final byte[] bytes = new byte[MOST];
        int length;
        int faultKind;
        int faultPlace = NONE;
        private int token;
        private int start;
        private int behind;

        boolean hasRoom() {
            return length + FED <= MOST;
        }

        void add(int four) {
            for (int shift = 24; shift >= 0 && length < MOST; shift -= 8) {
                bytes[length] = (byte) (four >> shift);
                length++;
            }
        }

        boolean read(City into) {
            into.clear();
            faultKind = 0;
            faultPlace = NONE;
            behind = 0;
            step();
            for (int line = 0; line < MOST && token != END && faultKind == 0; line++) {
                readLine(into);
            }
            return faultKind == 0;
        }

        private void readLine(City into) {
            if (into.lines == 0) {
                readHead(into);
            } else if (isWord("house")) {
                readHouse(into);
            } else if (isWord("thing")) {
                readThing(into);
            } else if (isWord("want")) {
                readWant(into);
            } else {
                refuse(MISPLACED);
            }
            expect(token == SIGN);
            into.lines++;
        }

        private void readHead(City into) {
            expect(isWord("city"));
            expect(isWord("eats"));
            into.eats = number(0, 50);
            expect(isWord("carry"));
            into.carry = number(1, 6);
            expect(isWord("odds"));
            into.odds = number(0, 100);
        }

        private void readHouse(City into) {
            int house = into.houses;
            if (house >= HOUSES) {
                refuse(TOO_MANY);
                return;
            }
            step();
            expect(isWord("purse"));
            into.purse[house] = number(0, 9999);
            if (isWord("locked")) {
                into.locked |= 1 << house;
                step();
            }
            into.houses++;
        }

        private void readThing(City into) {
            int thing = into.things;
            if (thing >= THINGS) {
                refuse(TOO_MANY);
                return;
            }
            step();
            expect(isWord("at"));
            into.at[thing] = number(0, into.houses - 1);
            expect(isWord("worth"));
            into.worth[thing] = number(1, MOST_WORTH);
            into.things++;
        }

        private void readWant(City into) {
            step();
            int house = number(0, into.houses - 1);
            int thing = number(0, into.things - 1);
            int more = number(1, MOST_WANT);
            if (faultKind == 0) {
                into.setMore(house, thing, more);
            }
        }

        private void expect(boolean stands) {
            if (stands) {
                step();
            } else {
                refuse(MISPLACED);
            }
        }

        private int number(int least, int most) {
            if (token != NUMBER) {
                refuse(MISPLACED);
                return 0;
            }
            int n = told();
            if (n < least || n > most) {
                refuse(OUT_OF_BOUNDS);
                return 0;
            }
            step();
            return n;
        }

        /** Beyond every bound the number need not be told apart, so that it can't wrap around. */
        private int told() {
            int n = 0;
            for (int i = start; i < behind && n < HUGE; i++) {
                n = n * 10 + bytes[i] - '0';
            }
            return n;
        }

        private void refuse(int kind) {
            if (faultKind == 0) {
                faultKind = kind;
                faultPlace = start;
            }
        }

        private void step() {
            while (behind < length && isBlank(bytes[behind])) {
                behind++;
            }
            start = behind;
            if (behind >= length) {
                token = END;
            } else if (isLetter(bytes[behind])) {
                token = WORD;
                while (behind < length && isLetter(bytes[behind])) {
                    behind++;
                }
            } else if (isDigit(bytes[behind])) {
                token = NUMBER;
                while (behind < length && isDigit(bytes[behind])) {
                    behind++;
                }
            } else {
                token = bytes[behind] == ';' ? SIGN : OTHER;
                behind++;
            }
        }

        private boolean isWord(String word) {
            if (token != WORD || behind - start != word.length()) {
                return false;
            }
            for (int i = 0; i < word.length(); i++) {
                if (bytes[start + i] != word.charAt(i)) {
                    return false;
                }
            }
            return true;
        }

        private static boolean isBlank(byte b) {
            return b == 32 || b == 10;
        }

        private static boolean isLetter(byte b) {
            return b >= 'a' && b <= 'z';
        }

        private static boolean isDigit(byte b) {
            return b >= '0' && b <= '9';
        }
    }

    /** What was done, so that it can be done again up to any act. */
    private static final class Acts {
        static final int WIDTH = 4;
        int count;
        private final int[] told = new int[ACTS * WIDTH];

        void add(int kind, int a, int b, int c) {
            if (count >= ACTS) {
                return;
            }
            int i = count * WIDTH;
            told[i] = kind;
            told[i + 1] = a;
            told[i + 2] = b;
            told[i + 3] = c;
            count++;
        }

        void copyFrom(Acts other) {
            count = other.count;
            System.arraycopy(other.told, 0, told, 0, ACTS * WIDTH);
        }

        void replay(World world) {
            world.begin();
            for (int act = 0; act < count; act++) {
                int i = act * WIDTH;
                world.act(told[i], told[i + 1], told[i + 2], told[i + 3]);
            }
        }
    }

    private static final class Image {
        boolean kept;
        final City city = new City();
        final Acts acts = new Acts();
    }

    /** A CITY in time: the one that is now, or a trial of what would come. */
    private static final class World {
        // Each PAPER moves its THING twice at most, by the theft and by the return.
        static final int STATIONS = 2 * PAPERS + 1;
        // Above all that a HOUSE may ever have to pay, so that it never falls short.
        static final int PLENTY = 1000000;

        final City city;
        int day;
        int papers;
        int locked;
        final int[] purses = new int[HOUSES];
        final int[] place = new int[THINGS];
        final int[] moves = new int[THINGS];
        final int[] thief = new int[PAPERS];
        final int[] stolen = new int[PAPERS];
        final int[] holder = new int[PAPERS];
        final int[] dueDay = new int[PAPERS];
        final int[] how = new int[PAPERS];
        private final int[] stations = new int[THINGS * STATIONS];
        private final int[] brought = new int[HOUSES];
        private final int[] lowest = new int[HOUSES];

        World(City city) {
            this.city = city;
        }

        void begin() {
            day = 0;
            papers = 0;
            locked = city.locked;
            System.arraycopy(city.purse, 0, purses, 0, HOUSES);
            System.arraycopy(city.at, 0, place, 0, THINGS);
            Arrays.fill(moves, 0);
            for (int thing = 0; thing < THINGS; thing++) {
                stations[thing * STATIONS] = city.at[thing];
            }
        }

        /** All but the stations: nobody asks a trial where its THINGS were. */
        void copyFrom(World other) {
            day = other.day;
            papers = other.papers;
            locked = other.locked;
            System.arraycopy(other.purses, 0, purses, 0, HOUSES);
            System.arraycopy(other.place, 0, place, 0, THINGS);
            System.arraycopy(other.moves, 0, moves, 0, THINGS);
            System.arraycopy(other.thief, 0, thief, 0, PAPERS);
            System.arraycopy(other.stolen, 0, stolen, 0, PAPERS);
            System.arraycopy(other.holder, 0, holder, 0, PAPERS);
            System.arraycopy(other.dueDay, 0, dueDay, 0, PAPERS);
            System.arraycopy(other.how, 0, how, 0, PAPERS);
        }

        int act(int kind, int a, int b, int c) {
            switch (kind) {
                case STEAL: return take(a, b, c);
                case SELL: return handOn(a, b);
                case BRING: return giveBack(a);
                case STRIKE: return cross(a);
                case LOCK: return turnKey(a, b);
                case NIGHT: return Integer.bitCount(passNight());
                default: return UNKNOWN;
            }
        }

        boolean maySteal(int house, int thing) {
            int from = place[thing];
            return from != house && !isLocked(from) && papers < PAPERS;
        }

        int take(int house, int thing, int onDay) {
            if (papers >= PAPERS) {
                return REFUSED;
            }
            int paper = papers;
            thief[paper] = house;
            stolen[paper] = thing;
            holder[paper] = place[thing];
            dueDay[paper] = onDay;
            how[paper] = OPEN;
            papers++;
            move(thing, house);
            return paper;
        }

        private int handOn(int paper, int house) {
            int cost = priceOf(paper);
            pay(house, holder[paper], cost);
            holder[paper] = house;
            return cost;
        }

        private int giveBack(int paper) {
            how[paper] = RETURNED;
            move(stolen[paper], holder[paper]);
            return holder[paper];
        }

        private int cross(int paper) {
            how[paper] = STRUCK;
            return Integer.bitCount(openPapers());
        }

        private int turnKey(int house, int is) {
            int was = locked >> house & 1;
            locked = locked & ~(1 << house) | is << house;
            return was;
        }

        private void move(int thing, int house) {
            if (place[thing] == house || moves[thing] >= STATIONS - 1) {
                return;
            }
            place[thing] = house;
            moves[thing]++;
            stations[thing * STATIONS + moves[thing]] = house;
        }

        private void pay(int from, int to, int amount) {
            purses[from] -= amount;
            purses[to] += amount;
        }

        /** A NIGHT: which PAPERS FAILED in it, as bits. */
        int passNight() {
            day++;
            Arrays.fill(brought, 0);
            int failed = 0;
            for (int paper = 0; paper < papers; paper++) {
                if (dueDay[paper] == day && isOpen(paper)) {
                    settle(paper);
                    failed |= how[paper] == FAILED ? 1 << paper : 0;
                }
            }
            return failed;
        }

        private void settle(int paper) {
            int debtor = thief[paper];
            int left = purses[debtor] - worthOf(paper);
            if (thiefHasIt(paper) && brought[debtor] < city.carry) {
                brought[debtor]++;
                giveBack(paper);
            } else if (left >= 0) {
                lowest[debtor] = Math.min(lowest[debtor], left);
                pay(debtor, holder[paper], worthOf(paper));
                how[paper] = PAID;
            } else {
                how[paper] = FAILED;
            }
        }

        /** With PLENTY nothing FAILS; how far the purse sinks then is what it needs at least. */
        int leastPurse(int house, int nights) {
            purses[house] = PLENTY;
            lowest[house] = PLENTY;
            for (int i = 0; i < nights; i++) {
                passNight();
            }
            return PLENTY - lowest[house];
        }

        void callAllIn() {
            for (int paper = 0; paper < papers; paper++) {
                if (isOpen(paper)) {
                    dueDay[paper] = day + 1;
                }
            }
        }

        boolean isLocked(int house) {
            return (locked >> house & 1) != 0;
        }

        boolean isOpen(int paper) {
            return how[paper] == OPEN;
        }

        boolean thiefHasIt(int paper) {
            return place[stolen[paper]] == thief[paper];
        }

        /** OPEN, and a claim of another HOUSE on the THIEF. */
        boolean binds(int paper) {
            return isOpen(paper) && holder[paper] != thief[paper];
        }

        int worthOf(int paper) {
            return city.worth[stolen[paper]];
        }

        int priceOf(int paper) {
            int cost = worthOf(paper);
            for (int d = day; d < dueDay[paper]; d++) {
                cost = cost * (100 - city.eats) / 100;
            }
            return cost;
        }

        int stationOf(int thing, int i) {
            return stations[thing * STATIONS + i];
        }

        int thingsIn(int house) {
            int bits = 0;
            for (int thing = 0; thing < city.things; thing++) {
                bits |= place[thing] == house ? 1 << thing : 0;
            }
            return bits;
        }

        int inReachOf(int house) {
            int bits = 0;
            for (int thing = 0; thing < city.things; thing++) {
                int at = place[thing];
                bits |= at != house && !isLocked(at) ? 1 << thing : 0;
            }
            return bits;
        }

        int lossOf(int house) {
            int loss = 0;
            for (int thing = 0; thing < city.things; thing++) {
                if (place[thing] == house) {
                    loss = Math.max(loss, city.moreTo(house, thing));
                }
            }
            return loss;
        }

        int openPapers() {
            int bits = 0;
            for (int paper = 0; paper < papers; paper++) {
                bits |= isOpen(paper) ? 1 << paper : 0;
            }
            return bits;
        }

        int heldBy(int house) {
            int bits = 0;
            for (int paper = 0; paper < papers; paper++) {
                bits |= isOpen(paper) && holder[paper] == house ? 1 << paper : 0;
            }
            return bits;
        }

        int owedBy(int house) {
            int bits = 0;
            for (int paper = 0; paper < papers; paper++) {
                bits |= isOpen(paper) && thief[paper] == house ? 1 << paper : 0;
            }
            return bits;
        }

        int dueOn(int onDay) {
            int bits = 0;
            for (int paper = 0; paper < papers; paper++) {
                bits |= isOpen(paper) && dueDay[paper] == onDay ? 1 << paper : 0;
            }
            return bits;
        }

        int thievesOf(int ofPapers) {
            int bits = 0;
            for (int paper = 0; paper < papers; paper++) {
                bits |= (ofPapers >> paper & 1) != 0 ? 1 << thief[paper] : 0;
            }
            return bits;
        }

        int failedSoFar() {
            int failed = 0;
            for (int paper = 0; paper < papers; paper++) {
                failed += how[paper] == FAILED ? 1 : 0;
            }
            return failed;
        }

        int allPurses() {
            int sum = 0;
            for (int house = 0; house < city.houses; house++) {
                sum += purses[house];
            }
            return sum;
        }

        int worthOfAll(int ofPapers) {
            int sum = 0;
            for (int paper = 0; paper < papers; paper++) {
                sum += (ofPapers >> paper & 1) != 0 ? worthOf(paper) : 0;
            }
            return sum;
        }

        int owedTo(int creditor, int debtor) {
            return creditor == debtor ? 0 : worthOfAll(heldBy(creditor) & owedBy(debtor));
        }

        int owedWithoutThing(int house) {
            int sum = 0;
            for (int paper = 0; paper < papers; paper++) {
                if (isOpen(paper) && thief[paper] == house && !thiefHasIt(paper)) {
                    sum += worthOf(paper);
                }
            }
            return sum;
        }

        int netOf(int house) {
            int sum = purses[house] + worthOfAll(heldBy(house)) - worthOfAll(owedBy(house));
            for (int thing = 0; thing < city.things; thing++) {
                sum += place[thing] == house ? city.valueTo(house, thing) : 0;
            }
            return sum;
        }
    }

    /** Whose a THING is by the PAPERS, and which of them stand in each other's way. */
    private static final class Titles {
        int length;
        final int[] chain = new int[HOUSES];
        private boolean ring;
        private final int[] edges = new int[HOUSES * HOUSES];
        private final int[] next = new int[HOUSES];
        private int most;

        void follow(World world, int thing) {
            length = 0;
            ring = false;
            int seen = 0;
            int house = world.place[thing];
            for (int i = 0; i < HOUSES && house != NONE && !ring; i++) {
                chain[length] = house;
                length++;
                seen |= 1 << house;
                house = behind(world, house, thing);
                ring = house != NONE && (seen >> house & 1) != 0;
            }
        }

        private static int behind(World world, int house, int thing) {
            for (int paper = world.papers - 1; paper >= 0; paper--) {
                if (world.thief[paper] == house && world.stolen[paper] == thing && world.binds(paper)) {
                    return world.holder[paper];
                }
            }
            return NONE;
        }

        /** The OWNER by the CHAIN that was followed. */
        int last() {
            return ring || length == 0 ? NONE : chain[length - 1];
        }

        int pairs(World world) {
            int pairs = 0;
            for (int paper = 0; paper < world.papers; paper++) {
                for (int other = 0; other < paper; other++) {
                    pairs += contradict(world, paper, other) ? 1 : 0;
                }
            }
            return pairs;
        }

        private static boolean contradict(World world, int paper, int other) {
            return world.thief[paper] == world.thief[other] && world.stolen[paper] == world.stolen[other]
                    && world.binds(paper) && world.binds(other);
        }

        /**
         * The least set of the fewest PAPERS to be STRUCK. No two THINGS share a PAPER, so each is
         * made CLEAN by itself; the fewest struck are the most kept, the least struck the greatest kept.
         */
        int toStrike(World world) {
            int strike = 0;
            for (int thing = 0; thing < world.city.things; thing++) {
                int all = drawEdges(world, thing);
                most = 0;
                Arrays.fill(next, NONE);
                keep(0, 0);
                strike |= all & ~most;
            }
            return strike;
        }

        /** Of PAPERS alike in THIEF and HOLDER only the latest need ever be kept: it is the greatest. */
        private int drawEdges(World world, int thing) {
            int all = 0;
            Arrays.fill(edges, NONE);
            for (int paper = 0; paper < world.papers; paper++) {
                if (world.stolen[paper] == thing && world.binds(paper)) {
                    edges[world.thief[paper] * HOUSES + world.holder[paper]] = paper;
                    all |= 1 << paper;
                }
            }
            return all;
        }

        /** Tries for each HOUSE from this one on each PAPER of it, and none; house is the depth. */
        private void keep(int house, int kept) {
            if (house >= HOUSES) {
                if (isBetter(kept)) {
                    most = kept;
                }
                return;
            }
            if (Integer.bitCount(kept) + HOUSES - house < Integer.bitCount(most)) {
                return;
            }
            for (int to = 0; to < HOUSES; to++) {
                int paper = edges[house * HOUSES + to];
                if (paper != NONE && !leads(to, house)) {
                    next[house] = to;
                    keep(house + 1, kept | 1 << paper);
                    next[house] = NONE;
                }
            }
            keep(house + 1, kept);
        }

        private boolean isBetter(int kept) {
            int more = Integer.bitCount(kept) - Integer.bitCount(most);
            return more > 0 || more == 0 && kept > most;
        }

        private boolean leads(int from, int to) {
            int house = from;
            for (int i = 0; i < HOUSES && house != NONE; i++) {
                if (house == to) {
                    return true;
                }
                house = next[house];
            }
            return false;
        }
    }

    /** To whom THINGS should go: best of the THINGS from one on, if some HOUSES are taken already. */
    private static final class Deal {
        static final int SETS = 1 << HOUSES;
        private final int[] best = new int[(THINGS + 1) * SETS];

        int greatest(City city) {
            weigh(city);
            return best[0];
        }

        int houseOf(City city, int thing) {
            weigh(city);
            int taken = 0;
            int house = NONE;
            for (int t = 0; t <= thing; t++) {
                house = firstFor(city, t, taken);
                taken |= house == NONE ? 0 : 1 << house;
            }
            return house;
        }

        private void weigh(City city) {
            int sets = 1 << city.houses;
            for (int taken = 0; taken < sets; taken++) {
                best[city.things * SETS + taken] = 0;
            }
            for (int thing = city.things - 1; thing >= 0; thing--) {
                for (int taken = 0; taken < sets; taken++) {
                    int most = best[(thing + 1) * SETS + taken];
                    for (int house = 0; house < city.houses; house++) {
                        most = Math.max(most, with(city, thing, taken, house));
                    }
                    best[thing * SETS + taken] = most;
                }
            }
        }

        private int firstFor(City city, int thing, int taken) {
            for (int house = 0; house < city.houses; house++) {
                if (with(city, thing, taken, house) == best[thing * SETS + taken]) {
                    return house;
                }
            }
            return NONE;
        }

        private int with(City city, int thing, int taken, int house) {
            int bit = 1 << house;
            if ((taken & bit) != 0) {
                return NONE;
            }
            return city.valueTo(house, thing) + best[(thing + 1) * SETS + (taken | bit)];
        }
    }

    private static final class Row {
        static final int MOST = 60;
        static final int NOTHING = -1;

        int width;
        int length = NOTHING;
        final long[] numbers = new long[MOST];

        boolean isThere() {
            return length != NOTHING;
        }

        void begin(int ofWidth, int n) {
            width = ofWidth;
            length = n;
            Arrays.fill(numbers, 0L);
        }

        void put(int i, long v) {
            switch (width) {
                case 0: numbers[i] = (byte) v; break;
                case 1: numbers[i] = (short) v; break;
                case 2: numbers[i] = (int) v; break;
                default: numbers[i] = v; break;
            }
        }

        boolean spans(int from, int n) {
            return from >= 0 && n >= 0 && n <= length && from <= length - n;
        }
    }

    /** A row of told PAPERS, four numbers each, held against those that are OPEN. */
    private static final class Audit {
        static final int FIELDS = 4;
        static final int MOST_TOLD = 9999;

        int wrong;
        int first;
        int argued;

        boolean isSound(Row row, City city) {
            if (row.length % FIELDS != 0) {
                return false;
            }
            for (int i = 0; i + FIELDS <= row.length; i += FIELDS) {
                if (!isWithin(row.numbers[i], 0, city.houses - 1)
                        || !isWithin(row.numbers[i + 1], 0, city.things - 1)
                        || !isWithin(row.numbers[i + 2], 0, MOST_TOLD)
                        || !isWithin(row.numbers[i + 3], 1, LAST_DAY)) {
                    return false;
                }
            }
            return true;
        }

        private static boolean isWithin(long v, int least, int most) {
            return v >= least && v <= most;
        }

        void compare(Row row, World world) {
            wrong = 0;
            first = NONE;
            argued = 0;
            int free = world.openPapers();
            for (int i = 0; i + FIELDS <= row.length; i += FIELDS) {
                int alike = alike(row, i, world);
                int thing = (int) row.numbers[i + 1];
                boolean rightWorth = row.numbers[i + 2] == world.city.worth[thing];
                int fit = rightWorth ? alike & free : 0;
                if (fit != 0) {
                    free &= ~(fit & -fit);
                } else {
                    first = wrong == 0 ? i / FIELDS : first;
                    wrong++;
                    argued += !rightWorth && alike != 0 ? 1 : 0;
                }
            }
        }

        private static int alike(Row row, int i, World world) {
            int bits = 0;
            for (int paper = 0; paper < world.papers; paper++) {
                if (world.isOpen(paper) && world.thief[paper] == row.numbers[i]
                        && world.stolen[paper] == row.numbers[i + 1]
                        && world.dueDay[paper] == row.numbers[i + 3]) {
                    bits |= 1 << paper;
                }
            }
            return bits;
        }
    }

    private static final class Dice {
        private long x;

        void begin(int seed) {
            x = seed;
        }

        int draw(int n) {
            if (n < 1) {
                return 0;
            }
            x = (1103515245L * x + 12345L) & 0x7FFFFFFFL;
            return (int) (x / 65536L % n);
        }
    }
}
