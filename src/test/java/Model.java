import java.util.ArrayDeque;
import java.util.ArrayList;
import java.util.Arrays;
import java.util.Deque;
import java.util.List;
import java.util.regex.Matcher;
import java.util.regex.Pattern;

/**
 * The document done again in the slowest and plainest way, to be held against the program: states
 * are kept whole, sets are tried one by one, nothing is derived.
 */
final class Model {
    static final class Paper {
        int thief, thing, holder, day, how;

        Paper copy() {
            Paper p = new Paper();
            p.thief = thief;
            p.thing = thing;
            p.holder = holder;
            p.day = day;
            p.how = how;
            return p;
        }
    }

    static final class State {
        int day;
        int[] purse;
        boolean[] locked;
        List<List<Integer>> trail = new ArrayList<>();
        List<Paper> papers = new ArrayList<>();

        State copy() {
            State s = new State();
            s.day = day;
            s.purse = purse.clone();
            s.locked = locked.clone();
            for (List<Integer> t : trail) {
                s.trail.add(new ArrayList<>(t));
            }
            for (Paper p : papers) {
                s.papers.add(p.copy());
            }
            return s;
        }

        int at(int thing) {
            List<Integer> t = trail.get(thing);
            return t.get(t.size() - 1);
        }

        void go(int thing, int house) {
            if (at(thing) != house) {
                trail.get(thing).add(house);
            }
        }
    }

    static final class Town {
        int lines, eats, carry, odds;
        List<Integer> purses = new ArrayList<>();
        List<Boolean> locks = new ArrayList<>();
        List<Integer> at = new ArrayList<>();
        List<Integer> worth = new ArrayList<>();
        int[][] want = new int[5][6];

        Town copy() {
            Town t = new Town();
            t.lines = lines;
            t.eats = eats;
            t.carry = carry;
            t.odds = odds;
            t.purses.addAll(purses);
            t.locks.addAll(locks);
            t.at.addAll(at);
            t.worth.addAll(worth);
            for (int i = 0; i < 5; i++) {
                t.want[i] = want[i].clone();
            }
            return t;
        }

        State start() {
            State s = new State();
            s.purse = new int[purses.size()];
            s.locked = new boolean[purses.size()];
            for (int i = 0; i < purses.size(); i++) {
                s.purse[i] = purses.get(i);
                s.locked[i] = locks.get(i);
            }
            for (int h : at) {
                s.trail.add(new ArrayList<>(List.of(h)));
            }
            return s;
        }
    }

    String tape = "";
    int faultKind = 0;
    int faultPlace = -1;
    Town town = new Town();
    State now = new Town().start();
    Deque<State> before = new ArrayDeque<>();
    Town[] keptTown = new Town[3];
    State[] keptNow = new State[3];
    List<Deque<State>> keptBefore = new ArrayList<>(Arrays.asList(null, null, null));
    long[][] rows = new long[4][];
    int[] widths = new int[4];

    int houses() {
        return town.purses.size();
    }

    int things() {
        return town.at.size();
    }

    boolean none() {
        return town.lines == 0;
    }

    boolean h(int house) {
        return 0 <= house && house < houses();
    }

    boolean t(int thing) {
        return 0 <= thing && thing < things();
    }

    boolean p(int paper) {
        return 0 <= paper && paper < now.papers.size();
    }

    // ---- text ----

    int feed(int... five) {
        if (tape.length() + 20 > 800) {
            return -1;
        }
        StringBuilder s = new StringBuilder(tape);
        for (int n : five) {
            s.append((char) (n >>> 24)).append((char) (n >>> 16 & 255)).append((char) (n >>> 8 & 255)).append((char) (n & 255));
        }
        tape = s.toString();
        return tape.length();
    }

    int end(int n) {
        if (n < 0 || n > tape.length()) {
            return -1;
        }
        tape = tape.substring(0, n);
        return n;
    }

    private static final Pattern TOKEN = Pattern.compile("[a-z]+|[0-9]+|[^ \n]", Pattern.DOTALL);
    private static final String[] FORMS = {"city eats E carry C odds O", "house purse P", "house purse P locked", "thing at H worth W", "want H T N"};

    /** A text is right as far as some LINE's form goes on by its next TOKEN. */
    int city() {
        String text = tape;
        faultKind = 0;
        faultPlace = -1;
        Town to = new Town();
        List<String> line = new ArrayList<>();
        Matcher m = TOKEN.matcher(text);
        while (m.find()) {
            String token = m.group();
            int kind = check(to, line, token);
            if (kind != 0) {
                faultKind = kind;
                faultPlace = m.start();
                return -4;
            }
            if (token.equals(";")) {
                take(to, line);
                line.clear();
            } else {
                line.add(token);
            }
        }
        if (!line.isEmpty()) {
            faultKind = 1;
            faultPlace = text.length();
            return -4;
        }
        tape = "";
        town = to;
        now = to.start();
        before.clear();
        return to.lines;
    }

    private static int check(Town to, List<String> line, String token) {
        boolean number = Character.isDigit(token.charAt(0));
        int kind = 1;
        for (String form : FORMS) {
            String[] f = form.split(" ");
            if (f[0].equals("city") != (to.lines == 0)) {
                continue;
            }
            boolean goesOn = line.size() <= f.length;
            for (int i = 0; i < line.size() && goesOn; i++) {
                goesOn = Character.isUpperCase(f[i].charAt(0)) ? Character.isDigit(line.get(i).charAt(0)) : f[i].equals(line.get(i));
            }
            if (!goesOn) {
                continue;
            }
            if (line.size() == f.length) {
                kind = token.equals(";") ? 0 : kind;
            } else if (number && Character.isUpperCase(f[line.size()].charAt(0))) {
                kind = within(to, f[line.size()].charAt(0), token) ? 0 : 2;
            } else if (token.equals(f[line.size()]) && Character.isLowerCase(token.charAt(0))) {
                boolean full = line.isEmpty() && (token.equals("house") && to.purses.size() == 5 || token.equals("thing") && to.at.size() == 6);
                kind = full ? 3 : 0;
            }
        }
        return kind;
    }

    private static boolean within(Town to, char what, String token) {
        java.math.BigInteger n = new java.math.BigInteger(token);
        int least = what == 'C' || what == 'W' || what == 'N' ? 1 : 0;
        int most = switch (what) {
            case 'E' -> 50;
            case 'C' -> 6;
            case 'O' -> 100;
            case 'P' -> 9999;
            case 'H' -> to.purses.size() - 1;
            case 'T' -> to.at.size() - 1;
            case 'W' -> 999;
            default -> 500;
        };
        return n.compareTo(java.math.BigInteger.valueOf(least)) >= 0 && n.compareTo(java.math.BigInteger.valueOf(most)) <= 0;
    }

    private static void take(Town to, List<String> line) {
        to.lines++;
        switch (line.get(0)) {
            case "city" -> {
                to.eats = Integer.parseInt(line.get(2));
                to.carry = Integer.parseInt(line.get(4));
                to.odds = Integer.parseInt(line.get(6));
            }
            case "house" -> {
                to.purses.add(Integer.parseInt(line.get(2)));
                to.locks.add(line.size() > 3);
            }
            case "thing" -> {
                to.at.add(Integer.parseInt(line.get(2)));
                to.worth.add(Integer.parseInt(line.get(4)));
            }
            default -> to.want[Integer.parseInt(line.get(1))][Integer.parseInt(line.get(2))] = Integer.parseInt(line.get(3));
        }
    }

    int fault(int what) {
        return what == 0 ? faultKind : what == 1 ? faultPlace : -1;
    }

    // ---- now ----

    int bitsOfPapers(java.util.function.Predicate<Paper> which) {
        int bits = 0;
        for (int i = 0; i < now.papers.size(); i++) {
            Paper p = now.papers.get(i);
            if (p.how == 0 && which.test(p)) {
                bits += 1 << i;
            }
        }
        return bits;
    }

    int bitsOfThings(java.util.function.IntPredicate which) {
        int bits = 0;
        for (int i = 0; i < things(); i++) {
            if (which.test(i)) {
                bits += 1 << i;
            }
        }
        return bits;
    }

    int house(int house, int what) {
        if (!h(house) || what < 0 || what > 4) {
            return -2;
        }
        return switch (what) {
            case 0 -> now.purse[house];
            case 1 -> now.locked[house] ? 1 : 0;
            case 2 -> bitsOfThings(i -> now.at(i) == house);
            case 3 -> bitsOfPapers(p -> p.holder == house);
            default -> bitsOfPapers(p -> p.thief == house);
        };
    }

    int thing(int thing, int what) {
        if (!t(thing) || what < 0 || what > 2) {
            return -2;
        }
        return what == 0 ? town.worth.get(thing) : what == 1 ? now.at(thing) : town.at.get(thing);
    }

    int value(int house, int thing) {
        return h(house) && t(thing) ? town.worth.get(thing) + town.want[house][thing] : -2;
    }

    int paper(int paper, int what) {
        if (!p(paper) || what < 0 || what > 4) {
            return -2;
        }
        Paper p = now.papers.get(paper);
        return new int[] {p.thief, p.thing, p.holder, p.day, p.how}[what];
    }

    int price(int paper) {
        if (!p(paper)) {
            return -2;
        }
        Paper p = now.papers.get(paper);
        if (p.how != 0) {
            return -1;
        }
        int price = town.worth.get(p.thing);
        int days = p.day - now.day;
        while (days-- > 0) {
            price = Math.floorDiv(price * (100 - town.eats), 100);
        }
        return price;
    }

    int net(int house) {
        return h(house) ? netIn(now, house) : -100000;
    }

    int netIn(State s, int house) {
        int net = s.purse[house];
        for (int i = 0; i < things(); i++) {
            net += s.at(i) == house ? value(house, i) : 0;
        }
        for (Paper p : s.papers) {
            net += p.how == 0 && p.holder == house ? town.worth.get(p.thing) : 0;
            net -= p.how == 0 && p.thief == house ? town.worth.get(p.thing) : 0;
        }
        return net;
    }

    // ---- acts ----

    static boolean maySteal(State s, int house, int thing) {
        return s.at(thing) != house && !s.locked[s.at(thing)] && s.papers.size() < 24;
    }

    static void theft(State s, int house, int thing, int day) {
        Paper p = new Paper();
        p.thief = house;
        p.thing = thing;
        p.holder = s.at(thing);
        p.day = day;
        s.papers.add(p);
        s.go(thing, house);
    }

    void act() {
        before.addLast(now.copy());
    }

    boolean full() {
        return before.size() == 60;
    }

    int steal(int house, int thing, int day) {
        if (!h(house) || !t(thing) || day < 1 || day > 60) {
            return -2;
        }
        if (full() || day <= now.day || !maySteal(now, house, thing)) {
            return -5;
        }
        act();
        theft(now, house, thing, day);
        return now.papers.size() - 1;
    }

    int sell(int paper, int house) {
        if (!p(paper) || !h(house)) {
            return -2;
        }
        Paper p = now.papers.get(paper);
        int price = price(paper);
        if (full() || p.how != 0 || p.holder == house || now.purse[house] < price) {
            return -5;
        }
        act();
        now.purse[house] -= price;
        now.purse[p.holder] += price;
        p.holder = house;
        return price;
    }

    int brings(int paper) {
        if (!p(paper)) {
            return -2;
        }
        Paper p = now.papers.get(paper);
        if (full() || p.how != 0 || now.at(p.thing) != p.thief) {
            return -5;
        }
        act();
        p.how = 1;
        now.go(p.thing, p.holder);
        return p.holder;
    }

    int strike(int paper) {
        if (!p(paper)) {
            return -2;
        }
        if (full() || now.papers.get(paper).how != 0) {
            return -5;
        }
        act();
        now.papers.get(paper).how = 4;
        return Integer.bitCount(now(1));
    }

    int lock(int house, int is) {
        if (!h(house) || is != 0 && is != 1) {
            return -2;
        }
        if (full()) {
            return -5;
        }
        act();
        int was = now.locked[house] ? 1 : 0;
        now.locked[house] = is == 1;
        return was;
    }

    List<Integer> pass(State s) {
        s.day++;
        int[] brought = new int[5];
        List<Integer> failed = new ArrayList<>();
        for (int i = 0; i < s.papers.size(); i++) {
            Paper p = s.papers.get(i);
            if (p.how != 0 || p.day != s.day) {
                continue;
            }
            int worth = town.worth.get(p.thing);
            if (s.at(p.thing) == p.thief && brought[p.thief] < town.carry) {
                s.go(p.thing, p.holder);
                brought[p.thief]++;
                p.how = 1;
            } else if (s.purse[p.thief] >= worth) {
                s.purse[p.thief] -= worth;
                s.purse[p.holder] += worth;
                p.how = 2;
            } else {
                p.how = 3;
                failed.add(i);
            }
        }
        return failed;
    }

    int night() {
        if (none()) {
            return -2;
        }
        if (full()) {
            return -5;
        }
        act();
        return pass(now).size();
    }

    int undo() {
        if (none()) {
            return -2;
        }
        if (before.isEmpty()) {
            return -5;
        }
        now = before.removeLast();
        return before.size();
    }

    int anew() {
        if (none()) {
            return -2;
        }
        int were = before.size();
        while (!before.isEmpty()) {
            now = before.removeLast();
        }
        return were;
    }

    int now(int what) {
        if (none() || what < 0 || what > 3) {
            return -2;
        }
        return switch (what) {
            case 0 -> now.day;
            case 1 -> bitsOfPapers(p -> true);
            case 2 -> (int) now.papers.stream().filter(p -> p.how == 3).count();
            default -> Arrays.stream(now.purse).sum();
        };
    }

    // ---- titles ----

    /** The CHAIN; a RING ends with the HOUSE that came already. */
    List<Integer> walk(int thing) {
        List<Integer> walk = new ArrayList<>();
        int house = now.at(thing);
        while (true) {
            boolean again = walk.contains(house);
            walk.add(house);
            int holder = -1;
            for (Paper p : now.papers) {
                if (p.how == 0 && p.thief == house && p.thing == thing && p.holder != p.thief) {
                    holder = p.holder;
                }
            }
            if (again || holder < 0) {
                return walk;
            }
            house = holder;
        }
    }

    static boolean ring(List<Integer> walk) {
        return walk.indexOf(walk.get(walk.size() - 1)) != walk.size() - 1;
    }

    int owner(int thing) {
        if (!t(thing)) {
            return -2;
        }
        List<Integer> walk = walk(thing);
        return ring(walk) ? -1 : walk.get(walk.size() - 1);
    }

    int chain(int thing, int i) {
        if (!t(thing)) {
            return -2;
        }
        List<Integer> walk = walk(thing);
        if (ring(walk)) {
            walk.remove(walk.size() - 1);
        }
        return i >= 0 && i < walk.size() ? walk.get(i) : -1;
    }

    int rings() {
        return none() ? -2 : bitsOfThings(i -> ring(walk(i)));
    }

    int owns(int house) {
        return h(house) ? bitsOfThings(i -> owner(i) == house) : -2;
    }

    int twice() {
        if (none()) {
            return -2;
        }
        int pairs = 0;
        for (Paper a : now.papers) {
            for (Paper b : now.papers) {
                if (a != b && a.how == 0 && b.how == 0 && a.thief == b.thief && a.thing == b.thing && a.holder != a.thief && b.holder != b.thief) {
                    pairs++;
                }
            }
        }
        return pairs / 2;
    }

    /** Whether there are few enough PAPERS that all sets can be tried. */
    boolean canStrike() {
        return none() || Integer.bitCount(bitsOfPapers(p -> p.holder != p.thief)) <= 10;
    }

    boolean clean(int struck) {
        for (int thing = 0; thing < things(); thing++) {
            boolean[][] leads = new boolean[5][5];
            int[] of = new int[5];
            for (int i = 0; i < now.papers.size(); i++) {
                Paper p = now.papers.get(i);
                if (p.how == 0 && p.thing == thing && p.holder != p.thief && (struck >> i & 1) == 0) {
                    leads[p.thief][p.holder] = true;
                    of[p.thief]++;
                }
            }
            for (int k = 0; k < 5; k++) {
                for (int a = 0; a < 5; a++) {
                    for (int b = 0; b < 5; b++) {
                        leads[a][b] |= leads[a][k] && leads[k][b];
                    }
                }
            }
            for (int a = 0; a < 5; a++) {
                if (of[a] > 1 || leads[a][a]) {
                    return false;
                }
            }
        }
        return true;
    }

    int struck() {
        if (none()) {
            return -2;
        }
        int open = bitsOfPapers(p -> p.holder != p.thief);
        int best = -1;
        for (int set = open; ; set = set - 1 & open) {
            if (clean(set) && (best < 0 || Integer.bitCount(set) < Integer.bitCount(best)
                || Integer.bitCount(set) == Integer.bitCount(best) && set < best)) {
                best = set;
            }
            if (set == 0) {
                return best;
            }
        }
    }

    int strikes() {
        return none() ? -2 : Integer.bitCount(struck());
    }

    int trail(int thing, int i) {
        if (!t(thing)) {
            return -2;
        }
        List<Integer> trail = now.trail.get(thing);
        return i >= 0 && i < trail.size() ? trail.get(i) : -1;
    }

    int went(int thing) {
        return t(thing) ? now.trail.get(thing).size() - 1 : -2;
    }

    int lies(int house) {
        return h(house) ? bitsOfThings(i -> now.at(i) != house && !now.locked[now.at(i)]) : -2;
    }

    int poorest() {
        if (none()) {
            return -2;
        }
        int poorest = -1;
        for (int i = houses() - 1; i >= 0; i--) {
            poorest = poorest < 0 || net(i) <= net(poorest) ? i : poorest;
        }
        return poorest;
    }

    // ---- due ----

    int due(int day) {
        return none() || day < 0 || day > 60 ? -2 : bitsOfPapers(p -> p.day == day);
    }

    int monday() {
        if (none()) {
            return -2;
        }
        int best = -1;
        for (int day = 60; day >= 0; day--) {
            int n = Integer.bitCount(due(day));
            best = n > 0 && (best < 0 || n >= Integer.bitCount(due(best))) ? day : best;
        }
        return best;
    }

    int lacks(int house) {
        if (!h(house)) {
            return -2;
        }
        return now.papers.stream().filter(p -> p.how == 0 && p.thief == house && now.at(p.thing) != house).mapToInt(p -> town.worth.get(p.thing)).sum();
    }

    boolean enough(int house, int purse) {
        State s = now.copy();
        s.purse[house] = purse;
        boolean enough = true;
        for (int i = 0; i < 60; i++) {
            for (int paper : pass(s)) {
                enough &= s.papers.get(paper).thief != house;
            }
        }
        return enough;
    }

    /** Every sum that could be the least is tried, as far as it can matter. */
    int needs(int house) {
        if (!h(house)) {
            return -2;
        }
        int low = -1;
        int high = 30000;
        while (high - low > 1) {
            int middle = (low + high) / 2;
            if (enough(house, middle)) {
                high = middle;
            } else {
                low = middle;
            }
        }
        return high;
    }

    State ahead(int n, List<Integer> failed) {
        State s = now.copy();
        for (int i = 0; i < n; i++) {
            failed.addAll(pass(s));
        }
        return s;
    }

    int fails(int n) {
        if (none() || n < 0 || n > 60) {
            return -2;
        }
        List<Integer> failed = new ArrayList<>();
        ahead(n, failed);
        return failed.stream().mapToInt(i -> 1 << i).sum();
    }

    int later(int thing, int n) {
        return !t(thing) || n < 0 || n > 60 ? -2 : ahead(n, new ArrayList<>()).at(thing);
    }

    int purse(int house, int n) {
        return !h(house) || n < 0 || n > 60 ? -2 : ahead(n, new ArrayList<>()).purse[house];
    }

    int run() {
        if (none()) {
            return -2;
        }
        State s = now.copy();
        for (Paper p : s.papers) {
            p.day = p.how == 0 ? s.day + 1 : p.day;
        }
        int bits = 0;
        for (int paper : pass(s)) {
            bits |= 1 << s.papers.get(paper).thief;
        }
        return bits;
    }

    int owed(int house, int to) {
        return now.papers.stream().filter(p -> p.how == 0 && p.thief == house && p.holder == to && to != house).mapToInt(p -> town.worth.get(p.thing)).sum();
    }

    int hits(int house) {
        if (!h(house)) {
            return -2;
        }
        int best = -1;
        for (int i = houses() - 1; i >= 0; i--) {
            best = owed(house, i) > 0 && (best < 0 || owed(house, i) >= owed(house, best)) ? i : best;
        }
        return best;
    }

    int hit(int house) {
        int hits = hits(house);
        return hits == -2 ? -2 : hits < 0 ? 0 : owed(house, hits);
    }

    // ---- plans ----

    int plan(int house, int n) {
        if (!h(house) || n < 1 || n > 4) {
            return -2;
        }
        int reach = lies(house);
        int most = 0;
        for (int set = 0; set < 64; set++) {
            if ((set & ~reach) != 0 || Integer.bitCount(set) > n) {
                continue;
            }
            State s = now.copy();
            for (int i = 0; i < 6; i++) {
                if ((set >> i & 1) != 0) {
                    theft(s, house, i, 60);
                }
            }
            most = Math.max(most, netIn(s, house) - netIn(now, house));
        }
        return most;
    }

    int plans(int house, int n, int i) {
        if (!h(house) || n < 1 || n > 4) {
            return -2;
        }
        List<Integer> wanted = new ArrayList<>();
        for (int k = 0; k < things(); k++) {
            if ((lies(house) >> k & 1) != 0 && town.want[house][k] > 0) {
                wanted.add(k);
            }
        }
        wanted.sort((a, b) -> town.want[house][b] - town.want[house][a]);
        return i >= 0 && i < n && i < wanted.size() ? wanted.get(i) : -1;
    }

    int change(int house, int other) {
        if (!h(house) || !h(other) || house == other) {
            return -2;
        }
        for (int ab = 0; ab < 56; ab++) {
            int a = ab / 10;
            int b = ab % 10;
            if (t(a) && t(b) && now.at(a) == house && now.at(b) == other && value(house, a) < value(house, b) && value(other, b) < value(other, a)) {
                return ab;
            }
        }
        return -1;
    }

    int[] bestDeal;
    int bestSum;

    /** All ways, the least HOUSES first and none last, so that the first greatest is the one. */
    void ways(int thing, int[] to, int sum) {
        if (thing == things()) {
            if (sum > bestSum) {
                bestSum = sum;
                bestDeal = to.clone();
            }
            return;
        }
        for (int house = 0; house <= houses(); house++) {
            boolean without = house == houses();
            boolean taken = false;
            for (int i = 0; i < thing; i++) {
                taken |= !without && to[i] == house;
            }
            if (!taken) {
                to[thing] = without ? -1 : house;
                ways(thing + 1, to, sum + (without ? 0 : value(house, thing)));
            }
        }
    }

    int deal() {
        if (none()) {
            return -2;
        }
        bestSum = -1;
        ways(0, new int[6], 0);
        return bestSum;
    }

    int deals(int thing) {
        if (!t(thing)) {
            return -2;
        }
        deal();
        return bestDeal[thing];
    }

    int worthOf(int house, int set, int cost) {
        int sum = 0;
        if ((set >> house & 1) != 0) {
            sum -= cost;
        } else {
            int most = 0;
            for (int i = 0; i < things(); i++) {
                most = now.at(i) == house ? Math.max(most, town.want[house][i]) : most;
            }
            sum -= most;
        }
        int gain = 0;
        for (int i = 0; i < things(); i++) {
            if (now.at(i) != house && (set >> now.at(i) & 1) == 0) {
                gain = Math.max(gain, town.want[house][i]);
            }
        }
        return sum + gain;
    }

    boolean atRest(int set, int cost) {
        for (int i = 0; i < houses(); i++) {
            if (worthOf(i, set ^ 1 << i, cost) > worthOf(i, set, cost)) {
                return false;
            }
        }
        return true;
    }

    int rests(int cost) {
        if (none() || cost < 0 || cost > 999) {
            return -2;
        }
        int n = 0;
        for (int set = 0; set < 1 << houses(); set++) {
            n += atRest(set, cost) ? 1 : 0;
        }
        return n;
    }

    int rest(int cost) {
        if (none() || cost < 0 || cost > 999) {
            return -2;
        }
        for (int set = 0; set < 1 << houses(); set++) {
            if (atRest(set, cost)) {
                return set;
            }
        }
        return -1;
    }

    int dear() {
        if (none()) {
            return -2;
        }
        for (int cost = 999; cost >= 0; cost--) {
            if (atRest((1 << houses()) - 1, cost)) {
                return cost;
            }
        }
        return -1;
    }

    // ---- false papers ----

    int audit(int slot, int what) {
        if (slot < 0 || slot > 3 || none()) {
            return -2;
        }
        long[] row = rows[slot];
        if (row == null) {
            return -6;
        }
        if (row.length % 4 != 0) {
            return -2;
        }
        for (int i = 0; i < row.length; i += 4) {
            if (row[i] < 0 || row[i] >= houses() || row[i + 1] < 0 || row[i + 1] >= things() || row[i + 2] < 0 || row[i + 2] > 9999 || row[i + 3] < 1 || row[i + 3] > 60) {
                return -2;
            }
        }
        List<Paper> open = new ArrayList<>();
        now.papers.stream().filter(p -> p.how == 0).forEach(open::add);
        List<Paper> left = new ArrayList<>(open);
        int wrong = 0;
        int first = -1;
        int argued = 0;
        for (int i = 0; i < row.length; i += 4) {
            long[] f = Arrays.copyOfRange(row, i, i + 4);
            Paper found = null;
            for (Paper p : left) {
                found = found == null && p.thief == f[0] && p.thing == f[1] && p.day == f[3] && town.worth.get(p.thing) == f[2] ? p : found;
            }
            if (found != null) {
                left.remove(found);
                continue;
            }
            wrong++;
            first = first < 0 ? i / 4 : first;
            argued += town.worth.get((int) f[1]) != f[2] && open.stream().anyMatch(p -> p.thief == f[0] && p.thing == f[1] && p.day == f[3]) ? 1 : 0;
        }
        return what == 0 ? wrong : what == 1 ? first : argued;
    }

    // ---- drawn ----

    State drawnState(int seed, int n, List<Integer> failed) {
        State s = now.copy();
        java.math.BigInteger[] x = {java.math.BigInteger.valueOf(seed)};
        for (int i = 0; i < n; i++) {
            for (int house = 0; house < houses(); house++) {
                if (draw(x, 100) < town.odds && things() > 0) {
                    int thing = draw(x, things());
                    if (maySteal(s, house, thing)) {
                        theft(s, house, thing, s.day + 7);
                    }
                }
            }
            failed.addAll(pass(s));
        }
        return s;
    }

    static int draw(java.math.BigInteger[] x, int n) {
        x[0] = x[0].multiply(java.math.BigInteger.valueOf(1103515245)).add(java.math.BigInteger.valueOf(12345)).mod(java.math.BigInteger.valueOf(2147483648L));
        return x[0].divide(java.math.BigInteger.valueOf(65536)).mod(java.math.BigInteger.valueOf(n)).intValueExact();
    }

    int drawn(int seed, int n, int what) {
        if (none() || seed < 0 || seed > 2000000000 || n < 0 || n > 40 || what < 0 || what > 2) {
            return -2;
        }
        List<Integer> failed = new ArrayList<>();
        State s = drawnState(seed, n, failed);
        return what == 0 ? failed.size() : what == 1 ? s.papers.size() : houses() == 0 ? -1 : s.purse[0];
    }

    int luck(int seed, int m, int n, int thing, int house) {
        if (seed < 0 || seed > 2000000000 || m < 1 || m > 20 || n < 0 || n > 40 || !t(thing) || !h(house)) {
            return -2;
        }
        int lucky = 0;
        for (int i = 0; i < m; i++) {
            lucky += drawnState(seed + i, n, new ArrayList<>()).at(thing) == house ? 1 : 0;
        }
        return lucky;
    }

    // ---- rates, counts, images ----

    int rate(int thing, int n) {
        if (!t(thing) || n < 1 || n > 999) {
            return -2;
        }
        return before.isEmpty() ? town.worth.set(thing, n) : -5;
    }

    int want(int house, int thing, int n) {
        if (!h(house) || !t(thing) || n < 0 || n > 500) {
            return -2;
        }
        if (!before.isEmpty()) {
            return -5;
        }
        int was = town.want[house][thing];
        town.want[house][thing] = n;
        return was;
    }

    int count(int what) {
        return switch (what) {
            case 0 -> town.eats;
            case 1 -> town.carry;
            case 2 -> town.odds;
            case 3 -> houses();
            case 4 -> things();
            case 5 -> now.papers.size();
            case 6 -> before.size();
            case 7 -> town.lines;
            case 8 -> tape.length();
            case 9 -> (int) Arrays.stream(rows).filter(r -> r != null).count();
            default -> -1;
        };
    }

    static Deque<State> copy(Deque<State> states) {
        Deque<State> copy = new ArrayDeque<>();
        for (State s : states) {
            copy.addLast(s.copy());
        }
        return copy;
    }

    int image(int k) {
        if (k < 0 || k > 2) {
            return -2;
        }
        keptTown[k] = town.copy();
        keptNow[k] = now.copy();
        keptBefore.set(k, copy(before));
        return 0;
    }

    int back(int k) {
        if (k < 0 || k > 2) {
            return -2;
        }
        if (keptTown[k] == null) {
            return -6;
        }
        town = keptTown[k].copy();
        now = keptNow[k].copy();
        before = copy(keptBefore.get(k));
        return 0;
    }

    // ---- rows ----

    int row(int slot, int width, int n) {
        if (slot < 0 || slot > 3 || width < 0 || width > 3 || n > 60) {
            return -2;
        }
        if (n < 0) {
            return -3;
        }
        rows[slot] = new long[n];
        widths[slot] = width;
        return 0;
    }

    int write(int slot, int i, long v) {
        if (slot < 0 || slot > 3) {
            return -2;
        }
        if (rows[slot] == null) {
            return -6;
        }
        if (i < 0 || i >= rows[slot].length) {
            return -7;
        }
        int bits = 64 - (8 << widths[slot]);
        rows[slot][i] = v << bits >> bits;
        return 0;
    }

    int paste(int slot, int i, int to, int k, int n) {
        if (slot < 0 || slot > 3 || to < 0 || to > 3) {
            return -2;
        }
        if (rows[slot] == null || rows[to] == null) {
            return -6;
        }
        if (widths[slot] != widths[to]) {
            return -8;
        }
        if (i < 0 || k < 0 || n < 0 || (long) i + n > rows[slot].length || (long) k + n > rows[to].length) {
            return -7;
        }
        long[] were = rows[slot].clone();
        for (int j = 0; j < n; j++) {
            rows[to][k + j] = were[i + j];
        }
        return 0;
    }
}
