import java.util.Random;

/** Random runs of all calls, each answer held against the model's; the seeds are fixed. */
public final class ModelTest {
    private static final Checks T = new Checks("ModelTest");
    private static final int RUNS = 600;
    private static final int CALLS = 480;
    private static final String[] WORDS = {"city", "eats", "carry", "odds", "house", "purse", "locked", "thing", "at", "worth", "want", ";", "7", "x", "#"};

    private final Random random;
    private final String run;
    private final ReceiptLeft x = new ReceiptLeft();
    private final Model m = new Model();
    private final boolean crowded;

    private ModelTest(int seed) {
        random = new Random(seed);
        run = "run " + seed + " ";
        crowded = seed % 3 == 0;
    }

    public static void main(String[] args) {
        int runs = args.length > 0 ? Integer.parseInt(args[0]) : RUNS;
        for (int seed = 1; seed <= runs; seed++) {
            ModelTest test = new ModelTest(seed);
            for (int call = 0; call < CALLS; call++) {
                test.call();
            }
        }
        T.finish();
    }

    private int upTo(int n) {
        return random.nextInt(n + 1);
    }

    /** Mostly one of 0 .. most, at times just beyond, or far. */
    private int about(int most) {
        int dice = random.nextInt(40);
        if (dice == 0) {
            return random.nextBoolean() ? -1 : most + 1;
        }
        if (dice == 1 && random.nextInt(4) == 0) {
            return random.nextBoolean() ? Integer.MIN_VALUE : Integer.MAX_VALUE;
        }
        return random.nextInt(most + 1);
    }

    private int house() {
        return about(Math.max(0, m.houses() - 1));
    }

    private int thing() {
        return about(Math.max(0, m.things() - 1));
    }

    private int paper() {
        return about(Math.max(0, m.now.papers.size() - 1));
    }

    private int slot() {
        return about(random.nextInt(3) == 0 ? 3 : 1);
    }

    private String text() {
        StringBuilder s = new StringBuilder();
        s.append("city eats ").append(upTo(50)).append(" carry ").append(1 + upTo(random.nextBoolean() ? 1 : 5)).append("\nodds ").append(upTo(100)).append(';');
        int houses = crowded ? 2 + upTo(3) : upTo(5);
        int things = houses == 0 ? 0 : crowded ? 1 + upTo(1) : upTo(6);
        for (int i = 0; i < houses; i++) {
            s.append("house purse ").append(upTo(random.nextBoolean() ? 50 : 900)).append(random.nextInt(5) == 0 ? " locked;" : ";");
        }
        for (int i = 0; i < things; i++) {
            s.append(" thing at ").append(upTo(houses - 1)).append(" worth ").append(1 + upTo(random.nextInt(3) == 0 ? 998 : 20)).append(';');
        }
        for (int i = upTo(12); things > 0 && i > 0; i--) {
            s.append("want ").append(upTo(houses - 1)).append(' ').append(upTo(things - 1)).append(' ').append(1 + upTo(random.nextBoolean() ? 9 : 499)).append(" ;");
        }
        return s.toString();
    }

    private String spoiled(String text) {
        StringBuilder s = new StringBuilder(text);
        int at = random.nextInt(text.length());
        switch (random.nextInt(6)) {
            case 0 -> s.setLength(at);
            case 1 -> s.deleteCharAt(at);
            case 2 -> s.setCharAt(at, (char) random.nextInt(256));
            case 3 -> s.insert(at, WORDS[random.nextInt(WORDS.length)]);
            case 4 -> s.insert(at, random.nextInt(1200));
            default -> {
                int end = text.indexOf(';', at) + 1;
                s.insert(end, " " + WORDS[random.nextInt(WORDS.length)] + " ");
                s.append(end > 0 ? text.substring(Math.min(at, end)) : "");
            }
        }
        return s.toString();
    }

    private void due(String call, long got, long want) {
        T.due(run + call, got, want);
    }

    private void tell() {
        String text = random.nextInt(4) == 0 ? spoiled(text()) : text();
        text = text.length() > 800 ? text.substring(0, 800) : text;
        int before = m.tape.length();
        for (int i = 0; i < text.length(); i += 20) {
            int[] n = new int[5];
            for (int j = 0; j < 20; j++) {
                n[j / 4] = n[j / 4] << 8 | (i + j < text.length() ? text.charAt(i + j) : 32);
            }
            due("feed", x.feed(n[0], n[1], n[2], n[3], n[4]), m.feed(n));
        }
        int end = before + text.length();
        due("end", x.end(end), m.end(end));
        due("city of " + m.tape, x.city(), m.city());
        due("fault(0)", x.fault(0), m.fault(0));
        due("fault(1)", x.fault(1), m.fault(1));
        due("count(8)", x.count(8), m.count(8));
        if (random.nextInt(8) != 0) {
            due("end(0)", x.end(0), m.end(0));
        }
    }

    private void call() {
        if (m.none() && random.nextInt(4) != 0) {
            tell();
            return;
        }
        int kind = random.nextInt(100);
        if (kind < 45) {
            act();
        } else if (kind < 60) {
            askNow();
        } else if (kind < 75) {
            askTitles();
        } else if (kind < 85) {
            askAhead();
        } else if (kind < 92) {
            askPlans();
        } else {
            rest();
        }
    }

    private void act() {
        int a = house();
        int b = thing();
        int p = paper();
        switch (random.nextInt(crowded ? 22 : 14)) {
            case 1 -> due("sell", x.sell(p, a), m.sell(p, a));
            case 2 -> due("brings", x.brings(p), m.brings(p));
            case 3 -> due("strike", x.strike(p), m.strike(p));
            case 4 -> {
                int is = about(1);
                due("lock", x.lock(a, is), m.lock(a, is));
            }
            case 5, 6 -> due("night", x.night(), m.night());
            case 7 -> due("undo", x.undo(), m.undo());
            case 8 -> {
                if (random.nextInt(12) == 0) {
                    due("anew", x.anew(), m.anew());
                }
            }
            default -> {
                int day = random.nextInt(3) == 0 ? about(60) : m.now.day + upTo(9);
                due("steal", x.steal(a, b, day), m.steal(a, b, day));
            }
        }
    }

    private void askNow() {
        int what = about(4);
        int a = house();
        int b = thing();
        int p = paper();
        due("house", x.house(a, what), m.house(a, what));
        due("thing", x.thing(b, what), m.thing(b, what));
        due("value", x.value(a, b), m.value(a, b));
        due("paper", x.paper(p, what), m.paper(p, what));
        due("price", x.price(p), m.price(p));
        due("net", x.net(a), m.net(a));
        due("now", x.now(what), m.now(what));
        due("count", x.count(what), m.count(what));
        due("fault", x.fault(what), m.fault(what));
    }

    private void askTitles() {
        int a = house();
        int b = thing();
        int i = about(7);
        due("owner", x.owner(b), m.owner(b));
        due("chain", x.chain(b, i), m.chain(b, i));
        due("rings", x.rings(), m.rings());
        due("owns", x.owns(a), m.owns(a));
        due("twice", x.twice(), m.twice());
        if (m.canStrike()) {
            due("strikes", x.strikes(), m.strikes());
            due("struck", x.struck(), m.struck());
        } else {
            int struck = x.struck();
            due("struck is clean", m.clean(struck) ? 1 : 0, 1);
            due("strikes of many", x.strikes(), Integer.bitCount(struck));
        }
        due("trail", x.trail(b, i), m.trail(b, i));
        due("went", x.went(b), m.went(b));
        due("lies", x.lies(a), m.lies(a));
        due("poorest", x.poorest(), m.poorest());
    }

    private void askAhead() {
        int day = about(60);
        int a = house();
        int b = thing();
        due("due", x.due(day), m.due(day));
        due("monday", x.monday(), m.monday());
        due("lacks", x.lacks(a), m.lacks(a));
        due("needs", x.needs(a), m.needs(a));
        due("fails", x.fails(day), m.fails(day));
        due("later", x.later(b, day), m.later(b, day));
        due("purse", x.purse(a, day), m.purse(a, day));
        due("run", x.run(), m.run());
        due("hit", x.hit(a), m.hit(a));
        due("hits", x.hits(a), m.hits(a));
        int seed = random.nextInt(3) == 0 ? about(2000000000) : upTo(100);
        int n = about(40);
        int what = about(2);
        int times = about(20);
        due("drawn", x.drawn(seed, n, what), m.drawn(seed, n, what));
        due("luck", x.luck(seed, times, n, b, a), m.luck(seed, times, n, b, a));
    }

    private void askPlans() {
        int a = house();
        int b = thing();
        int n = about(4);
        int i = about(3);
        int other = house();
        due("plan", x.plan(a, n), m.plan(a, n));
        due("plans", x.plans(a, n, i), m.plans(a, n, i));
        due("change", x.change(a, other), m.change(a, other));
        due("deal", x.deal(), m.deal());
        due("deals", x.deals(b), m.deals(b));
        int cost = random.nextBoolean() ? about(999) : upTo(12);
        cost = m.h(a) && m.t(b) && random.nextBoolean() ? m.town.want[a][b] : cost;
        due("rests", x.rests(cost), m.rests(cost));
        due("rest", x.rest(cost), m.rest(cost));
        due("dear", x.dear(), m.dear());
        int to = about(random.nextBoolean() ? 500 : 9);
        due("rate", x.rate(b, to), m.rate(b, to));
        due("want", x.want(a, b, to), m.want(a, b, to));
    }

    private void rest() {
        int k = about(2);
        int what = about(9);
        switch (random.nextInt(9)) {
            case 0 -> due("image", x.image(k), m.image(k));
            case 1 -> due("back", x.back(k), m.back(k));
            case 2 -> {
                if (random.nextInt(3) == 0) {
                    tell();
                }
            }
            case 3 -> rows();
            case 4 -> due("count", x.count(what), m.count(what));
            case 5 -> {
                int n = about(30);
                due("end", x.end(n), m.end(n));
                due("feed", x.feed(n, n, n, n, n), m.feed(n, n, n, n, n));
            }
            default -> audits();
        }
    }

    private void rows() {
        int s = slot();
        int to = slot();
        int width = about(random.nextBoolean() ? 1 : 3);
        int n = about(60);
        due("row", x.row(s, width, n), m.row(s, width, n));
        int i = about(20);
        int k = about(20);
        long v = random.nextLong();
        due("write", x.write(s, i, v), m.write(s, i, v));
        n = about(20);
        due("paste", x.paste(s, i, to, k, n), m.paste(s, i, to, k, n));
        asked(s);
        asked(to);
    }

    /** A row of PAPERS that there are, some told otherwise. */
    private void audits() {
        int s = upTo(3);
        int n = 1 + upTo(8);
        int width = random.nextInt(8) == 0 ? 0 : 1 + upTo(2);
        due("row", x.row(s, width, 4 * n), m.row(s, width, 4 * n));
        for (int i = 0; i < n; i++) {
            int p = m.now.papers.isEmpty() ? -1 : random.nextInt(m.now.papers.size());
            int thing = Math.max(0, m.paper(p, 1));
            int[] f = {Math.max(0, m.paper(p, 0)), thing, Math.max(0, m.thing(thing, 0)), Math.max(1, m.paper(p, 3))};
            if (random.nextInt(3) == 0) {
                int field = random.nextInt(4);
                f[field] = random.nextInt(field == 2 ? 30 : field == 3 ? 12 : 4);
            }
            for (int j = 0; j < 4; j++) {
                due("write", x.write(s, 4 * i + j, f[j]), m.write(s, 4 * i + j, f[j]));
            }
        }
        asked(s);
        int to = slot();
        int from = 4 * upTo(n);
        due("paste", x.paste(s, from, to, 0, 4), m.paste(s, from, to, 0, 4));
        asked(to);
    }

    private void asked(int s) {
        due("wrong", x.wrong(s), m.audit(s, 0));
        due("forged", x.forged(s), m.audit(s, 1));
        due("argued", x.argued(s), m.audit(s, 2));
        due("count(9)", x.count(9), m.count(9));
    }
}
