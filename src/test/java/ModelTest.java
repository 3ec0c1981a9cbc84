import java.util.Random;

/** Long runs of calls, drawn by fixed seeds, on the class and on the model: all answers are alike. */
public final class ModelTest {
    private static final int RUNS = 1200, CALLS = 512;
    private static final int[] WILD = {Integer.MIN_VALUE, Integer.MAX_VALUE, -2, 100, 63, 64, 7, 10};
    private static final Checks C = new Checks();

    private final Random random;
    private final String run;
    private final AskedIn x = new AskedIn();
    private final Model m = new Model();

    private ModelTest(int seed) {
        random = new Random(seed);
        run = "run " + seed + ": ";
    }

    public static void main(String[] args) {
        for (int seed = 0; seed < RUNS && C.wrong() == 0; seed++) {
            new ModelTest(seed).runAll();
        }
        C.end("ModelTest");
    }

    private void runAll() {
        int call = 0;
        if (random.nextInt(8) != 0) {
            call = open();
        }
        while (call < CALLS) {
            call += step();
        }
    }

    /** Most runs begin with a street, folk and a town, so that there is much to ask of. */
    private int open() {
        int houses = 1 + random.nextInt(6);
        for (int i = 0; i < houses; i++) {
            house(random.nextInt(7), random.nextInt(10), random.nextBoolean() ? 0 : random.nextInt(30));
        }
        int folk = random.nextInt(5);
        for (int i = 0; i < folk; i++) {
            folk(random.nextInt(houses), random.nextInt(10), 1 + random.nextInt(9));
        }
        return houses + folk + (random.nextBoolean() ? text(whole()) : 0);
    }

    private int pick(int most) {
        int sort = random.nextInt(60);
        return sort == 0 ? WILD[random.nextInt(WILD.length)] : sort == 1 ? -1 : sort == 2 ? most : random.nextInt(Math.max(most, 1));
    }

    private int aHouse() {
        return pick(Math.max(1, m.houses.size()));
    }

    private int anOne() {
        return pick(Math.max(1, m.folk.size()));
    }

    private void due(String call, long got, long want) {
        C.due(run + call, got, want);
    }

    private void house(int kind, int v, int grain) {
        due("house(" + kind + ", " + v + ", " + grain + ")", x.house(kind, v, grain), m.house(kind, v, grain));
    }

    private void folk(int sack, int coins, int quickness) {
        due("folk(" + sack + ", " + coins + ", " + quickness + ")", x.folk(sack, coins, quickness), m.folk(sack, coins, quickness));
    }

    private String number() {
        return random.nextInt(3) == 0 ? "" + random.nextInt(100) : "" + random.nextInt(10);
    }

    private String either(int nested) {
        StringBuilder all = new StringBuilder(part(nested));
        while (random.nextInt(3) == 0) {
            all.append(random.nextBoolean() ? "|" : "&").append(part(nested));
        }
        return all.toString();
    }

    private String part(int nested) {
        int sort = random.nextInt(nested > 4 ? 1 : 8);
        if (sort == 6) {
            return "!" + part(nested + 1);
        }
        if (sort == 7) {
            return "(" + either(nested + 1) + ")";
        }
        return "" + "fhkvgc".charAt(random.nextInt(6)) + "<=>".charAt(random.nextInt(3)) + number();
    }

    private String clause() {
        int sort = random.nextInt(5);
        return sort == 0 ? "dawn " + (30 + random.nextInt(70)) : (sort < 3 ? "count " : "walk ") + number() + " " + either(0);
    }

    private String whole() {
        StringBuilder all = new StringBuilder(clause());
        int more = random.nextInt(20) == 0 ? 8 + random.nextInt(3) : random.nextInt(5);
        for (int i = 0; i < more; i++) {
            all.append(';').append(more > 7 ? "dawn " + random.nextInt(100) : clause());
        }
        return all.toString();
    }

    /** A text with one sign changed, taken out, put in, or with its end cut. */
    private String spoilt(String text) {
        int at = random.nextInt(text.length());
        String signs = "cwd ;()!|&<=>fhkvg019x";
        char sign = signs.charAt(random.nextInt(signs.length()));
        switch (random.nextInt(4)) {
            case 0: return text.substring(0, at) + sign + text.substring(at + 1);
            case 1: return text.substring(0, at) + text.substring(at + 1);
            case 2: return text.substring(0, at) + sign + text.substring(at);
            default: return text.substring(0, at);
        }
    }

    private int text(String text) {
        for (int i = 0; i < text.length(); i++) {
            due("feed", x.feed(text.charAt(i)), m.feed(text.charAt(i)));
        }
        due("town() of " + m.text, x.town(), m.town());
        return text.length() + 1;
    }

    private int step() {
        int sort = random.nextInt(45);
        if (sort < 13) {
            change(sort);
        } else if (sort == 13) {
            return text(random.nextInt(3) == 0 ? spoilt(whole()) : whole());
        } else if (sort < 30) {
            ask(sort);
        } else if (sort < 38) {
            tapes(sort);
        } else {
            rest(sort);
        }
        return 1;
    }

    private void change(int sort) {
        int h = aHouse();
        int f = anOne();
        int n = pick(10);
        int k = pick(7);
        boolean is = random.nextBoolean();
        int grain = pick(random.nextBoolean() ? 100 : 20);
        switch (sort) {
            case 0: house(k, n, grain); break;
            case 1: folk(h, n, pick(10)); break;
            case 2: due("strew " + h + " " + grain, x.strew(h, grain), m.strew(h, grain)); break;
            case 3: due("ask " + h + " " + f + " " + is, x.ask(h, f, is), m.ask(h, f, is)); break;
            case 4: due("sack " + f + " " + h, x.sack(f, h), m.sack(f, h)); break;
            case 5: due("sell " + h + " " + k + " " + n, x.sell(h, k, n), m.sell(h, k, n)); break;
            case 6: {
                int part = pick(4);
                int to = pick(2);
                due("row " + h + " " + part + " " + to, x.row(h, part, to), m.row(h, part, to));
                break;
            }
            case 7: due("feed " + grain, x.feed(grain), m.feed(grain)); break;
            case 8: due("way " + h, x.way(h), m.way(h)); break;
            case 9: due("watch " + h + " " + is, x.watch(h, is), m.watch(h, is)); break;
            case 10: due("book " + f + " " + h, x.book(f, h), m.book(f, h)); break;
            case 11: due("image", x.image(), m.image()); break;
            default: due("undo", x.undo(), m.undo()); break;
        }
    }

    private void ask(int sort) {
        int h = aHouse();
        int f = anOne();
        int other = anOne();
        int what = pick(4);
        switch (sort) {
            case 14: {
                int of = random.nextBoolean() ? pick(25) : 10 * (1 + random.nextInt(2)) + pick(4);
                due("of " + h + " " + of, x.of(h, of), m.of(h, of));
                break;
            }
            case 15: due("who " + f + " " + what, x.who(f, what), m.who(f, what)); break;
            case 16: due("dawn", x.dawn(), m.dawn()); break;
            case 17: due("visit " + f + " " + h + " " + what, x.visit(f, h, what), m.visit(f, h, what)); break;
            case 18: due("goes " + f + " " + what, x.goes(f, what), m.goes(f, what)); break;
            case 19: {
                int set = pick(1 << m.houses.size());
                int of = random.nextBoolean() ? pick(2) : 10 + pick(5);
                due("round " + f + " " + set + " " + of, x.round(f, set, of), m.round(f, set, of));
                break;
            }
            case 20: due("keep " + h + " " + f, x.keep(h, f), m.keep(h, f)); break;
            case 21: {
                int n = pick(100);
                int of = pick(2);
                due("more " + n + " " + of, x.more(n, of), m.more(n, of));
                break;
            }
            case 22: {
                int of = pick(2);
                due("share " + f + " " + other + " " + h + " " + of, x.share(f, other, h, of), m.share(f, other, h, of));
                break;
            }
            case 23: due("suspects", x.suspects(), m.suspects()); break;
            case 24: due("next", x.next(), m.next()); break;
            case 25: due("when " + f + " " + h, x.when(f, h), m.when(f, h)); break;
            case 26: due("odds", x.odds(f, h, what / 2), m.odds(f, h, what / 2)); break;
            case 27: due("mean", x.mean(h, what / 2), m.mean(h, what / 2)); break;
            case 28: due("looked", x.looked(), m.looked()); break;
            default: due("goes again", x.goes(other, what), m.goes(other, what)); break;
        }
    }

    private void tapes(int sort) {
        int t = pick(3);
        int i = pick(8);
        int other = pick(3);
        int j = pick(8);
        int n = pick(random.nextInt(5) == 0 ? 70 : 8);
        long v = random.nextBoolean() ? random.nextLong() : random.nextInt(100);
        switch (sort) {
            case 30: {
                int of = random.nextBoolean() ? 0 : pick(5);
                due("tape", x.tape(t, of, n), m.tape(t, of, n));
                break;
            }
            case 31:
            case 32: due("item", x.item(t, i, v), m.item(t, i, v)); break;
            case 33: due("read", x.read(t, i), m.read(t, i)); break;
            case 34: due("shift", x.shift(t, i, other, j, n), m.shift(t, i, other, j, n)); break;
            case 35: copyGrain(t, i); break;
            default: due("judge", x.judge(t, i), m.judge(t, i)); break;
        }
    }

    /** Puts the grain of some houses on a tape, so that judging has something to agree with. */
    private void copyGrain(int tape, int from) {
        int n = random.nextInt(7);
        for (int h = 0; h < n; h++) {
            int grain = m.of(h, 2);
            due("item of grain", x.item(tape, from + h, grain), m.item(tape, from + h, grain));
        }
    }

    private void rest(int sort) {
        int h = aHouse();
        int n = pick(13);
        switch (sort) {
            case 38:
            case 39: {
                int act = pick(3);
                int with = random.nextBoolean() ? random.nextInt() : pick(20);
                due("act " + h + " " + act + " " + with, x.act(h, act, with), m.act(h, act, with));
                break;
            }
            case 40: due("trace " + n, x.trace(n), m.trace(n)); break;
            case 41: {
                int k = pick(7);
                due("taken " + h + " " + k, x.taken(h, k), m.taken(h, k));
                break;
            }
            default: {
                int what = pick(8);
                due("count " + what, x.count(what), m.count(what));
                break;
            }
        }
    }
}
