import java.math.BigInteger;
import java.util.ArrayList;
import java.util.Arrays;
import java.util.HashSet;
import java.util.List;
import java.util.Set;

/**
 * A second telling of the document, as plain as can be and with the whole Java library: kinds are
 * classes, faults are found by trying all that could still follow, orders are all made and sorted.
 */
final class Model {
    static final int NONE = -1, BAD = -2, STATE = -3, FULL = -4, NOT_ANY = -5;
    static final int NOTHING = -11, CAST = -12, PLACE = -13, SIZE = -14;
    static final long NO = Long.MIN_VALUE;

    /** A kind; what it does are Java's own methods, super and all. */
    static class Kind {
        final List<Integer> trace = new ArrayList<>();
        int i;
        int v;
        int asks(int x) { trace.add(10); return x + i; }
        int opens(int x) { trace.add(11); return asks(x) - v; }
        int tells(int x) { trace.add(12); return opens(x) * 2; }
    }
    static class Lonely extends Kind {
        @Override int opens(int x) { trace.add(20); return super.opens(x) ^ 6; }
    }
    static class Proud extends Kind {
        @Override int asks(int x) { trace.add(30); return super.asks(x * 3); }
    }
    static class Landlord extends Kind {
        @Override int tells(int x) { trace.add(40); return super.tells(x) + opens(1); }
    }
    static class Sad extends Lonely {
        @Override int asks(int x) { trace.add(50); return -super.asks(x); }
        @Override int opens(int x) { trace.add(51); return super.opens(x + 1); }
    }
    static class Vain extends Proud {
        @Override int tells(int x) { trace.add(60); return super.tells(x - i); }
    }
    static class Told extends Landlord {
        @Override int opens(int x) { trace.add(70); return super.opens(x) + super.asks(2); }
        @Override int asks(int x) { trace.add(71); return super.asks(x) ^ v; }
    }

    static Kind kind(int k) {
        switch (k) {
            case 0: return new Kind();
            case 1: return new Lonely();
            case 2: return new Proud();
            case 3: return new Landlord();
            case 4: return new Sad();
            case 5: return new Vain();
            case 6: return new Told();
            default: return null;
        }
    }

    static boolean under(int kind, int k) {
        Class<?>[] classes = {Kind.class, Lonely.class, Proud.class, Landlord.class, Sad.class, Vain.class, Told.class};
        return classes[k].isInstance(kind(kind));
    }

    record House(int kind, int v, int grain, Set<Integer> asked, List<Integer> row) {
        House grain(int n) { return new House(kind, v, n, asked, row); }
    }
    record One(int sack, int coins, int quickness) { }
    record Seen(int house, boolean in) { }
    record Night(int one, int house) { }

    /** All that an image holds; every list is made anew whenever it changes. */
    record State(List<House> houses, List<One> folk, List<Integer> way, List<Seen> watched, List<Night> book, int held) { }

    List<House> houses = List.of();
    List<One> folk = List.of();
    List<Integer> way = List.of();
    List<Seen> watched = List.of();
    List<Night> book = List.of();
    int held = -1;
    final List<String> towns = new ArrayList<>();
    String text = "";
    State image;
    List<Integer> trace = List.of();
    final long[][] tapes = new long[6][];
    final int[] sorts = new int[6];

    static <T> List<T> with(List<T> list, T more) {
        List<T> all = new ArrayList<>(list);
        all.add(more);
        return List.copyOf(all);
    }
    static <T> List<T> set(List<T> list, int i, T other) {
        List<T> all = new ArrayList<>(list);
        all.set(i, other);
        return List.copyOf(all);
    }
    boolean isHouse(int h) { return h >= 0 && h < houses.size(); }
    boolean isOne(int f) { return f >= 0 && f < folk.size(); }
    static boolean in(int n, int from, int to) { return n >= from && n <= to; }

    // ---- houses, folk, towns

    int house(int kind, int v, int grain) {
        if (!in(kind, 0, 6)) return NONE;
        if (!in(v, 0, 9) || !in(grain, 0, 99)) return BAD;
        if (houses.size() == 6) return FULL;
        houses = with(houses, new House(kind, v, grain, Set.of(), List.of(1, 1, 1, 1)));
        return houses.size() - 1;
    }
    int folk(int sack, int coins, int quickness) {
        if (!isHouse(sack)) return NONE;
        if (!in(coins, 0, 9) || !in(quickness, 1, 9)) return BAD;
        if (folk.size() == 4) return FULL;
        folk = with(folk, new One(sack, coins, quickness));
        return folk.size() - 1;
    }
    int of(int house, int what) {
        if (!isHouse(house)) return NONE;
        House h = houses.get(house);
        if (what == 0) return h.kind;
        if (what == 1) return h.v;
        if (what == 2) return h.grain;
        if (what == 3) {
            int bits = 0;
            for (int f : h.asked) bits += 1 << f;
            return bits;
        }
        for (int f = 0; f < folk.size(); f++) {
            if (what == 10 + f) return slow(f, house, h);
            if (what == 20 + f) return far(f, house, h);
        }
        return NONE;
    }
    int who(int f, int what) {
        if (!isOne(f) || !in(what, 0, 2)) return NONE;
        One one = folk.get(f);
        return new int[] {one.sack, one.coins, one.quickness}[what];
    }
    int strew(int house, int n) {
        if (!isHouse(house)) return NONE;
        if (!in(n, 0, 99)) return BAD;
        int was = houses.get(house).grain;
        houses = set(houses, house, houses.get(house).grain(n));
        return was;
    }
    int ask(int house, int f, boolean is) {
        if (!isHouse(house) || !isOne(f)) return NONE;
        House h = houses.get(house);
        Set<Integer> asked = new HashSet<>(h.asked);
        int was = asked.contains(f) ? 1 : 0;
        if (is) asked.add(f); else asked.remove(f);
        houses = set(houses, house, new House(h.kind, h.v, h.grain, asked, h.row));
        return was;
    }
    int sack(int f, int house) {
        if (!isOne(f) || !isHouse(house)) return NONE;
        One one = folk.get(f);
        folk = set(folk, f, new One(house, one.coins, one.quickness));
        return one.sack;
    }
    int sell(int house, int kind, int v) {
        if (!isHouse(house) || !in(kind, 0, 6)) return NONE;
        if (!in(v, 0, 9)) return BAD;
        House h = houses.get(house);
        houses = set(houses, house, new House(kind, v, h.grain, h.asked, List.of(1, 1, 1, 1)));
        return h.kind;
    }
    int row(int house, int part, int n) {
        if (!isHouse(house) || !in(part, 0, 3)) return NONE;
        if (!in(n, 0, 1)) return BAD;
        House h = houses.get(house);
        if (h.kind != 6) return STATE;
        houses = set(houses, house, new House(h.kind, h.v, h.grain, h.asked, set(h.row, part, n)));
        return h.row.get(part);
    }
    int feed(int sign) {
        if (!in(sign, 0, 127)) return BAD;
        if (text.length() == 100) return FULL;
        text += (char) sign;
        return text.length();
    }
    int town() {
        if (towns.size() == 6) return FULL;
        int fault = fault(text);
        if (fault < 0) {
            towns.add(text);
            held = towns.size() - 1;
        }
        text = "";
        return fault < 0 ? held : -10 - fault;
    }

    /** What can follow a symbol of the grammar; N number, L letter, S sign; E0 .. E4 and so on by depth. */
    private static String[] follow(String symbol) {
        char c = symbol.charAt(0);
        int n = symbol.length() > 1 ? Integer.parseInt(symbol.substring(1)) : 0;
        switch (c) {
            case 'C': return n == 1 ? new String[] {"K"} : new String[] {"K", "K ; C" + (n - 1)};
            case 'K': return new String[] {"c o u n t _ N _ E0", "w a l k _ N _ E0", "d a w n _ N"};
            case 'E': return new String[] {"T" + n, "T" + n + " | E" + n};
            case 'T': return new String[] {"F" + n, "F" + n + " & T" + n};
            case 'F': return n == 4 ? new String[] {"L S N"}
                : new String[] {"L S N", "! F" + (n + 1), "( E" + (n + 1) + " )"};
            case 'N': return new String[] {"D", "D D"};
            case 'L': return "f h k v g c".split(" ");
            case 'S': return "< = >".split(" ");
            case 'D': return "0 1 2 3 4 5 6 7 8 9".split(" ");
            default: return null;
        }
    }

    /** Every way to go on from here that begins with a sign. */
    private static void spread(String due, Set<String> into) {
        int blank = due.indexOf(' ');
        String first = blank < 0 ? due : due.substring(0, blank);
        String[] all = first.isEmpty() ? null : follow(first);
        if (all == null) {
            into.add(due);
            return;
        }
        for (String one : all) spread(blank < 0 ? one : one + due.substring(blank), into);
    }

    /** The place of the fault; -1: none. */
    static int fault(String text) {
        Set<String> now = new HashSet<>();
        spread("C10", now);
        for (int at = 0; at < text.length(); at++) {
            char sign = text.charAt(at);
            String due = sign == ' ' ? "_" : sign == '_' ? "?" : "" + sign;
            Set<String> then = new HashSet<>();
            for (String one : now) {
                if (one.equals(due)) then.add("");
                if (one.startsWith(due + " ")) spread(one.substring(due.length() + 1), then);
            }
            if (then.isEmpty()) return at;
            now = then;
        }
        return now.contains("") ? -1 : text.length();
    }

    private List<String[]> clauses(String word) {
        List<String[]> all = new ArrayList<>();
        if (held < 0) return all;
        for (String clause : towns.get(held).split(";")) {
            String[] parts = clause.split(" ");
            if (parts[0].equals(word)) all.add(parts);
        }
        return all;
    }
    int dawn() {
        int last = 60;
        for (String[] clause : clauses("dawn")) last = Integer.parseInt(clause[1]);
        return last;
    }
    private int together(String word, int without, int f, int house, House h) {
        List<String[]> all = clauses(word);
        if (all.isEmpty()) return without;
        int sum = 0;
        for (String[] clause : all) if (holds(clause[2], f, house, h)) sum += Integer.parseInt(clause[1]);
        return sum;
    }
    private int slow(int f, int house, House h) { return together("count", 5, f, house, h); }
    private int far(int f, int house, House h) { return together("walk", 3, f, house, h); }

    /** Splits at a sign outside of all parentheses. */
    private static List<String> split(String e, char at) {
        List<String> parts = new ArrayList<>();
        int open = 0;
        int from = 0;
        for (int i = 0; i < e.length(); i++) {
            char c = e.charAt(i);
            open += c == '(' ? 1 : c == ')' ? -1 : 0;
            if (c == at && open == 0) {
                parts.add(e.substring(from, i));
                from = i + 1;
            }
        }
        parts.add(e.substring(from));
        return parts;
    }
    private boolean holds(String e, int f, int house, House h) {
        List<String> ors = split(e, '|');
        if (ors.size() > 1) return ors.stream().anyMatch(o -> holds(o, f, house, h));
        List<String> ands = split(e, '&');
        if (ands.size() > 1) return ands.stream().allMatch(a -> holds(a, f, house, h));
        if (e.charAt(0) == '!') return !holds(e.substring(1), f, house, h);
        if (e.charAt(0) == '(') return holds(e.substring(1, e.length() - 1), f, house, h);
        int value = 0;
        if (e.charAt(0) == 'f') value = f;
        if (e.charAt(0) == 'h') value = house;
        if (e.charAt(0) == 'k') value = h.kind;
        if (e.charAt(0) == 'v') value = h.v;
        if (e.charAt(0) == 'g') value = h.grain / 10;
        if (e.charAt(0) == 'c') value = folk.get(f).coins;
        int n = Integer.parseInt(e.substring(2));
        return e.charAt(1) == '<' ? value < n : e.charAt(1) == '=' ? value == n : value > n;
    }

    // ---- visits

    /** One on its way through a night. */
    final class Out {
        final int f;
        final List<House> street;
        int minute;
        int coins;
        int at;
        final Set<Integer> been = new HashSet<>();
        final Set<Integer> in = new HashSet<>();

        Out(int f, int minute, List<House> street) {
            this.f = f;
            this.minute = minute;
            this.street = street;
            coins = folk.get(f).coins;
            at = folk.get(f).sack;
        }
        boolean visit(int house) {
            House h = street.get(house);
            minute += far(f, house, h) * Math.abs(house - at);
            if (been.add(house)) minute += up(slow(f, house, h) * h.grain, folk.get(f).quickness);
            at = house;
            boolean is = minute < dawn() && lets(house);
            if (is) in.add(house);
            return is;
        }
        boolean lets(int house) {
            House h = street.get(house);
            if (h.asked.contains(f)) return true;
            Set<Integer> others = new HashSet<>(in);
            others.remove(house);
            boolean late = minute >= 5 * h.v;
            boolean known = others.size() >= h.v % 3;
            if (h.kind == 0) return false;
            if (h.kind == 1) return late;
            if (h.kind == 2) return known;
            if (h.kind == 4) return late || h.v > 7;
            if (h.kind == 5) return known && coins != 0;
            if (h.kind == 6 && h.row.get(minute % 4) == 0) return false;
            if (coins < h.v) return false;
            coins -= h.v;
            return true;
        }
    }
    static int up(int work, int by) { return (int) Math.ceil(work / (double) by); }

    private boolean once(int f, int house) { return new Out(f, 0, houses).visit(house); }

    int visit(int f, int house, int what) {
        if (!isOne(f) || !isHouse(house) || !in(what, 0, 2)) return NONE;
        Out out = new Out(f, 0, houses);
        int is = out.visit(house) ? 1 : 0;
        return new int[] {out.minute, is, out.coins}[what];
    }
    int way(int house) {
        if (house == -1) {
            way = List.of();
            return 0;
        }
        if (!isHouse(house)) return NONE;
        if (way.size() == 8) return FULL;
        way = with(way, house);
        return way.size();
    }
    int goes(int f, int what) {
        if (!isOne(f) || !in(what, 0, 3)) return NONE;
        Out out = new Out(f, 0, houses);
        int first = -5;
        for (int i = way.size() - 1, k = 0; k <= i; k++) {
            boolean is = out.visit(way.get(k));
            if (!is && first < 0) first = k;
        }
        return new int[] {out.minute, out.coins, bits(out.in), first}[what];
    }
    private static int bits(Set<Integer> set) {
        int bits = 0;
        for (int i : set) bits |= 1 << i;
        return bits;
    }
    private static void orders(List<Integer> sofar, List<Integer> left, List<List<Integer>> into) {
        if (left.isEmpty()) into.add(sofar);
        for (Integer one : left) {
            List<Integer> rest = new ArrayList<>(left);
            rest.remove(one);
            orders(with(sofar, one), rest, into);
        }
    }
    int round(int f, int set, int what) {
        if (!isOne(f) || !in(what, 0, 1) && !in(what, 10, 14)) return NONE;
        if (set < 0 || set >= 1 << houses.size()) return BAD;
        List<Integer> members = new ArrayList<>();
        for (int h = 0; h < houses.size(); h++) if ((set & 1 << h) != 0) members.add(h);
        if (members.size() > 5) return BAD;
        List<List<Integer>> all = new ArrayList<>();
        orders(List.of(), members, all);
        int[] ins = new int[all.size()];
        int[] minutes = new int[all.size()];
        int best = -1;
        for (int i = 0; i < all.size(); i++) {
            Out out = new Out(f, 0, houses);
            for (int h : all.get(i)) out.visit(h);
            ins[i] = out.in.size();
            minutes[i] = out.minute;
            if (best < 0 || ins[i] > ins[best] || ins[i] == ins[best] && minutes[i] < minutes[best]
                || ins[i] == ins[best] && minutes[i] == minutes[best] && Arrays.compare(row(all.get(i)), row(all.get(best))) < 0) best = i;
        }
        if (what == 0) return ins[best];
        if (what == 1) return minutes[best];
        return what - 10 < members.size() ? all.get(best).get(what - 10) : NOT_ANY;
    }
    private static int[] row(List<Integer> list) { return list.stream().mapToInt(i -> i).toArray(); }

    // ---- grain

    int keep(int house, int f) {
        if (!isHouse(house) || !isOne(f)) return NONE;
        for (int n = 0; n < 100; n++) {
            if (!new Out(f, 0, set(houses, house, houses.get(house).grain(n))).visit(house)) return n;
        }
        return NOT_ANY;
    }
    int more(int n, int what) {
        if (!in(what, 0, 1)) return NONE;
        if (!in(n, 0, 99)) return BAD;
        int best = NOT_ANY;
        int fewest = NOT_ANY;
        for (int h = houses.size() - 1; h >= 0; h--) {
            List<House> then = set(houses, h, houses.get(h).grain(Math.min(99, houses.get(h).grain + n)));
            int pairs = 0;
            for (int f = 0; f < folk.size(); f++) {
                for (int to = 0; to < houses.size(); to++) if (new Out(f, 0, then).visit(to)) pairs++;
            }
            if (best < 0 || pairs <= fewest) {
                best = h;
                fewest = pairs;
            }
        }
        return what == 0 ? best : fewest;
    }
    int share(int one, int other, int house, int what) {
        if (!isOne(one) || !isOne(other) || !isHouse(house) || !in(what, 0, 1)) return NONE;
        if (one == other) return BAD;
        House h = houses.get(house);
        int a = far(one, house, h) * Math.abs(house - folk.get(one).sack);
        int b = far(other, house, h) * Math.abs(house - folk.get(other).sack);
        int done = Math.max(a, b) + up(slow(one, house, h) * h.grain, folk.get(one).quickness + folk.get(other).quickness);
        if (what == 0) return done;
        if (done >= dawn()) return 0;
        return (new Out(one, done, houses).lets(house) ? 1 : 0) | (new Out(other, done, houses).lets(house) ? 2 : 0);
    }

    // ---- who, when, odds, books

    int watch(int house, boolean in) {
        if (house == -1) {
            watched = List.of();
            return 0;
        }
        if (!isHouse(house)) return NONE;
        if (watched.size() == 8) return FULL;
        watched = with(watched, new Seen(house, in));
        return watched.size();
    }
    int suspects() {
        int bits = 0;
        for (int f = 0; f < folk.size(); f++) {
            int one = f;
            if (watched.stream().allMatch(s -> once(one, s.house) == s.in)) bits |= 1 << f;
        }
        return bits;
    }
    int next() {
        int who = suspects();
        if (who == 0) return NOT_ANY;
        int best = NOT_ANY;
        int least = 99;
        for (int h = 0; h < houses.size(); h++) {
            int ins = 0;
            int outs = 0;
            for (int f = 0; f < folk.size(); f++) {
                if ((who & 1 << f) == 0) continue;
                if (once(f, h)) ins++; else outs++;
            }
            if (Math.abs(ins - outs) < least) {
                least = Math.abs(ins - outs);
                best = h;
            }
        }
        return best;
    }
    int when(int f, int house) {
        if (!isOne(f) || !isHouse(house)) return NONE;
        for (int m = 0; m <= 98; m++) if (new Out(f, m, houses).visit(house)) return m;
        return NOT_ANY;
    }
    private static long side(long above, long below, int part) {
        long common = BigInteger.valueOf(above).gcd(BigInteger.valueOf(below)).longValue();
        return (part == 0 ? above : below) / common;
    }
    long odds(int f, int house, int part) {
        if (!isOne(f) || !isHouse(house) || !in(part, 0, 1)) return NO;
        int good = 0;
        for (int m = 0; m < 60; m++) if (new Out(f, m, houses).visit(house)) good++;
        return side(good, 60, part);
    }
    long mean(int house, int part) {
        if (!isHouse(house) || !in(part, 0, 1) || folk.isEmpty()) return NO;
        int sum = 0;
        for (int f = 0; f < folk.size(); f++) sum += visit(f, house, 0);
        return side(sum, folk.size(), part);
    }
    int book(int f, int house) {
        if (f == -1) {
            book = List.of();
            return 0;
        }
        if (!isOne(f) || !isHouse(house)) return NONE;
        if (book.size() == 12) return FULL;
        book = with(book, new Night(f, house));
        return book.size();
    }
    int looked() {
        return book.stream().filter(n -> !once(n.one, n.house)).mapToInt(Night::one).findFirst().orElse(NOT_ANY);
    }

    // ---- judging, the image, acts, tapes

    private static boolean isTape(int tape) { return in(tape, 0, 5); }

    int judge(int tape, int i) {
        if (!isTape(tape)) return NONE;
        if (tapes[tape] != null && sorts[tape] != 0) return CAST;
        if (houses.isEmpty()) return NOT_ANY;
        if (tapes[tape] == null || i < 0) return 100;
        for (int h = 0; h < houses.size(); h++) {
            long place = (long) i + h;
            if (place >= tapes[tape].length) return 100 + h;
            if (tapes[tape][(int) place] != houses.get(h).grain) return h;
        }
        return NOT_ANY;
    }
    int image() {
        image = new State(houses, folk, way, watched, book, held);
        return houses.size();
    }
    int undo() {
        if (image == null) return STATE;
        houses = image.houses;
        folk = image.folk;
        way = image.way;
        watched = image.watched;
        book = image.book;
        held = image.held;
        return houses.size();
    }
    int act(int house, int act, int x) {
        trace = List.of();
        if (!isHouse(house) || !in(act, 0, 2)) return 0;
        Kind kind = kind(houses.get(house).kind);
        kind.i = house;
        kind.v = houses.get(house).v;
        int answer = act == 0 ? kind.asks(x) : act == 1 ? kind.opens(x) : kind.tells(x);
        trace = kind.trace;
        return answer;
    }
    int trace(int i) { return i >= 0 && i < Math.min(20, trace.size()) ? trace.get(i) : NONE; }

    int taken(int house, int k) {
        if (!in(k, 0, 6)) return BAD;
        if (!isHouse(house)) return NOTHING;
        return under(houses.get(house).kind, k) ? houses.get(house).kind : CAST;
    }
    int count(int what) {
        if (!in(what, 0, 7)) return BAD;
        return new int[] {houses.size(), folk.size(), towns.size(), way.size(), watched.size(), book.size(),
            text.length(), trace.size()}[what];
    }
    int tape(int tape, int sort, int n) {
        if (!isTape(tape)) return NONE;
        if (sort == -1) {
            tapes[tape] = null;
            return 1;
        }
        if (!in(sort, 0, 4) || n > 60) return BAD;
        if (n < 0) return SIZE;
        tapes[tape] = new long[n];
        sorts[tape] = sort;
        return 1;
    }
    int item(int tape, int i, long v) {
        if (!isTape(tape)) return NONE;
        if (tapes[tape] == null) return NOTHING;
        if (i < 0 || i >= tapes[tape].length) return PLACE;
        int[] widths = {8, 16, 32, 64};
        tapes[tape][i] = sorts[tape] == 4 ? Math.min(1, Math.abs(Long.signum(v)))
            : v << (64 - widths[sorts[tape]]) >> (64 - widths[sorts[tape]]);
        return 1;
    }
    long read(int tape, int i) {
        if (!isTape(tape) || tapes[tape] == null || i < 0 || i >= tapes[tape].length) return NO;
        return tapes[tape][i];
    }
    int shift(int tape, int i, int other, int j, int n) {
        if (!isTape(tape) || !isTape(other)) return NONE;
        if (tapes[tape] == null || tapes[other] == null) return NOTHING;
        if (sorts[tape] != sorts[other]) return CAST;
        if (n < 0 || i < 0 || j < 0 || (long) i + n > tapes[tape].length || (long) j + n > tapes[other].length) return PLACE;
        long[] before = tapes[tape].clone();
        for (int k = 0; k < n; k++) tapes[other][j + k] = before[i + k];
        return n;
    }
}
