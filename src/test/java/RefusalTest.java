import java.util.ArrayList;
import java.util.List;
import java.util.function.ToLongFunction;

/**
 * Each refused call by itself: its answer, the first that the call's words name, and that it changes
 * nothing; and that what is asked changes nothing. Two objects are made alike, one is called, and
 * all that can be asked of both is compared.
 */
public final class RefusalTest {
    private static final Checks C = new Checks();
    private static final long NO = Long.MIN_VALUE;
    private static final int MIN = Integer.MIN_VALUE, MAX = Integer.MAX_VALUE;
    private static final int NONE = -1, BAD = -2, STATE = -3, FULL = -4, NOT_ANY = -5;
    private static final int NOTHING = -11, CAST = -12, PLACE = -13, SIZE = -14;

    /** How an object is made that a call is refused by. */
    private enum Begun { EMPTY, HALF, FILLED }

    public static void main(String[] args) throws IllegalAccessException {
        C.runAll(RefusalTest.class, "refusal");
        C.runAll(RefusalTest.class, "asked");
        C.end("RefusalTest");
    }

    private static AskedIn begin(Begun begun) {
        switch (begun) {
            case HALF: return half();
            case FILLED: return filled();
            default: return new AskedIn();
        }
    }

    /** Houses 0 .. 2 (landlord, told, lonely), folk 0 and 1, a town, some of all else. */
    private static AskedIn half() {
        AskedIn x = new AskedIn();
        x.house(3, 2, 15);
        x.house(6, 1, 4);
        x.folk(1, 3, 4);
        Checks.town(x, "count 3 f=0;count 9 g>0;walk 4 h<9;dawn 50");
        x.image();
        x.house(1, 2, 0);
        x.folk(2, 1, 7);
        x.ask(0, 1, true);
        x.row(1, 2, 0);
        x.way(0);
        x.way(2);
        x.watch(0, true);
        x.book(0, 0);
        x.book(1, 1);
        Checks.feed(x, "dawn 5");
        for (int sort = 0; sort <= 4; sort++) {
            x.tape(sort, sort, sort == 2 ? 0 : 4);
            x.item(sort, 1, 15);
            x.item(sort, 2, 4);
        }
        x.act(1, 2, 3);
        return x;
    }

    /** All that can be full is full. */
    private static AskedIn filled() {
        AskedIn x = new AskedIn();
        int[] kinds = {0, 6, 2, 3, 4, 5};
        for (int i = 0; i < kinds.length; i++) {
            x.house(kinds[i], i, 5 * i);
        }
        for (int i = 0; i < 4; i++) {
            x.folk(i, 2 * i, i + 1);
        }
        for (int i = 0; i < 6; i++) {
            Checks.town(x, "dawn 4" + i);
        }
        for (int i = 0; i < 8; i++) {
            x.way(i % 6);
            x.watch(3, i > 8);
        }
        for (int i = 0; i < 12; i++) {
            x.book(i % 4, i % 6);
        }
        for (int i = 0; i < 100; i++) {
            x.feed('d');
        }
        x.tape(0, 0, 60);
        x.image();
        x.ask(2, 3, true);
        x.act(5, 2, 9);
        return x;
    }

    // ---- all that can be asked

    private static void lookAtHousesAndFolk(AskedIn x, List<Long> all) {
        for (int what = 0; what < 8; what++) {
            all.add((long) x.count(what));
        }
        for (int house = 0; house < x.count(0); house++) {
            for (int what = 0; what <= 3; what++) {
                all.add((long) x.of(house, what));
            }
        }
        for (int one = 0; one < x.count(1); one++) {
            for (int what = 0; what <= 3; what++) {
                all.add((long) x.who(one, what));
                all.add((long) x.goes(one, what));
            }
            all.add((long) x.of(0, 10 + one));
            all.add((long) x.of(0, 20 + one));
        }
        all.add((long) x.dawn());
        all.add((long) x.suspects());
        all.add((long) x.next());
        all.add((long) x.looked());
    }

    private static void lookAtTapesAndTrace(AskedIn x, List<Long> all) {
        for (int tape = 0; tape < 6; tape++) {
            all.add((long) x.shift(tape, 0, tape, 0, 0));
            for (int i = 0; i < 5; i++) {
                all.add(x.read(tape, i));
            }
            all.add(x.read(tape, 59));
            for (int sort = 0; sort < 5; sort++) {
                all.add((long) x.shift(tape, 0, sort, 0, 1));
            }
        }
        for (int i = 0; i < 13; i++) {
            all.add((long) x.trace(i));
        }
    }

    /** All rows of told houses, the text and the image; this changes the object, so it comes last. */
    private static void takeApart(AskedIn x, List<Long> all) {
        for (int part = 0; part < 4; part++) {
            all.add((long) x.row(1, part, 0));
        }
        all.add((long) x.town());
        all.add((long) x.dawn());
        all.add((long) x.undo());
        lookAtHousesAndFolk(x, all);
        for (int part = 0; part < 4; part++) {
            all.add((long) x.row(1, part, 0));
        }
    }

    private static List<Long> all(AskedIn x) {
        List<Long> all = new ArrayList<>();
        lookAtTapesAndTrace(x, all);
        lookAtHousesAndFolk(x, all);
        takeApart(x, all);
        return all;
    }

    private static void dueUnchanged(String call, Begun begun, AskedIn x) {
        List<Long> got = all(x);
        List<Long> want = all(begin(begun));
        C.due(call + " on " + begun + " changes nothing: " + got + " is not " + want, got.equals(want));
    }

    private static void refused(Begun begun, String call, ToLongFunction<AskedIn> made, long want) {
        AskedIn x = begin(begun);
        C.due(call + " on " + begun, made.applyAsLong(x), want);
        dueUnchanged(call, begun, x);
    }

    private static void empty(String call, ToLongFunction<AskedIn> made, long want) {
        refused(Begun.EMPTY, call, made, want);
    }

    private static void half(String call, ToLongFunction<AskedIn> made, long want) {
        refused(Begun.HALF, call, made, want);
    }

    private static void full(String call, ToLongFunction<AskedIn> made, long want) {
        refused(Begun.FILLED, call, made, want);
    }

    private static void everywhere(String call, ToLongFunction<AskedIn> made, long want) {
        for (Begun begun : Begun.values()) {
            refused(begun, call, made, want);
        }
    }

    private static void asked(String call, ToLongFunction<AskedIn> made) {
        for (Begun begun : Begun.values()) {
            AskedIn x = begin(begun);
            long first = made.applyAsLong(x);
            C.due(call + " again on " + begun, made.applyAsLong(x), first);
            dueUnchanged(call, begun, x);
        }
    }

    // ---- refused: houses, folk, towns

    private static void refusal02House() {
        everywhere("house(-1, 0, 0)", x -> x.house(-1, 0, 0), NONE);
        everywhere("house(7, 0, 0)", x -> x.house(7, 0, 0), NONE);
        everywhere("none ahead of bad", x -> x.house(7, 10, 100), NONE);
        everywhere("house(MIN, MIN, MIN)", x -> x.house(MIN, MIN, MIN), NONE);
        everywhere("house(MAX, MAX, MAX)", x -> x.house(MAX, MAX, MAX), NONE);
        everywhere("house(0, -1, 0)", x -> x.house(0, -1, 0), BAD);
        everywhere("house(0, 10, 0)", x -> x.house(0, 10, 0), BAD);
        everywhere("house(0, 0, -1)", x -> x.house(0, 0, -1), BAD);
        everywhere("house(0, 0, 100)", x -> x.house(0, 0, 100), BAD);
        full("house(6, 9, 99)", x -> x.house(6, 9, 99), FULL);
    }

    private static void refusal03Folk() {
        empty("folk(0, 0, 1)", x -> x.folk(0, 0, 1), NONE);
        everywhere("folk(-1, 0, 1)", x -> x.folk(-1, 0, 1), NONE);
        everywhere("folk(6, 10, 0)", x -> x.folk(6, 10, 0), NONE);
        half("folk(3, 0, 1)", x -> x.folk(3, 0, 1), NONE);
        half("folk(0, -1, 1)", x -> x.folk(0, -1, 1), BAD);
        half("folk(0, 10, 1)", x -> x.folk(0, 10, 1), BAD);
        half("folk(0, 0, 0)", x -> x.folk(0, 0, 0), BAD);
        half("folk(0, 0, 10)", x -> x.folk(0, 0, 10), BAD);
        half("folk(0, MIN, MAX)", x -> x.folk(0, MIN, MAX), BAD);
        full("none ahead of full", x -> x.folk(6, 0, 1), NONE);
        full("bad ahead of full", x -> x.folk(0, 10, 1), BAD);
        full("bad quickness ahead of full", x -> x.folk(0, 0, 0), BAD);
        full("folk(5, 9, 9)", x -> x.folk(5, 9, 9), FULL);
    }

    private static void refusal04Of() {
        empty("of(0, 0)", x -> x.of(0, 0), NONE);
        half("of(3, 0)", x -> x.of(3, 0), NONE);
        everywhere("of(-1, 0)", x -> x.of(-1, 0), NONE);
        everywhere("of(6, 10)", x -> x.of(6, 10), NONE);
        for (int what : new int[] {MIN, -1, 4, 9, 12, 13, 14, 19, 22, 24, 30, MAX}) {
            half("of(0, " + what + ")", x -> x.of(0, what), NONE);
        }
        full("of(0, 14)", x -> x.of(0, 14), NONE);
        full("of(0, 24)", x -> x.of(0, 24), NONE);
    }

    private static void refusal05Who() {
        empty("who(0, 0)", x -> x.who(0, 0), NONE);
        half("who(2, 0)", x -> x.who(2, 0), NONE);
        full("who(4, 0)", x -> x.who(4, 0), NONE);
        everywhere("who(-1, 0)", x -> x.who(-1, 0), NONE);
        half("who(0, -1)", x -> x.who(0, -1), NONE);
        half("who(0, 3)", x -> x.who(0, 3), NONE);
        half("who(0, MAX)", x -> x.who(0, MAX), NONE);
    }

    private static void refusal06Strew() {
        empty("strew(0, 1)", x -> x.strew(0, 1), NONE);
        half("strew(3, 1)", x -> x.strew(3, 1), NONE);
        everywhere("none ahead of bad", x -> x.strew(6, 100), NONE);
        everywhere("strew(-1, 1)", x -> x.strew(-1, 1), NONE);
        half("strew(0, 100)", x -> x.strew(0, 100), BAD);
        half("strew(0, -1)", x -> x.strew(0, -1), BAD);
    }

    private static void refusal07Ask() {
        empty("ask(0, 0, true)", x -> x.ask(0, 0, true), NONE);
        half("ask(3, 0, true)", x -> x.ask(3, 0, true), NONE);
        half("ask(0, 2, true)", x -> x.ask(0, 2, true), NONE);
        half("ask(-1, 1, false)", x -> x.ask(-1, 1, false), NONE);
        half("ask(0, -1, true)", x -> x.ask(0, -1, true), NONE);
        full("ask(0, 4, true)", x -> x.ask(0, 4, true), NONE);
        full("ask(0, 32, true)", x -> x.ask(0, 32, true), NONE);
        full("ask(6, 0, true)", x -> x.ask(6, 0, true), NONE);
    }

    private static void refusal08Sack() {
        empty("sack(0, 0)", x -> x.sack(0, 0), NONE);
        half("sack(2, 0)", x -> x.sack(2, 0), NONE);
        half("sack(0, 3)", x -> x.sack(0, 3), NONE);
        half("sack(-1, 0)", x -> x.sack(-1, 0), NONE);
        half("sack(0, -1)", x -> x.sack(0, -1), NONE);
        full("sack(4, 0)", x -> x.sack(4, 0), NONE);
        full("sack(0, 6)", x -> x.sack(0, 6), NONE);
    }

    private static void refusal09Sell() {
        empty("sell(0, 0, 0)", x -> x.sell(0, 0, 0), NONE);
        half("sell(3, 0, 0)", x -> x.sell(3, 0, 0), NONE);
        half("sell(-1, 0, 0)", x -> x.sell(-1, 0, 0), NONE);
        half("sell(1, -1, 0)", x -> x.sell(1, -1, 0), NONE);
        half("sell(1, 7, 0)", x -> x.sell(1, 7, 0), NONE);
        half("no house ahead of bad", x -> x.sell(3, 0, 10), NONE);
        half("no kind ahead of bad", x -> x.sell(1, 7, 10), NONE);
        half("sell(1, 0, 10)", x -> x.sell(1, 0, 10), BAD);
        half("sell(1, 0, -1)", x -> x.sell(1, 0, -1), BAD);
    }

    private static void refusal10Row() {
        empty("row(0, 0, 0)", x -> x.row(0, 0, 0), NONE);
        half("row(3, 0, 0)", x -> x.row(3, 0, 0), NONE);
        half("row(-1, 0, 0)", x -> x.row(-1, 0, 0), NONE);
        half("row(1, 4, 0)", x -> x.row(1, 4, 0), NONE);
        half("row(1, -1, 0)", x -> x.row(1, -1, 0), NONE);
        half("none ahead of bad", x -> x.row(1, 4, 2), NONE);
        half("none ahead of state", x -> x.row(0, 4, 0), NONE);
        half("row(1, 0, 2)", x -> x.row(1, 0, 2), BAD);
        half("row(1, 0, -1)", x -> x.row(1, 0, -1), BAD);
        half("bad ahead of state", x -> x.row(0, 0, 2), BAD);
        half("a landlord", x -> x.row(0, 0, 0), STATE);
        half("a lonely one", x -> x.row(2, 3, 1), STATE);
        for (int house : new int[] {0, 2, 3, 4, 5}) {
            full("row of house " + house, x -> x.row(house, 0, 0), STATE);
        }
    }

    private static void refusal11Feed() {
        everywhere("feed(128)", x -> x.feed(128), BAD);
        everywhere("feed(-1)", x -> x.feed(-1), BAD);
        everywhere("feed(MIN)", x -> x.feed(MIN), BAD);
        everywhere("feed(MAX)", x -> x.feed(MAX), BAD);
        full("feed(0)", x -> x.feed(0), FULL);
        full("feed(127)", x -> x.feed(127), FULL);
    }

    private static void refusal12Town() {
        full("town()", AskedIn::town, FULL);
    }

    // ---- refused: visits, grain

    private static void refusal14Visit() {
        empty("visit(0, 0, 0)", x -> x.visit(0, 0, 0), NONE);
        half("visit(2, 0, 0)", x -> x.visit(2, 0, 0), NONE);
        half("visit(-1, 0, 0)", x -> x.visit(-1, 0, 0), NONE);
        half("visit(0, 3, 0)", x -> x.visit(0, 3, 0), NONE);
        half("visit(0, -1, 0)", x -> x.visit(0, -1, 0), NONE);
        half("visit(0, 0, 3)", x -> x.visit(0, 0, 3), NONE);
        half("visit(0, 0, -1)", x -> x.visit(0, 0, -1), NONE);
        full("visit(4, 0, 0)", x -> x.visit(4, 0, 0), NONE);
        full("visit(0, 6, 0)", x -> x.visit(0, 6, 0), NONE);
    }

    private static void refusal15Way() {
        empty("way(0)", x -> x.way(0), NONE);
        half("way(3)", x -> x.way(3), NONE);
        everywhere("way(-2)", x -> x.way(-2), NONE);
        everywhere("way(MIN)", x -> x.way(MIN), NONE);
        full("none ahead of full", x -> x.way(6), NONE);
        full("way(5)", x -> x.way(5), FULL);
    }

    private static void refusal16Goes() {
        empty("goes(0, 0)", x -> x.goes(0, 0), NONE);
        half("goes(2, 0)", x -> x.goes(2, 0), NONE);
        half("goes(-1, 0)", x -> x.goes(-1, 0), NONE);
        half("goes(0, 4)", x -> x.goes(0, 4), NONE);
        half("goes(0, -1)", x -> x.goes(0, -1), NONE);
        full("goes(4, 3)", x -> x.goes(4, 3), NONE);
    }

    private static void refusal17Round() {
        empty("round(0, 0, 0)", x -> x.round(0, 0, 0), NONE);
        half("round(2, 0, 0)", x -> x.round(2, 0, 0), NONE);
        half("round(-1, 0, 0)", x -> x.round(-1, 0, 0), NONE);
        for (int what : new int[] {MIN, -1, 2, 9, 15, MAX}) {
            half("round(0, 1, " + what + ")", x -> x.round(0, 1, what), NONE);
            half("none ahead of bad, " + what, x -> x.round(0, 8, what), NONE);
        }
        half("no folk ahead of bad", x -> x.round(2, 8, 0), NONE);
        half("round(0, 8, 0)", x -> x.round(0, 8, 0), BAD);
        half("round(0, -1, 0)", x -> x.round(0, -1, 0), BAD);
        half("round(0, MIN, 14)", x -> x.round(0, MIN, 14), BAD);
        full("round(0, 63, 0)", x -> x.round(0, 63, 0), BAD);
        full("round(0, 64, 10)", x -> x.round(0, 64, 10), BAD);
        full("round(0, MAX, 1)", x -> x.round(0, MAX, 1), BAD);
    }

    private static void refusal18Keep() {
        empty("keep(0, 0)", x -> x.keep(0, 0), NONE);
        half("keep(3, 0)", x -> x.keep(3, 0), NONE);
        half("keep(-1, 0)", x -> x.keep(-1, 0), NONE);
        half("keep(0, 2)", x -> x.keep(0, 2), NONE);
        half("keep(0, -1)", x -> x.keep(0, -1), NONE);
        full("keep(6, 0)", x -> x.keep(6, 0), NONE);
        full("keep(0, 4)", x -> x.keep(0, 4), NONE);
    }

    private static void refusal19More() {
        everywhere("more(0, 2)", x -> x.more(0, 2), NONE);
        everywhere("more(0, -1)", x -> x.more(0, -1), NONE);
        everywhere("none ahead of bad", x -> x.more(100, 2), NONE);
        everywhere("more(100, 0)", x -> x.more(100, 0), BAD);
        everywhere("more(-1, 1)", x -> x.more(-1, 1), BAD);
        everywhere("more(MAX, 1)", x -> x.more(MAX, 1), BAD);
        empty("more(0, 0)", x -> x.more(0, 0), NOT_ANY);
        empty("more(99, 1)", x -> x.more(99, 1), NOT_ANY);
    }

    private static void refusal20Share() {
        empty("share(0, 1, 0, 0)", x -> x.share(0, 1, 0, 0), NONE);
        half("share(2, 1, 0, 0)", x -> x.share(2, 1, 0, 0), NONE);
        half("share(0, 2, 0, 0)", x -> x.share(0, 2, 0, 0), NONE);
        half("share(-1, 1, 0, 0)", x -> x.share(-1, 1, 0, 0), NONE);
        half("share(0, -1, 0, 0)", x -> x.share(0, -1, 0, 0), NONE);
        half("share(0, 1, 3, 0)", x -> x.share(0, 1, 3, 0), NONE);
        half("share(0, 1, -1, 0)", x -> x.share(0, 1, -1, 0), NONE);
        half("share(0, 1, 0, 2)", x -> x.share(0, 1, 0, 2), NONE);
        half("share(0, 1, 0, -1)", x -> x.share(0, 1, 0, -1), NONE);
        half("no house ahead of bad", x -> x.share(0, 0, 3, 0), NONE);
        half("no what ahead of bad", x -> x.share(0, 0, 0, 2), NONE);
        half("nobody twice", x -> x.share(2, 2, 0, 0), NONE);
        half("share(0, 0, 0, 0)", x -> x.share(0, 0, 0, 0), BAD);
        half("share(1, 1, 0, 1)", x -> x.share(1, 1, 0, 1), BAD);
        full("share(3, 4, 0, 0)", x -> x.share(3, 4, 0, 0), NONE);
    }

    // ---- refused: who, when, odds, books

    private static void refusal21Watch() {
        empty("watch(0, true)", x -> x.watch(0, true), NONE);
        half("watch(3, true)", x -> x.watch(3, true), NONE);
        everywhere("watch(-2, false)", x -> x.watch(-2, false), NONE);
        full("none ahead of full", x -> x.watch(6, true), NONE);
        full("watch(0, true)", x -> x.watch(0, true), FULL);
        full("watch(3, false)", x -> x.watch(3, false), FULL);
    }

    private static void refusal24When() {
        empty("when(0, 0)", x -> x.when(0, 0), NONE);
        half("when(2, 0)", x -> x.when(2, 0), NONE);
        half("when(-1, 0)", x -> x.when(-1, 0), NONE);
        half("when(0, 3)", x -> x.when(0, 3), NONE);
        half("when(0, -1)", x -> x.when(0, -1), NONE);
        full("when(4, 0)", x -> x.when(4, 0), NONE);
        full("when(0, 6)", x -> x.when(0, 6), NONE);
    }

    private static void refusal25Odds() {
        empty("odds(0, 0, 0)", x -> x.odds(0, 0, 0), NO);
        half("odds(2, 0, 0)", x -> x.odds(2, 0, 0), NO);
        half("odds(-1, 0, 0)", x -> x.odds(-1, 0, 0), NO);
        half("odds(0, 3, 0)", x -> x.odds(0, 3, 0), NO);
        half("odds(0, -1, 0)", x -> x.odds(0, -1, 0), NO);
        half("odds(0, 0, 2)", x -> x.odds(0, 0, 2), NO);
        half("odds(0, 0, -1)", x -> x.odds(0, 0, -1), NO);
        full("odds(4, 0, 1)", x -> x.odds(4, 0, 1), NO);
        full("odds(0, 6, 1)", x -> x.odds(0, 6, 1), NO);
    }

    private static void refusal26Mean() {
        empty("mean(0, 0)", x -> x.mean(0, 0), NO);
        half("mean(3, 0)", x -> x.mean(3, 0), NO);
        half("mean(-1, 0)", x -> x.mean(-1, 0), NO);
        half("mean(0, 2)", x -> x.mean(0, 2), NO);
        half("mean(0, -1)", x -> x.mean(0, -1), NO);
        full("mean(6, 1)", x -> x.mean(6, 1), NO);
    }

    private static void refusal27Book() {
        empty("book(0, 0)", x -> x.book(0, 0), NONE);
        half("book(2, 0)", x -> x.book(2, 0), NONE);
        half("book(0, 3)", x -> x.book(0, 3), NONE);
        half("book(0, -1)", x -> x.book(0, -1), NONE);
        everywhere("book(-2, 0)", x -> x.book(-2, 0), NONE);
        full("none ahead of full", x -> x.book(4, 0), NONE);
        full("no house ahead of full", x -> x.book(0, 6), NONE);
        full("book(0, 0)", x -> x.book(0, 0), FULL);
    }

    // ---- refused: judging, the image, kinds, tapes

    private static void refusal29Judge() {
        everywhere("judge(6, 0)", x -> x.judge(6, 0), NONE);
        everywhere("judge(-1, 0)", x -> x.judge(-1, 0), NONE);
        for (int tape = 1; tape <= 4; tape++) {
            int shorts = tape;
            half("judge of sort " + tape, x -> x.judge(shorts, 0), CAST);
            half("cast ahead of a place below 0", x -> x.judge(shorts, -1), CAST);
            half("cast ahead of a place behind the end", x -> x.judge(shorts, 9), CAST);
        }
        half("judge of nothing", x -> x.judge(5, 0), 100);
        half("judge from below 0", x -> x.judge(0, -1), 100);
        half("judge from the end on", x -> x.judge(0, 4), 100);
        half("judge to the end", x -> x.judge(0, 1), NOT_ANY);
        empty("judge of no houses", x -> x.judge(0, 0), NOT_ANY);
    }

    private static void refusal31Undo() {
        empty("undo()", AskedIn::undo, STATE);
    }

    private static void refusal33Trace() {
        everywhere("trace(-1)", x -> x.trace(-1), NONE);
        everywhere("trace(20)", x -> x.trace(20), NONE);
        everywhere("trace(MIN)", x -> x.trace(MIN), NONE);
        everywhere("trace(MAX)", x -> x.trace(MAX), NONE);
        empty("trace(0)", x -> x.trace(0), NONE);
        half("trace(12)", x -> x.trace(12), NONE);
    }

    private static void refusal34Taken() {
        everywhere("taken(0, -1)", x -> x.taken(0, -1), BAD);
        everywhere("taken(0, 7)", x -> x.taken(0, 7), BAD);
        everywhere("bad ahead of nothing", x -> x.taken(6, 7), BAD);
        empty("taken(0, 0)", x -> x.taken(0, 0), NOTHING);
        half("taken(3, 0)", x -> x.taken(3, 0), NOTHING);
        everywhere("taken(-1, 6)", x -> x.taken(-1, 6), NOTHING);
        half("a landlord for a told one", x -> x.taken(0, 6), CAST);
        half("a told one for a lonely one", x -> x.taken(1, 1), CAST);
    }

    private static void refusal35Count() {
        everywhere("count(8)", x -> x.count(8), BAD);
        everywhere("count(-1)", x -> x.count(-1), BAD);
        everywhere("count(MAX)", x -> x.count(MAX), BAD);
    }

    private static void refusal36Tape() {
        everywhere("tape(6, 0, 1)", x -> x.tape(6, 0, 1), NONE);
        everywhere("tape(-1, 0, 1)", x -> x.tape(-1, 0, 1), NONE);
        everywhere("none ahead of bad", x -> x.tape(6, 5, 61), NONE);
        everywhere("none, though it would hold nothing", x -> x.tape(6, -1, 0), NONE);
        everywhere("tape(0, 5, 1)", x -> x.tape(0, 5, 1), BAD);
        everywhere("tape(0, -2, 1)", x -> x.tape(0, -2, 1), BAD);
        everywhere("tape(0, 0, 61)", x -> x.tape(0, 0, 61), BAD);
        everywhere("tape(0, 4, MAX)", x -> x.tape(0, 4, MAX), BAD);
        everywhere("bad ahead of size", x -> x.tape(0, 5, -1), BAD);
        everywhere("tape(0, 0, -1)", x -> x.tape(0, 0, -1), SIZE);
        everywhere("tape(0, 3, MIN)", x -> x.tape(0, 3, MIN), SIZE);
    }

    private static void refusal37Item() {
        everywhere("item(6, 0, 1)", x -> x.item(6, 0, 1), NONE);
        everywhere("item(-1, 0, 1)", x -> x.item(-1, 0, 1), NONE);
        everywhere("item(5, 0, 1)", x -> x.item(5, 0, 1), NOTHING);
        everywhere("nothing ahead of place", x -> x.item(5, -1, 1), NOTHING);
        half("item(0, 4, 1)", x -> x.item(0, 4, 1), PLACE);
        half("item(0, -1, 1)", x -> x.item(0, -1, 1), PLACE);
        half("an empty row", x -> x.item(2, 0, 1), PLACE);
        full("item(0, 60, 1)", x -> x.item(0, 60, 1), PLACE);
    }

    private static void refusal38Read() {
        everywhere("read(6, 0)", x -> x.read(6, 0), NO);
        everywhere("read(-1, 0)", x -> x.read(-1, 0), NO);
        everywhere("read(5, 0)", x -> x.read(5, 0), NO);
        half("read(0, 4)", x -> x.read(0, 4), NO);
        half("read(0, -1)", x -> x.read(0, -1), NO);
        half("read(2, 0)", x -> x.read(2, 0), NO);
        full("read(0, 60)", x -> x.read(0, 60), NO);
    }

    private static void refusal39Shift() {
        everywhere("shift(6, 0, 0, 0, 0)", x -> x.shift(6, 0, 0, 0, 0), NONE);
        everywhere("shift(0, 0, 6, 0, 0)", x -> x.shift(0, 0, 6, 0, 0), NONE);
        everywhere("shift(-1, 0, 0, 0, 0)", x -> x.shift(-1, 0, 0, 0, 0), NONE);
        everywhere("shift(0, 0, -1, 0, 0)", x -> x.shift(0, 0, -1, 0, 0), NONE);
        everywhere("none ahead of nothing", x -> x.shift(5, 0, 6, 0, 0), NONE);
        everywhere("shift(5, 0, 5, 0, 0)", x -> x.shift(5, 0, 5, 0, 0), NOTHING);
        half("shift(0, 0, 5, 0, 0)", x -> x.shift(0, 0, 5, 0, 0), NOTHING);
        half("shift(5, 0, 0, 0, 0)", x -> x.shift(5, 0, 0, 0, 0), NOTHING);
        half("nothing ahead of place", x -> x.shift(0, -1, 5, 0, 0), NOTHING);
        half("shift(0, 0, 1, 0, 1)", x -> x.shift(0, 0, 1, 0, 1), CAST);
        half("cast ahead of place", x -> x.shift(0, 0, 1, 0, -1), CAST);
        half("cast of none", x -> x.shift(0, 0, 1, 0, 0), CAST);
        int[][] places = {{-1, 0, 1}, {0, -1, 1}, {0, 0, -1}, {0, 0, 5}, {2, 0, 3}, {0, 2, 3}, {5, 0, 0}, {0, 5, 0},
            {MAX, 0, 1}, {0, MAX, 1}, {0, 0, MAX}, {MIN, 0, 1}, {0, MIN, 1}, {0, 0, MIN}, {MAX, MAX, MAX}, {MIN, MIN, MIN}};
        for (int[] at : places) {
            half("a place", x -> x.shift(3, at[0], 3, at[1], at[2]), PLACE);
        }
    }

    // ---- asked: nothing changes

    private static void askedOfHousesAndFolk() {
        asked("of", x -> x.of(0, 0) + x.of(1, 1) + x.of(1, 2) + x.of(0, 3) + x.of(0, 10) + x.of(1, 21));
        asked("who", x -> x.who(0, 0) + x.who(1, 1) + x.who(1, 2));
        asked("dawn", AskedIn::dawn);
        asked("count", x -> x.count(0) + x.count(6) + x.count(7));
        asked("taken", x -> x.taken(0, 0));
    }

    private static void askedOfNights() {
        asked("visit, minute", x -> x.visit(0, 0, 0));
        asked("visit, in", x -> x.visit(0, 0, 1));
        asked("visit, coins", x -> x.visit(0, 0, 2));
        asked("goes, coins", x -> x.goes(0, 1));
        asked("goes, in", x -> x.goes(1, 2));
        asked("round, how many", x -> x.round(0, 3, 0));
        asked("round, a place", x -> x.round(1, 3, 11));
    }

    private static void askedOfGrain() {
        asked("keep", x -> x.keep(0, 0));
        asked("keep of another", x -> x.keep(1, 1));
        asked("more, which", x -> x.more(99, 0));
        asked("more, pairs", x -> x.more(99, 1));
        asked("share, minute", x -> x.share(0, 1, 0, 0));
        asked("share, who", x -> x.share(1, 0, 0, 1));
    }

    private static void askedOfWhoAndWhen() {
        asked("suspects", AskedIn::suspects);
        asked("next", AskedIn::next);
        asked("when", x -> x.when(0, 0));
        asked("odds", x -> x.odds(0, 0, 0));
        asked("mean", x -> x.mean(0, 1));
        asked("looked", AskedIn::looked);
    }

    private static void askedOfTapesAndTrace() {
        asked("judge", x -> x.judge(0, 1));
        asked("judge of nothing", x -> x.judge(5, 0));
        asked("read", x -> x.read(0, 1));
        asked("trace", x -> x.trace(0));
        asked("none shifted", x -> x.shift(0, 0, 0, 0, 0));
    }
}
