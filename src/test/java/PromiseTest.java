/** Every promise of the document: ordinary inputs, edges, wrong inputs. */
public final class PromiseTest {
    private static final Checks C = new Checks();
    private static final long NO = Long.MIN_VALUE;
    private static final int MIN = Integer.MIN_VALUE, MAX = Integer.MAX_VALUE;

    public static void main(String[] args) {
        promise01NewObject();
        promise02House();
        promise03Folk();
        promise04Of();
        promise05Who();
        promise06Strew();
        promise07Ask();
        promise08Sack();
        promise09Sell();
        promise10Row();
        promise11Feed();
        promise12Town();
        promise12Tests();
        promise13Dawn();
        promise14Visit();
        promise14Kinds();
        promise15Way();
        promise16Goes();
        promise16Kinds();
        promise17Round();
        promise17Refusals();
        promise18Keep();
        promise19More();
        promise20Share();
        promise21Watch();
        promise22Suspects();
        promise23Next();
        promise24When();
        promise25Odds();
        promise26Mean();
        promise27Book();
        promise28Looked();
        promise29Judge();
        promise30Image();
        promise31Undo();
        promise32Act();
        promise33Trace();
        promise34Taken();
        promise35Count();
        promise36Tape();
        promise37Item();
        promise38Read();
        promise39Shift();
        C.end("PromiseTest");
    }

    private static void due(String call, long got, long want) {
        C.due(call, got, want);
    }

    /** The numbers of bodies that ran in the latest act, one behind another. */
    private static String traced(AskedIn x) {
        StringBuilder all = new StringBuilder();
        for (int i = 0; x.trace(i) != -1; i++) {
            all.append(i == 0 ? "" : " ").append(x.trace(i));
        }
        return all.toString();
    }

    private static void promise01NewObject() {
        AskedIn x = new AskedIn();
        for (int what = 0; what < 8; what++) {
            due("new: count(" + what + ")", x.count(what), 0);
        }
        due("new: of", x.of(0, 0), -1);
        due("new: who", x.who(0, 0), -1);
        due("new: dawn", x.dawn(), 60);
        due("new: undo", x.undo(), -3);
        due("new: trace", x.trace(0), -1);
        for (int tape = 0; tape < 6; tape++) {
            due("new: judge", x.judge(tape, 0), -5);
            due("new: item", x.item(tape, 0, 1), -11);
            due("new: read", x.read(tape, 0), NO);
        }
        due("NONE", AskedIn.NONE, -1);
        due("BAD", AskedIn.BAD, -2);
        due("STATE", AskedIn.STATE, -3);
        due("FULL", AskedIn.FULL, -4);
        due("NO", AskedIn.NO, NO);
    }

    private static void promise02House() {
        AskedIn x = new AskedIn();
        due("kind -1", x.house(-1, 0, 0), -1);
        due("kind 7", x.house(7, 10, 100), -1);
        due("v -1", x.house(0, -1, 0), -2);
        due("v 10", x.house(0, 10, 0), -2);
        due("grain -1", x.house(0, 0, -1), -2);
        due("grain 100", x.house(0, 0, 100), -2);
        due("no house yet", x.count(0), 0);
        for (int i = 0; i < 6; i++) {
            due("house " + i, x.house(i + 1, 9 - i, 99 - i), i);
        }
        due("seventh", x.house(0, 0, 0), -4);
        due("kind ahead of full", x.house(7, 0, 0), -1);
        due("v ahead of full", x.house(0, 10, 0), -2);
        due("six stand", x.count(0), 6);
        for (int i = 0; i < 6; i++) {
            due("its kind", x.of(i, 0), i + 1);
            due("its v", x.of(i, 1), 9 - i);
            due("its grain", x.of(i, 2), 99 - i);
            due("asked nobody", x.of(i, 3), 0);
        }
        due("a row of 1", x.row(5, 0, 1) + x.row(5, 1, 1) + x.row(5, 2, 1) + x.row(5, 3, 1), 4);
    }

    private static void promise03Folk() {
        AskedIn x = new AskedIn();
        due("no sack", x.folk(0, 0, 1), -1);
        x.house(0, 0, 0);
        x.house(0, 0, 0);
        due("no such sack", x.folk(2, 0, 1), -1);
        due("sack ahead of coins", x.folk(-1, 10, 0), -1);
        due("coins -1", x.folk(0, -1, 1), -2);
        due("coins 10", x.folk(0, 10, 1), -2);
        due("quickness 0", x.folk(0, 0, 0), -2);
        due("quickness 10", x.folk(0, 0, 10), -2);
        due("first", x.folk(1, 9, 9), 0);
        due("second", x.folk(0, 0, 1), 1);
        due("third", x.folk(1, 3, 4), 2);
        due("fourth", x.folk(0, 5, 6), 3);
        due("fifth", x.folk(0, 0, 1), -4);
        due("sack ahead of full", x.folk(2, 0, 1), -1);
        due("coins ahead of full", x.folk(0, 10, 1), -2);
        due("four", x.count(1), 4);
        due("sack", x.who(0, 0), 1);
        due("coins", x.who(0, 1), 9);
        due("quickness", x.who(0, 2), 9);
    }

    private static void promise04Of() {
        AskedIn x = new AskedIn();
        x.house(3, 4, 57);
        x.house(5, 9, 0);
        x.folk(0, 2, 3);
        x.folk(1, 7, 1);
        due("kind", x.of(1, 0), 5);
        due("v", x.of(0, 1), 4);
        due("grain", x.of(0, 2), 57);
        x.ask(0, 1, true);
        due("asked", x.of(0, 3), 2);
        x.ask(0, 0, true);
        due("asked both", x.of(0, 3), 3);
        due("slow without a town", x.of(0, 10), 5);
        due("far without a town", x.of(0, 21), 3);
        Checks.town(x, "count 20 f=1;count 3 g=5;count 1 c>6;walk 9 v>8;walk 2 k<4&h=0");
        due("slow of 0 at 0", x.of(0, 10), 3);
        due("slow of 1 at 0", x.of(0, 11), 24);
        due("slow of 0 at 1", x.of(1, 10), 0);
        due("slow of 1 at 1", x.of(1, 11), 21);
        due("far of 0 at 0", x.of(0, 20), 2);
        due("far of 1 at 1", x.of(1, 21), 9);
        due("no house", x.of(2, 0), -1);
        due("no house -1", x.of(-1, 0), -1);
        int[] noWhat = {-1, 4, 9, 12, 13, 19, 22, 30, MIN, MAX};
        for (int what : noWhat) {
            due("of what " + what, x.of(0, what), -1);
        }
        Checks.town(x, "dawn 9");
        due("slow without count", x.of(0, 10), 5);
        due("far without walk", x.of(0, 20), 3);
        Checks.town(x, "count 9 h=5");
        due("slow: a count that holds not", x.of(0, 10), 0);
        due("far still", x.of(0, 20), 3);
    }

    private static void promise05Who() {
        AskedIn x = new AskedIn();
        x.house(0, 0, 0);
        x.house(0, 0, 0);
        x.folk(1, 8, 7);
        due("sack", x.who(0, 0), 1);
        due("coins", x.who(0, 1), 8);
        due("quickness", x.who(0, 2), 7);
        due("what 3", x.who(0, 3), -1);
        due("what -1", x.who(0, -1), -1);
        due("folk 1", x.who(1, 0), -1);
        due("folk -1", x.who(-1, 0), -1);
    }

    private static void promise06Strew() {
        AskedIn x = new AskedIn();
        due("none", x.strew(0, 100), -1);
        x.house(2, 0, 33);
        due("bad 100", x.strew(0, 100), -2);
        due("bad -1", x.strew(0, -1), -2);
        due("was 33", x.strew(0, 99), 33);
        due("was 99", x.strew(0, 0), 99);
        due("is 0", x.of(0, 2), 0);
        due("none -1", x.strew(-1, 0), -1);
    }

    private static void promise07Ask() {
        AskedIn x = new AskedIn();
        x.house(0, 0, 0);
        x.house(0, 0, 0);
        x.folk(0, 0, 1);
        x.folk(0, 0, 1);
        due("had not", x.ask(1, 1, true), 0);
        due("had", x.ask(1, 1, true), 1);
        due("bits", x.of(1, 3), 2);
        due("the other house", x.of(0, 3), 0);
        due("comes in", x.visit(1, 1, 1), 1);
        due("had still", x.ask(1, 1, false), 1);
        due("had no more", x.ask(1, 1, false), 0);
        due("kept out", x.visit(1, 1, 1), 0);
        due("no house", x.ask(2, 0, true), -1);
        due("no folk", x.ask(0, 2, true), -1);
        due("no folk -1", x.ask(0, -1, true), -1);
        due("no house -1", x.ask(-1, 0, true), -1);
        due("nothing came of it", x.of(0, 3), 0);
    }

    private static void promise08Sack() {
        AskedIn x = new AskedIn();
        for (int i = 0; i < 4; i++) {
            x.house(0, 0, 0);
        }
        x.folk(0, 0, 1);
        due("three houses off", x.visit(0, 3, 0), 9);
        due("was 0", x.sack(0, 2), 0);
        due("is 2", x.who(0, 0), 2);
        due("one house off", x.visit(0, 3, 0), 3);
        due("was 2", x.sack(0, 1), 2);
        due("no folk", x.sack(1, 0), -1);
        due("no folk -1", x.sack(-1, 0), -1);
        due("no house", x.sack(0, 4), -1);
        due("no house -1", x.sack(0, -1), -1);
        due("still 1", x.who(0, 0), 1);
    }

    private static void promise09Sell() {
        AskedIn x = new AskedIn();
        x.house(6, 3, 44);
        x.folk(0, 0, 1);
        x.folk(0, 0, 1);
        x.ask(0, 1, true);
        x.row(0, 2, 0);
        x.row(0, 0, 0);
        due("sold to its own kind", x.sell(0, 6, 7), 6);
        due("row 2 is 1 again", x.row(0, 2, 1), 1);
        due("row 0 is 1 again", x.row(0, 0, 1), 1);
        due("v", x.of(0, 1), 7);
        due("grain stays", x.of(0, 2), 44);
        due("asked stays", x.of(0, 3), 2);
        due("old kind", x.sell(0, 2, 0), 6);
        due("kind", x.of(0, 0), 2);
        due("no house", x.sell(1, 0, 0), -1);
        due("no house -1", x.sell(-1, 0, 0), -1);
        due("no kind", x.sell(0, 7, 10), -1);
        due("no kind -1", x.sell(0, -1, 0), -1);
        due("bad v", x.sell(0, 1, 10), -2);
        due("bad v -1", x.sell(0, 1, -1), -2);
        due("kind still", x.of(0, 0), 2);
        due("v still", x.of(0, 1), 0);
    }

    private static void promise10Row() {
        AskedIn x = new AskedIn();
        x.house(6, 0, 0);
        x.house(3, 0, 0);
        x.folk(0, 0, 1);
        due("was 1", x.row(0, 0, 0), 1);
        due("was 0", x.row(0, 0, 0), 0);
        due("the next part", x.row(0, 1, 1), 1);
        due("part 3", x.row(0, 3, 0), 1);
        due("not at minute 0", x.visit(0, 0, 1), 0);
        due("at minute 1", x.when(0, 0), 1);
        x.row(0, 1, 0);
        due("at minute 2", x.when(0, 0), 2);
        x.row(0, 2, 0);
        due("never", x.when(0, 0), -5);
        due("was 0 then", x.row(0, 0, 1), 0);
        due("at minute 0", x.visit(0, 0, 1), 1);
        due("no house", x.row(2, 0, 0), -1);
        due("no house -1", x.row(-1, 0, 0), -1);
        due("no part 4", x.row(0, 4, 2), -1);
        due("no part -1", x.row(0, -1, 0), -1);
        due("bad 2", x.row(0, 0, 2), -2);
        due("bad -1", x.row(0, 0, -1), -2);
        due("bad ahead of state", x.row(1, 0, 2), -2);
        due("a landlord", x.row(1, 0, 1), -3);
    }

    private static void promise11Feed() {
        AskedIn x = new AskedIn();
        due("bad", x.feed(128), -2);
        due("bad -1", x.feed(-1), -2);
        for (int i = 1; i <= 100; i++) {
            due("sign " + i, x.feed(i == 1 ? 0 : 127), i);
        }
        due("full", x.feed(0), -4);
        due("bad ahead of full", x.feed(128), -2);
        due("count", x.count(6), 100);
        due("fault at once", x.town(), -10);
        due("empty", x.count(6), 0);
        due("first again", x.feed(100), 1);
    }

    private static void promise12Town() {
        AskedIn x = new AskedIn();
        String[][] faults = {
            {"", "0"}, {"x", "0"}, {" count 1 h=1", "0"}, {";", "0"}, {"cuunt", "1"}, {"dawn", "4"},
            {"dawn  1", "5"}, {"dawn 1 ", "6"}, {"dawn 123", "7"}, {"dawn x", "5"}, {"dawn 1;", "7"},
            {"dawn 1;;", "7"}, {"count 1", "7"}, {"count 1 ", "8"}, {"count 1  h=1", "8"},
            {"count 123 h=1", "8"}, {"count 1;h=1", "7"}, {"walk 1 h", "8"}, {"walk 1 h=", "9"},
            {"walk 1 h!1", "8"}, {"walk 1 h=x", "9"}, {"walk 1 h=123", "11"}, {"walk 1 h=1 ", "10"},
            {"walk 1 m=1", "7"}, {"walk 1 h=1|", "11"}, {"walk 1 h=1&", "11"}, {"walk 1 h=1&|", "11"},
            {"walk 1 ()", "8"}, {"walk 1 (h=1", "11"}, {"walk 1 (h=1;", "11"}, {"walk 1 h=1)", "10"},
            {"walk 1 (h=1)(", "12"}, {"walk 1 !!!!!h=1", "11"}, {"walk 1 (!(!(h=1", "11"},
            {"walk 1 !!!!h=1;!", "15"}, {"walk 1 ((((!", "11"}, {"Dawn 1", "0"}, {"dawn 1;dawn 2,", "13"},
        };
        for (String[] fault : faults) {
            due("town: " + fault[0], Checks.town(x, fault[0]), -10 - Integer.parseInt(fault[1]));
            due("the text is empty then", x.count(6), 0);
            due("no town by it", x.count(2), 0);
        }
        due("what an earlier text had is gone", Checks.town(x, "walk 1 h="), -19);
        String long100 = "walk 1 h=1" + "|h=1".repeat(22);
        due("98 signs, and a sign of 100", Checks.town(x, long100 + "|h"), -110);
        due("a hundred, and no number yet", Checks.town(x, "walk 01 h=1" + "|h=1".repeat(21) + "&h=11"), 0);
        due("a hundred that end too early", Checks.town(x, "walk 1 h=11" + "|h=1".repeat(21) + "|h<1&"), -110);
        x = new AskedIn();
        String ten = "dawn 1;dawn 2;dawn 3;dawn 4;dawn 5;dawn 6;dawn 7;dawn 8;dawn 9;dawn 10";
        due("eleven clauses", Checks.town(x, ten + ";dawn 11"), -10 - ten.length());
        due("ten clauses", Checks.town(x, ten), 0);
        due("the last dawn", x.dawn(), 10);
        due("a fault", Checks.town(x, "dawn 5;"), -17);
        due("the one that held holds", x.dawn(), 10);
        due("four deep", Checks.town(x, "walk 1 !(!(h=1))&!!(!h=1)|((((h=1))))"), 1);
        for (int i = 2; i < 6; i++) {
            due("town " + i, Checks.town(x, "dawn " + (50 + i)), i);
            due("it holds", x.dawn(), 50 + i);
        }
        Checks.feed(x, "x");
        due("a seventh", x.town(), -4);
        due("its text stays", x.count(6), 1);
        due("six towns", x.count(2), 6);
        due("the sixth holds", x.dawn(), 55);
    }

    /** What tests and their signs mean. */
    private static void promise12Tests() {
        String[][] slows = {
            {"f=1", "1"}, {"f<1", "0"}, {"f>0", "1"}, {"h=2", "1"}, {"h>2", "0"}, {"h<3", "1"},
            {"k=4", "1"}, {"v=8", "1"}, {"g=2", "1"}, {"g>2", "0"}, {"c=6", "1"}, {"c<06", "0"},
            {"c<07", "1"}, {"c<99", "1"}, {"!c=6", "0"}, {"!!c=6", "1"}, {"c=6&k=4", "1"}, {"c=6&k=5", "0"},
            {"c=5&k=4", "0"}, {"c=5|k=4", "1"}, {"c=6|k=5", "1"}, {"c=5|k=5", "0"},
            {"c=6|c=6&c=5", "1"}, {"(c=6|c=6)&c=5", "0"}, {"c=5&c=6|c=6", "1"}, {"c=5&(c=6|c=6)", "0"},
            {"!c=5&c=5", "0"}, {"!(c=5&c=5)", "1"}, {"!c=6|c=6", "1"}, {"!(c=6|c=6)", "0"},
            {"c=5|c=5|c=6", "1"}, {"c=6&c=6&c=5", "0"}, {"c=5&c=5|c=6&c=6", "1"}, {"c=6&!c=5|c=5&c=5", "1"},
        };
        for (String[] slow : slows) {
            AskedIn x = new AskedIn();
            x.house(0, 0, 0);
            x.house(0, 0, 0);
            x.house(4, 8, 29);
            x.folk(0, 0, 1);
            x.folk(0, 6, 1);
            due("town", Checks.town(x, "count 1 " + slow[0] + ";walk 40 " + slow[0] + ";walk 2 h<9"), 0);
            due("slow by " + slow[0], x.of(2, 11), Integer.parseInt(slow[1]));
            due("far by " + slow[0], x.of(2, 21), 40 * Integer.parseInt(slow[1]) + 2);
        }
    }

    private static void promise13Dawn() {
        AskedIn x = new AskedIn();
        due("without a town", x.dawn(), 60);
        Checks.town(x, "count 1 h=1");
        due("without dawn", x.dawn(), 60);
        Checks.town(x, "dawn 7;walk 1 h=1;dawn 0");
        due("the last", x.dawn(), 0);
        Checks.town(x, "dawn 99;walk 1 h=1");
        due("the only", x.dawn(), 99);
    }

    private static void promise14Visit() {
        AskedIn x = new AskedIn();
        x.house(0, 0, 10);
        x.house(0, 0, 0);
        x.house(0, 0, 7);
        x.house(3, 2, 99);
        x.folk(0, 5, 3);
        x.folk(2, 1, 9);
        due("its own sill: 50 by 3, rounded up", x.visit(0, 0, 0), 17);
        due("no grain", x.visit(0, 1, 0), 3);
        due("6 and 35 by 3", x.visit(0, 2, 0), 18);
        due("back: 3 and no grain", x.visit(1, 1, 0), 3);
        due("not asked", x.visit(0, 1, 1), 0);
        due("coins then", x.visit(0, 1, 2), 5);
        due("495 by 9 and 3", x.visit(1, 3, 0), 58);
        due("too few coins", x.visit(1, 3, 1), 0);
        due("coins kept", x.visit(1, 3, 2), 1);
        x.ask(3, 1, true);
        due("asked", x.visit(1, 3, 1), 1);
        due("asked pays not", x.visit(1, 3, 2), 1);
        x.strew(3, 5);
        due("paid at 18", x.visit(0, 3, 1), 1);
        due("two coins less", x.visit(0, 3, 2), 3);
        due("a visit changes nothing", x.who(0, 1), 5);
        Checks.town(x, "dawn 18");
        due("9 and 25 by 3", x.visit(0, 3, 0), 18);
        due("dawn at 18", x.visit(0, 3, 1), 0);
        due("no coins less", x.visit(0, 3, 2), 5);
        Checks.town(x, "dawn 19");
        due("dawn at 19", x.visit(0, 3, 1), 1);
        Checks.town(x, "dawn 6");
        due("3 and 25 by 9", x.visit(1, 3, 0), 6);
        due("asked, but at dawn", x.visit(1, 3, 1), 0);
        due("no folk", x.visit(2, 0, 0), -1);
        due("no folk -1", x.visit(-1, 0, 0), -1);
        due("no house", x.visit(0, 4, 0), -1);
        due("no house -1", x.visit(0, -1, 0), -1);
        due("what 3", x.visit(0, 0, 3), -1);
        due("what -1", x.visit(0, 0, -1), -1);
    }

    /** Whom each kind lets in by one visit. */
    private static void promise14Kinds() {
        // kind, v, coins, far minute, whether in; the house stands next to the sack, without grain
        int[][] rows = {
            {0, 0, 9, 10, 0}, {0, 9, 9, 10, 0},
            {1, 0, 0, 0, 1}, {1, 2, 0, 10, 1}, {1, 2, 0, 9, 0}, {1, 3, 0, 11, 0}, {1, 9, 0, 45, 1}, {1, 9, 0, 44, 0},
            {2, 0, 0, 3, 1}, {2, 3, 0, 3, 1}, {2, 9, 0, 3, 1}, {2, 1, 9, 3, 0}, {2, 2, 9, 3, 0}, {2, 4, 9, 3, 0},
            {3, 0, 0, 3, 1}, {3, 4, 4, 3, 1}, {3, 4, 3, 3, 0}, {3, 4, 9, 3, 1},
            {4, 8, 0, 0, 1}, {4, 9, 0, 0, 1}, {4, 7, 0, 34, 0}, {4, 7, 0, 35, 1}, {4, 0, 0, 0, 1},
            {5, 0, 0, 3, 0}, {5, 0, 1, 3, 1}, {5, 6, 1, 3, 1}, {5, 1, 9, 3, 0},
            {6, 0, 0, 3, 1}, {6, 5, 4, 3, 0}, {6, 5, 5, 3, 1},
        };
        for (int[] row : rows) {
            AskedIn x = new AskedIn();
            x.house(0, 0, 0);
            x.house(row[0], row[1], 0);
            x.folk(0, row[2], 1);
            Checks.town(x, "walk " + row[3] + " h=1");
            String what = "kind " + row[0] + ", v " + row[1] + ", coins " + row[2] + ", minute " + row[3];
            due(what, x.visit(0, 1, 0), row[3]);
            due(what, x.visit(0, 1, 1), row[4]);
            boolean pays = row[4] == 1 && (row[0] == 3 || row[0] == 6);
            due(what + " coins", x.visit(0, 1, 2), pays ? row[2] - row[1] : row[2]);
            x.ask(1, 0, true);
            due(what + " asked", x.visit(0, 1, 1), 1);
            due(what + " asked, coins", x.visit(0, 1, 2), row[2]);
        }
        AskedIn x = new AskedIn();
        x.house(6, 2, 0);
        x.house(0, 0, 0);
        x.folk(1, 2, 1);
        x.row(0, 3, 0);
        due("told at 3", x.visit(0, 0, 1), 0);
        due("told keeps no coins", x.visit(0, 0, 2), 2);
        x.row(0, 3, 1);
        x.row(0, 0, 0);
        x.row(0, 1, 0);
        x.row(0, 2, 0);
        due("told at 3, only", x.visit(0, 0, 1), 1);
        Checks.town(x, "walk 7 h=0");
        due("told at 7", x.visit(0, 0, 1), 1);
        Checks.town(x, "walk 8 h=0");
        due("told at 8", x.visit(0, 0, 1), 0);
    }

    private static void promise15Way() {
        AskedIn x = new AskedIn();
        due("no house", x.way(0), -1);
        due("none of it", x.way(-1), 0);
        x.house(0, 0, 0);
        due("-2", x.way(-2), -1);
        for (int i = 1; i <= 8; i++) {
            due("way " + i, x.way(0), i);
        }
        due("ninth", x.way(0), -4);
        due("none ahead of full", x.way(1), -1);
        due("eight", x.count(3), 8);
        due("empty", x.way(-1), 0);
        due("first", x.way(0), 1);
        due("one", x.count(3), 1);
    }

    private static void promise16Goes() {
        AskedIn x = new AskedIn();
        x.house(0, 0, 9);
        x.house(3, 2, 4);
        x.house(2, 1, 0);
        x.house(0, 0, 0);
        x.folk(0, 5, 2);
        x.folk(3, 1, 1);
        due("no way: minute", x.goes(0, 0), 0);
        due("no way: coins", x.goes(0, 1), 5);
        due("no way: in", x.goes(0, 2), 0);
        due("no way: first", x.goes(0, 3), -5);
        x.way(1);
        x.way(2);
        // 3 and 20 by 2; then 3 on
        due("minute", x.goes(0, 0), 16);
        due("coins", x.goes(0, 1), 3);
        due("in", x.goes(0, 2), 6);
        due("all came in", x.goes(0, 3), -5);
        x.way(1);
        due("no counting again", x.goes(0, 0), 19);
        due("pays again", x.goes(0, 1), 1);
        x.way(1);
        due("no walk, no counting", x.goes(0, 0), 19);
        due("can't pay", x.goes(0, 1), 1);
        due("was in there still", x.goes(0, 2), 6);
        due("the fourth place", x.goes(0, 3), 3);
        x.way(3);
        due("the first of two", x.goes(0, 3), 3);
        due("on it walked", x.goes(0, 0), 25);
        // 6 and 20; 3; 3; 0; 6
        due("the other: minute", x.goes(1, 0), 38);
        due("the other: coins", x.goes(1, 1), 1);
        due("the other: in", x.goes(1, 2), 0);
        due("the other: first", x.goes(1, 3), 0);
        due("no folk", x.goes(2, 0), -1);
        due("no folk -1", x.goes(-1, 0), -1);
        due("what 4", x.goes(0, 4), -1);
        due("what -1", x.goes(0, -1), -1);
    }

    /** Kinds that look at the whole night. */
    private static void promise16Kinds() {
        AskedIn x = new AskedIn();
        x.house(1, 0, 0);
        x.house(1, 0, 0);
        x.house(2, 5, 0);
        x.house(3, 1, 0);
        x.house(5, 1, 0);
        x.folk(0, 1, 1);
        x.way(0);
        x.way(0);
        x.way(2);
        due("the same house twice is one", x.goes(0, 3), 2);
        x.way(1);
        x.way(2);
        due("two others", x.goes(0, 2), 7);
        x.way(-1);
        x.way(0);
        x.way(4);
        due("vain, with a coin", x.goes(0, 2), 17);
        x.way(-1);
        x.way(3);
        x.way(4);
        due("vain, the coin spent", x.goes(0, 2), 8);
        due("vain at place 1", x.goes(0, 3), 1);
        x.sell(2, 2, 4);
        x.ask(2, 0, true);
        x.way(-1);
        x.way(2);
        x.ask(2, 0, false);
        due("proud, nowhere else", x.goes(0, 2), 0);
        x.way(0);
        x.way(2);
        due("proud behind another", x.goes(0, 2), 5);
        x.way(2);
        x.sell(0, 0, 0);
        due("itself is no other", x.goes(0, 2), 0);
    }

    private static void promise17Round() {
        AskedIn x = new AskedIn();
        x.house(2, 2, 0);
        x.house(2, 1, 0);
        x.house(1, 0, 0);
        x.house(0, 0, 6);
        x.folk(0, 0, 1);
        // only by 2, 1, 0 in this order does one come in everywhere
        due("three", x.round(0, 7, 0), 3);
        due("minute", x.round(0, 7, 1), 12);
        due("first", x.round(0, 7, 10), 2);
        due("second", x.round(0, 7, 11), 1);
        due("third", x.round(0, 7, 12), 0);
        due("fourth", x.round(0, 7, 13), -5);
        due("fifth", x.round(0, 7, 14), -5);
        due("nowhere to go", x.round(0, 0, 0), 0);
        due("no minute", x.round(0, 0, 1), 0);
        due("no first", x.round(0, 0, 10), -5);
        due("a house that asks nobody", x.round(0, 8, 0), 0);
        due("it takes 9 and 30", x.round(0, 8, 1), 39);
        due("it is the row", x.round(0, 8, 10), 3);
        AskedIn y = new AskedIn();
        for (int i = 0; i < 6; i++) {
            y.house(1, 0, 0);
        }
        y.folk(2, 0, 1);
        // 1 0 3 4 5 or 3 4 5 1 0: 18 and 24 minutes; 0 first: 21
        due("five of six", y.round(0, 59, 0), 5);
        due("the shorter side first", y.round(0, 59, 1), 21);
        due("the first of it", y.round(0, 59, 10), 0);
        due("the second of it", y.round(0, 59, 11), 1);
        due("the last of it", y.round(0, 59, 14), 5);
        dueRow(y, 2, 59, 21, 0, 1, 3, 4, 5);
        dueRow(y, 5, 62, 12, 5, 4, 3, 2, 1);
        dueRow(y, 4, 55, 18, 4, 5, 2, 1, 0);
        dueRow(y, 0, 31, 12, 0, 1, 2, 3, 4);
        dueRow(y, 3, 46, 18, 1, 2, 3, 5);
        y.sell(1, 1, 1);
        dueRow(y, 0, 15, 15, 0, 2, 1, 3);
        y.sell(1, 1, 0);
        y.sack(0, 1);
        due("0 ahead of 2, or 2 ahead of 0: alike far", y.round(0, 5, 1), 9);
        due("the first as a row", y.round(0, 5, 10), 0);
        y.strew(2, 99);
        y.sell(2, 0, 0);
        due("late grain: in at 0 only if that is first", y.round(0, 5, 0), 1);
        due("0 first", y.round(0, 5, 10), 0);
    }

    /** The best way of one from a sack, and how long it takes; it comes in everywhere. */
    private static void dueRow(AskedIn x, int sack, int set, int minute, int... row) {
        x.sack(0, sack);
        String what = "round " + set + " from " + sack;
        due(what + ": ins", x.round(0, set, 0), row.length);
        due(what + ": minute", x.round(0, set, 1), minute);
        for (int k = 0; k < row.length; k++) {
            due(what + ": " + k, x.round(0, set, 10 + k), row[k]);
        }
    }

    private static void promise17Refusals() {
        AskedIn x = new AskedIn();
        for (int i = 0; i < 6; i++) {
            x.house(1, 0, 0);
        }
        x.folk(2, 0, 1);
        due("six of them", x.round(0, 63, 0), -2);
        due("beyond the houses", x.round(0, 64, 0), -2);
        due("below 0", x.round(0, -1, 0), -2);
        due("least", x.round(0, MIN, 0), -2);
        due("no folk ahead of set", x.round(1, 63, 0), -1);
        due("no folk -1", x.round(-1, 1, 0), -1);
        int[] noWhat = {-1, 2, 9, 15, MIN, MAX, MIN + 10};
        for (int what : noWhat) {
            due("what " + what, x.round(0, 63, what), -1);
        }
        AskedIn y = new AskedIn();
        y.house(1, 0, 0);
        y.folk(0, 0, 1);
        due("a house that is not", y.round(0, 2, 0), -2);
        due("the only one", y.round(0, 1, 0), 1);
    }

    private static void promise18Keep() {
        AskedIn x = new AskedIn();
        x.house(3, 0, 99);
        x.house(0, 0, 0);
        x.house(1, 2, 0);
        x.house(4, 8, 0);
        x.folk(0, 0, 1);
        x.folk(1, 0, 9);
        due("5 a grain: 60 by 12", x.keep(0, 0), 12);
        due("3 more: 57 by 12", x.keep(3, 0), 11);
        due("495 by 9 is 55, and 3", x.keep(0, 1), -5);
        due("nobody asked", x.keep(1, 0), 0);
        due("lonely until 10: 6 minutes are too few", x.keep(2, 0), 0);
        due("the town's grain stays", x.of(0, 2), 99);
        Checks.town(x, "count 5 g<2;count 1 g>1;dawn 60");
        due("by g of the grain told", x.keep(0, 0), 12);
        Checks.town(x, "count 1 g<9;count 1 g=9;count 9 g=3");
        due("by g in the thirties: 10 each", x.keep(0, 0), 30);
        Checks.town(x, "walk 30 g<3;dawn 61");
        due("far by g: 60, and 5 by the first grain", x.keep(2, 0), 1);
        Checks.town(x, "count 1 h=0;walk 40 g>4;walk 2 g<9;dawn 44");
        due("far by g: 42 and 2", x.keep(0, 1), 50);
        due("no house", x.keep(4, 0), -1);
        due("no house -1", x.keep(-1, 0), -1);
        due("no folk", x.keep(0, 2), -1);
        due("no folk -1", x.keep(0, -1), -1);
        Checks.town(x, "dawn 0");
        due("no night", x.keep(0, 0), 0);
    }

    private static void promise19More() {
        AskedIn x = new AskedIn();
        due("no house: which", x.more(99, 0), -5);
        due("no house: pairs", x.more(0, 1), -5);
        due("what 2", x.more(100, 2), -1);
        due("what -1", x.more(0, -1), -1);
        due("n 100", x.more(100, 0), -2);
        due("n -1", x.more(-1, 1), -2);
        x.house(0, 0, 0);
        x.house(3, 0, 5);
        x.house(3, 0, 6);
        due("no folk: which", x.more(50, 0), 0);
        due("no folk: pairs", x.more(50, 1), 0);
        x.folk(2, 0, 1);
        x.folk(2, 0, 1);
        // at 1: 3 and 25; at 2: 30. 6 more: 58, 60
        due("nothing more: which", x.more(0, 0), 0);
        due("nothing more: pairs", x.more(0, 1), 4);
        due("6 more: which", x.more(6, 0), 2);
        due("6 more: pairs", x.more(6, 1), 2);
        due("7 more: which, the first", x.more(7, 0), 1);
        due("7 more: pairs", x.more(7, 1), 2);
        x.ask(0, 0, true);
        x.strew(0, 60);
        due("all the grain: 99 at most", x.more(99, 0), 1);
        Checks.town(x, "count 1 h<9;count 9 g=9;dawn 99");
        due("99 is in the nineties", x.more(99, 1), 3);
        due("the grain stays", x.of(1, 2), 5);
        // 3 and 55 at both; one grain more keeps out
        AskedIn z = new AskedIn();
        z.house(0, 0, 11);
        z.house(3, 0, 11);
        z.house(0, 0, 11);
        z.house(3, 0, 11);
        z.folk(2, 0, 1);
        due("one more: which", z.more(1, 0), 1);
        due("one more: pairs", z.more(1, 1), 1);
        due("none more: which", z.more(0, 0), 0);
        due("none more: pairs", z.more(0, 1), 2);
        // lonely ones let in more by more grain
        AskedIn y = new AskedIn();
        y.house(1, 2, 0);
        y.folk(0, 0, 1);
        due("more than before", y.more(2, 1), 1);
        due("one less grain", y.more(1, 1), 0);
        due("the only one", y.more(2, 0), 0);
    }

    private static void promise20Share() {
        AskedIn x = new AskedIn();
        x.house(0, 0, 0);
        x.house(3, 2, 10);
        x.house(0, 0, 0);
        x.house(0, 0, 0);
        x.folk(0, 2, 1);
        x.folk(3, 1, 3);
        x.folk(1, 9, 9);
        // 3 and 6 minutes, then 50 by 4
        due("done", x.share(0, 1, 1, 0), 19);
        due("done, the other first", x.share(1, 0, 1, 0), 19);
        due("one has the coins", x.share(0, 1, 1, 1), 1);
        due("the other one", x.share(1, 0, 1, 1), 2);
        due("both", x.share(0, 2, 1, 1), 3);
        due("50 by 10 and 3", x.share(0, 2, 1, 0), 8);
        Checks.town(x, "count 4 f=0;count 8 f=1;walk 2 f=0;walk 5 f=1;dawn 20");
        due("slow of the first: 10 and 40 by 4", x.share(0, 1, 1, 0), 20);
        due("dawn", x.share(0, 1, 1, 1), 0);
        due("slow of the other: 10 and 80 by 4", x.share(1, 0, 1, 0), 30);
        due("dawn for both", x.share(0, 2, 1, 1), 3);
        Checks.town(x, "count 4 f=0;walk 2 f=0;walk 5 f=1;dawn 21");
        due("just before dawn", x.share(0, 1, 1, 1), 1);
        x.sell(1, 2, 1);
        due("been in nowhere", x.share(0, 2, 1, 1), 0);
        x.ask(1, 2, true);
        due("asked", x.share(0, 2, 1, 1), 2);
        x.sell(1, 1, 4);
        due("lonely at 20", x.share(0, 1, 1, 1), 3);
        due("not yet at 10", x.share(1, 0, 1, 0), 10);
        due("not yet", x.share(1, 0, 1, 1), 0);
        due("one of them only", x.share(1, 1, 1, 0), -2);
        due("no one", x.share(3, 3, 1, 0), -1);
        due("no one -1", x.share(-1, 0, 1, 0), -1);
        due("no other", x.share(0, 3, 1, 0), -1);
        due("no other -1", x.share(0, -1, 1, 0), -1);
        due("no house", x.share(0, 1, 4, 0), -1);
        due("no house ahead of bad", x.share(0, 0, -1, 0), -1);
        due("no what ahead of bad", x.share(0, 0, 1, 2), -1);
        due("what -1", x.share(0, 1, 1, -1), -1);
    }

    private static void promise21Watch() {
        AskedIn x = new AskedIn();
        due("no house", x.watch(0, true), -1);
        due("none", x.watch(-1, true), 0);
        due("-2", x.watch(-2, true), -1);
        x.house(0, 0, 0);
        for (int i = 1; i <= 8; i++) {
            due("watch " + i, x.watch(0, i % 2 == 0), i);
        }
        due("ninth", x.watch(0, true), -4);
        due("none ahead of full", x.watch(1, true), -1);
        due("eight", x.count(4), 8);
        due("empty", x.watch(-1, false), 0);
        due("no more", x.count(4), 0);
        due("again", x.watch(0, false), 1);
    }

    private static void promise22Suspects() {
        AskedIn x = new AskedIn();
        due("nobody there", x.suspects(), 0);
        x.house(3, 2, 0);
        x.house(1, 1, 0);
        x.folk(0, 2, 1);
        x.folk(0, 1, 1);
        x.folk(0, 9, 1);
        due("nothing watched: all", x.suspects(), 7);
        x.watch(0, true);
        due("who can pay", x.suspects(), 5);
        x.watch(1, false);
        due("who is early", x.suspects(), 5);
        x.sack(2, 1);
        x.sell(1, 0, 0);
        x.ask(1, 0, true);
        due("who was not asked", x.suspects(), 4);
        x.watch(0, false);
        due("nobody is both", x.suspects(), 0);
        x.watch(-1, false);
        x.watch(0, false);
        due("who can't pay", x.suspects(), 2);
    }

    private static void promise23Next() {
        AskedIn x = new AskedIn();
        due("no houses", x.next(), -5);
        x.house(0, 0, 0);
        due("no folk", x.next(), -5);
        x.house(3, 1, 0);
        x.house(3, 2, 0);
        x.house(3, 3, 0);
        x.folk(0, 0, 1);
        due("one alone: the first", x.next(), 0);
        x.folk(0, 1, 1);
        x.folk(0, 2, 1);
        due("one of three, or two: the first", x.next(), 1);
        x.folk(0, 3, 1);
        due("two of four", x.next(), 2);
        x.watch(1, true);
        due("of 1, 2, 3", x.next(), 2);
        x.watch(2, true);
        due("of 2, 3", x.next(), 3);
        x.watch(3, true);
        due("of 3", x.next(), 0);
        x.watch(0, true);
        due("of nobody", x.next(), -5);
    }

    private static void promise24When() {
        AskedIn x = new AskedIn();
        x.house(1, 9, 2);
        x.house(0, 0, 0);
        x.folk(0, 0, 1);
        x.folk(1, 0, 1);
        due("45 less 10", x.when(0, 0), 35);
        due("45 less 13", x.when(1, 0), 32);
        due("never", x.when(0, 1), -5);
        x.sell(0, 3, 0);
        due("at once", x.when(0, 0), 0);
        x.sell(0, 3, 1);
        due("no coins", x.when(0, 0), -5);
        x.sell(0, 4, 8);
        x.strew(0, 12);
        due("dawn already", x.when(0, 0), -5);
        Checks.town(x, "count 0 h=0;dawn 46");
        x.sell(0, 1, 9);
        due("the last minute", x.when(0, 0), 45);
        Checks.town(x, "count 0 h=0;dawn 45");
        due("dawn too early", x.when(0, 0), -5);
        x.sell(0, 6, 0);
        x.row(0, 0, 0);
        x.row(0, 1, 0);
        due("told at 2", x.when(0, 0), 2);
        due("no folk", x.when(2, 0), -1);
        due("no folk -1", x.when(-1, 0), -1);
        due("no house", x.when(0, 2), -1);
        due("no house -1", x.when(0, -1), -1);
    }

    private static void promise25Odds() {
        AskedIn x = new AskedIn();
        x.house(1, 4, 2);
        x.house(0, 0, 0);
        x.folk(0, 0, 1);
        x.folk(1, 0, 1);
        // begins at 10 .. 49
        due("40 of 60: above", x.odds(0, 0, 0), 2);
        due("40 of 60: below", x.odds(0, 0, 1), 3);
        // begins at 7 .. 46
        due("40 of 60 as well", x.odds(1, 0, 0), 2);
        due("none: above", x.odds(0, 1, 0), 0);
        due("none: below", x.odds(0, 1, 1), 1);
        x.ask(0, 0, true);
        due("50 of 60: above", x.odds(0, 0, 0), 5);
        due("50 of 60: below", x.odds(0, 0, 1), 6);
        Checks.town(x, "dawn 99");
        due("all: above", x.odds(0, 0, 0), 1);
        due("all: below", x.odds(0, 0, 1), 1);
        Checks.town(x, "dawn 17");
        due("7 of 60: above", x.odds(0, 0, 0), 7);
        due("7 of 60: below", x.odds(0, 0, 1), 60);
        due("no folk", x.odds(2, 0, 0), NO);
        due("no folk -1", x.odds(-1, 0, 0), NO);
        due("no house", x.odds(0, 2, 0), NO);
        due("no house -1", x.odds(0, -1, 0), NO);
        due("part 2", x.odds(0, 0, 2), NO);
        due("part -1", x.odds(0, 0, -1), NO);
    }

    private static void promise26Mean() {
        AskedIn x = new AskedIn();
        due("no house at all", x.mean(0, 0), NO);
        x.house(0, 0, 1);
        x.house(0, 0, 0);
        due("nobody", x.mean(0, 0), NO);
        due("nobody: below", x.mean(0, 1), NO);
        x.folk(0, 0, 1);
        due("one: above", x.mean(0, 0), 5);
        due("one: below", x.mean(0, 1), 1);
        due("3: above", x.mean(1, 0), 3);
        x.folk(1, 0, 9);
        x.folk(1, 0, 9);
        // 5, 4, 4
        due("13 by 3: above", x.mean(0, 0), 13);
        due("13 by 3: below", x.mean(0, 1), 3);
        due("3 by 3: above", x.mean(1, 0), 1);
        due("3 by 3: below", x.mean(1, 1), 1);
        x.folk(1, 0, 4);
        x.sack(0, 1);
        // 8, 4, 4, 5; and nothing at all
        due("21 by 4: above", x.mean(0, 0), 21);
        due("21 by 4: below", x.mean(0, 1), 4);
        due("0 by 4: above", x.mean(1, 0), 0);
        due("0 by 4: below", x.mean(1, 1), 1);
        due("no house", x.mean(2, 0), NO);
        due("no house -1", x.mean(-1, 0), NO);
        due("part 2", x.mean(0, 2), NO);
        due("part -1", x.mean(0, -1), NO);
    }

    private static void promise27Book() {
        AskedIn x = new AskedIn();
        due("none of it", x.book(-1, 99), 0);
        x.house(0, 0, 0);
        due("no folk", x.book(0, 0), -1);
        x.folk(0, 0, 1);
        due("no house", x.book(0, 1), -1);
        due("no house -1", x.book(0, -1), -1);
        due("-2", x.book(-2, 0), -1);
        for (int i = 1; i <= 12; i++) {
            due("row " + i, x.book(0, 0), i);
        }
        due("thirteenth", x.book(0, 0), -4);
        due("none ahead of full", x.book(1, 0), -1);
        due("twelve", x.count(5), 12);
        due("empty", x.book(-1, -1), 0);
        due("no row", x.count(5), 0);
        due("again", x.book(0, 0), 1);
    }

    private static void promise28Looked() {
        AskedIn x = new AskedIn();
        due("no book", x.looked(), -5);
        x.house(3, 2, 0);
        x.house(0, 0, 0);
        x.folk(0, 2, 1);
        x.folk(0, 1, 1);
        x.folk(0, 9, 1);
        due("empty", x.looked(), -5);
        x.book(2, 0);
        x.book(0, 0);
        due("both come in", x.looked(), -5);
        x.book(2, 1);
        x.book(1, 0);
        due("one of the folk: the first kept out", x.looked(), 2);
        x.ask(1, 2, true);
        due("the next one", x.looked(), 1);
        x.ask(0, 1, true);
        due("nobody", x.looked(), -5);
        x.book(-1, 0);
        x.book(0, 1);
        due("number 0", x.looked(), 0);
    }

    private static void promise29Judge() {
        AskedIn x = new AskedIn();
        due("no tape 6", x.judge(6, 0), -1);
        due("no tape -1", x.judge(-1, 0), -1);
        due("no house, nothing on it", x.judge(0, 0), -5);
        due("no house, below 0", x.judge(0, -1), -5);
        x.tape(1, 1, 5);
        due("shorts, no house", x.judge(1, 0), -12);
        x.house(0, 0, 7);
        x.house(0, 0, 0);
        x.house(0, 0, 99);
        due("nothing on it", x.judge(0, 0), 100);
        for (int sort = 1; sort < 5; sort++) {
            x.tape(1, sort, 5);
            due("sort " + sort, x.judge(1, -1), -12);
        }
        x.tape(0, 0, 5);
        x.item(0, 1, 7);
        x.item(0, 3, 99);
        due("all so", x.judge(0, 1), -5);
        due("below 0", x.judge(0, -1), 100);
        due("least", x.judge(0, MIN), 100);
        due("far beyond", x.judge(0, MAX), 100);
        due("at its end", x.judge(0, 5), 100);
        due("the first is otherwise", x.judge(0, 0), 0);
        x.strew(2, 98);
        due("the third is otherwise", x.judge(0, 1), 2);
        x.item(0, 4, 7);
        due("one looked at", x.judge(0, 4), 101);
        x.item(0, 3, 7);
        x.item(0, 4, 0);
        due("two looked at", x.judge(0, 3), 102);
        x.item(0, 4, 1);
        due("otherwise ahead of the end", x.judge(0, 3), 1);
        x.strew(0, 0);
        x.tape(2, 0, 0);
        due("an empty row", x.judge(2, 0), 100);
        x.tape(0, -1, 0);
        due("nothing again", x.judge(0, 0), 100);
        due("the last tape", x.judge(5, 0), 100);
    }

    private static void promise30Image() {
        AskedIn x = new AskedIn();
        due("of nothing", x.image(), 0);
        due("it is one", x.undo(), 0);
        x.house(0, 0, 0);
        x.house(0, 0, 0);
        due("two", x.image(), 2);
        x.house(0, 0, 0);
        due("three", x.image(), 3);
        due("the newest holds", x.undo(), 3);
    }

    private static void promise31Undo() {
        AskedIn x = new AskedIn();
        due("no image", x.undo(), -3);
        x.house(6, 1, 10);
        x.house(3, 2, 20);
        x.folk(0, 3, 4);
        x.folk(1, 9, 9);
        x.ask(1, 1, true);
        x.row(0, 2, 0);
        x.way(1);
        x.watch(0, true);
        x.book(0, 1);
        x.book(1, 1);
        Checks.town(x, "dawn 40");
        Checks.feed(x, "abc");
        x.tape(0, 0, 2);
        x.act(0, 0, 1);
        due("image", x.image(), 2);
        change(x);
        due("undone", x.undo(), 2);
        dueAsImage(x);
        change(x);
        due("undone again", x.undo(), 2);
        dueAsImage(x);
        due("a town is no more undone", x.count(2), 3);
        due("nor the text", x.count(6), 5);
        due("nor a tape", x.read(0, 0), 5);
        due("nor the trace", x.trace(0), 40);
        due("a fault in the text that stayed", Checks.town(x, "dawn 3"), -11);
        due("the next town's number", Checks.town(x, "dawn 3"), 3);
        AskedIn y = new AskedIn();
        y.image();
        Checks.town(y, "dawn 3");
        due("dawn", y.dawn(), 3);
        y.undo();
        due("no town holds", y.dawn(), 60);
        due("nor its clauses", y.count(2), 1);
    }

    private static void change(AskedIn x) {
        x.house(1, 1, 1);
        x.folk(2, 1, 1);
        x.sack(0, 2);
        x.strew(0, 99);
        x.ask(0, 0, true);
        x.ask(1, 1, false);
        x.ask(2, 2, true);
        x.sell(0, 6, 5);
        x.sell(1, 4, 4);
        x.way(2);
        x.way(0);
        x.watch(-1, false);
        x.watch(1, false);
        x.book(2, 2);
        Checks.feed(x, "x");
        if (x.count(2) == 1) {
            x.town();
            Checks.town(x, "dawn 10");
            Checks.town(x, "dawn 20");
            Checks.feed(x, "defg");
        }
        x.item(0, 0, 5);
        x.act(1, 2, 1);
        x.sell(1, 3, 1);
        x.act(1, 2, 1);
        x.sell(0, 1, 8);
        x.sell(1, 5, 8);
    }

    private static void dueAsImage(AskedIn x) {
        due("houses", x.count(0), 2);
        due("folk", x.count(1), 2);
        due("kind", x.of(0, 0) * 10 + x.of(1, 0), 63);
        due("v", x.of(0, 1) * 10 + x.of(1, 1), 12);
        due("grain", x.of(0, 2) * 100 + x.of(1, 2), 1020);
        due("asked", x.of(0, 3) * 10 + x.of(1, 3), 2);
        due("sacks", x.who(0, 0) * 10 + x.who(1, 0), 1);
        due("coins", x.who(0, 1) * 10 + x.who(1, 1), 39);
        due("quickness", x.who(0, 2) * 10 + x.who(1, 2), 49);
        due("row", x.row(0, 2, 0) * 10 + x.row(0, 1, 1), 1);
        due("way", x.count(3), 1);
        due("goes", x.goes(0, 2), 2);
        due("watched", x.count(4), 1);
        due("who", x.suspects(), 3);
        due("book", x.count(5), 2);
        due("dawn", x.dawn(), 40);
        due("a new house", x.house(0, 0, 0), 2);
        due("asked nobody", x.of(2, 3), 0);
        x.undo();
    }

    private static void promise32Act() {
        // kind, act, answer, trace: of the house 2, v 5, by x 7
        Object[][] rows = {
            {0, 0, 9, "10"}, {0, 1, 4, "11 10"}, {0, 2, 8, "12 11 10"},
            {1, 0, 9, "10"}, {1, 1, 2, "20 11 10"}, {1, 2, 4, "12 20 11 10"},
            {2, 0, 23, "30 10"}, {2, 1, 18, "11 30 10"}, {2, 2, 36, "12 11 30 10"},
            {3, 0, 9, "10"}, {3, 1, 4, "11 10"}, {3, 2, 6, "40 12 11 10 11 10"},
            {4, 0, -9, "50 10"}, {4, 1, (-10 - 5) ^ 6, "51 20 11 50 10"},
            {4, 2, ((-10 - 5) ^ 6) * 2, "12 51 20 11 50 10"},
            {5, 0, 23, "30 10"}, {5, 1, 18, "11 30 10"}, {5, 2, 24, "60 12 11 30 10"},
            {6, 0, 9 ^ 5, "71 10"}, {6, 1, (9 ^ 5) - 5 + 4, "70 11 71 10 10"},
            {6, 2, ((9 ^ 5) - 1) * 2 + (3 ^ 5) - 1, "40 12 70 11 71 10 10 70 11 71 10 10"},
        };
        for (Object[] row : rows) {
            AskedIn x = new AskedIn();
            x.house(1, 1, 1);
            x.house(1, 1, 1);
            x.house((Integer) row[0], 5, 9);
            String what = "act " + row[1] + " of kind " + row[0];
            due(what, x.act(2, (Integer) row[1], 7), (Integer) row[2]);
            C.due(what + " traced " + traced(x), row[3].equals(traced(x)));
            due(what + " ran", x.count(7), ((String) row[3]).split(" ").length);
        }
        AskedIn x = new AskedIn();
        x.house(0, 5, 0);
        x.house(2, 0, 0);
        x.house(4, 0, 0);
        due("wraps", x.act(1, 0, MAX), MAX - 2 + 1);
        due("wraps by sums", x.act(1, 0, 0x2AAAAAAB), (0x2AAAAAAB * 3) + 1);
        due("wraps below", x.act(0, 1, MIN), MAX - 4);
        due("wraps by 2", x.act(0, 2, MIN + 5), 0);
        due("wraps at the sign", x.act(2, 0, MIN - 2), MIN);
        due("no house", x.act(3, 0, 1), 0);
        due("no trace of it", x.count(7), 0);
        x.act(0, 0, 1);
        due("no house -1", x.act(-1, 0, 1), 0);
        due("no trace", x.trace(0), -1);
        x.act(0, 0, 1);
        due("no act 3", x.act(0, 3, 1), 0);
        due("none ran", x.count(7), 0);
        x.act(0, 0, 1);
        due("no act -1", x.act(0, -1, 1), 0);
        due("none ran then", x.count(7), 0);
    }

    private static void promise33Trace() {
        AskedIn x = new AskedIn();
        due("none", x.trace(0), -1);
        x.house(6, 0, 0);
        x.act(0, 2, 0);
        due("first", x.trace(0), 40);
        due("third", x.trace(2), 70);
        due("last", x.trace(11), 10);
        due("behind it", x.trace(12), -1);
        due("-1", x.trace(-1), -1);
        due("most", x.trace(MAX), -1);
        x.act(0, 0, 0);
        due("the latest alone", x.trace(0), 71);
        due("its second", x.trace(1), 10);
        due("no third", x.trace(2), -1);
    }

    private static void promise34Taken() {
        int[] above = {-1, 0, 0, 0, 1, 2, 3};
        for (int kind = 0; kind <= 6; kind++) {
            AskedIn x = new AskedIn();
            x.house(kind, 0, 0);
            for (int k = 0; k <= 6; k++) {
                boolean under = kind == k || above[kind] == k || k == 0;
                due("kind " + kind + " for " + k, x.taken(0, k), under ? kind : -12);
            }
            due("k 7", x.taken(0, 7), -2);
            due("k -1", x.taken(0, -1), -2);
            due("k ahead of nothing", x.taken(5, 7), -2);
            due("nothing", x.taken(1, 0), -11);
            due("nothing -1", x.taken(-1, 0), -11);
        }
    }

    private static void promise35Count() {
        AskedIn x = new AskedIn();
        for (int i = 0; i < 5; i++) {
            x.house(0, 0, 0);
        }
        x.folk(0, 0, 1);
        x.folk(0, 0, 1);
        x.folk(0, 0, 1);
        Checks.town(x, "dawn 1");
        Checks.town(x, "dawn 2");
        for (int i = 0; i < 4; i++) {
            x.way(0);
        }
        for (int i = 0; i < 6; i++) {
            x.watch(0, true);
        }
        for (int i = 0; i < 7; i++) {
            x.book(0, 0);
        }
        Checks.feed(x, "dawn 3;dawn");
        x.act(0, 1, 0);
        int[] due = {5, 3, 2, 4, 6, 7, 11, 2};
        for (int what = 0; what < 8; what++) {
            due("count " + what, x.count(what), due[what]);
        }
        due("count 8", x.count(8), -2);
        due("count -1", x.count(-1), -2);
    }

    private static void promise36Tape() {
        AskedIn x = new AskedIn();
        due("no tape 6", x.tape(6, 5, -1), -1);
        due("no tape -1", x.tape(-1, 0, 1), -1);
        due("sort 5", x.tape(0, 5, -1), -2);
        due("sort -2", x.tape(0, -2, 0), -2);
        due("n 61", x.tape(0, 0, 61), -2);
        due("n -1", x.tape(0, 0, -1), -14);
        due("least n", x.tape(0, 0, MIN), -14);
        due("nothing came of it", x.item(0, 0, 0), -11);
        for (int sort = 0; sort < 5; sort++) {
            due("sort " + sort, x.tape(sort, sort, 60), 1);
            due("last place", x.item(sort, 59, 1), 1);
            due("all 0", x.read(sort, 58), 0);
            due("it is 1", x.read(sort, 59), 1);
            due("no place 60", x.read(sort, 60), NO);
        }
        due("anew", x.tape(3, 3, 60), 1);
        due("all 0 again", x.read(3, 59), 0);
        due("refused", x.tape(2, 0, 61), -2);
        due("as it was", x.read(2, 59), 1);
        due("shorter", x.tape(2, 2, 0), 1);
        due("no place", x.item(2, 0, 1), -13);
        due("the last tape", x.tape(5, 1, 2) + x.item(5, 1, 7), 2);
        due("read of it", x.read(5, 1), 7);
        due("shifted in it", x.shift(5, 1, 5, 0, 1), 1);
        due("it came", x.read(5, 0), 7);
        due("holds nothing", x.tape(1, -1, 99), 1);
        due("nothing", x.item(1, 0, 1), -11);
        due("holds nothing, below 0", x.tape(0, -1, -99), 1);
        due("nothing to read", x.read(0, 0), NO);
    }

    private static void promise37Item() {
        AskedIn x = new AskedIn();
        long v = 0x123456789ABCDEF0L;
        long[] due = {(byte) 0xF0, (short) 0xDEF0, 0x9ABCDEF0, v, 1};
        long[] dueOfBit32 = {0, 0, 0, 1L << 32, 1};
        for (int sort = 0; sort < 5; sort++) {
            x.tape(sort, sort, 3);
            due("item", x.item(sort, 1, v), 1);
            due("sort " + sort, x.read(sort, 1), due[sort]);
            due("the one before", x.read(sort, 0), 0);
            due("the one behind", x.read(sort, 2), 0);
            x.item(sort, 2, 1L << 32);
            due("bit 32", x.read(sort, 2), dueOfBit32[sort]);
            x.item(sort, 1, 0);
            due("0 again", x.read(sort, 1), 0);
            x.item(sort, 0, -1);
            due("-1", x.read(sort, 0), sort == 4 ? 1 : -1);
            due("place 3", x.item(sort, 3, 1), -13);
            due("place -1", x.item(sort, -1, 1), -13);
            due("place least", x.item(sort, MIN, 1), -13);
        }
        x.item(0, 0, 128);
        due("128 as a byte", x.read(0, 0), -128);
        due("nothing ahead of place", x.item(5, -1, 1), -11);
        due("no tape 6", x.item(6, 0, 1), -1);
        due("no tape -1", x.item(-1, 0, 1), -1);
    }

    private static void promise38Read() {
        AskedIn x = new AskedIn();
        due("no tape 6", x.read(6, 0), NO);
        due("no tape -1", x.read(-1, 0), NO);
        due("nothing", x.read(0, 0), NO);
        x.tape(0, 3, 2);
        x.item(0, 1, 77);
        due("item 0", x.read(0, 0), 0);
        due("item 1", x.read(0, 1), 77);
        due("item 2", x.read(0, 2), NO);
        due("item -1", x.read(0, -1), NO);
    }

    private static void promise39Shift() {
        AskedIn x = new AskedIn();
        due("no tape 6", x.shift(6, 0, 0, 0, 0), -1);
        due("no other 6", x.shift(0, 0, 6, 0, 0), -1);
        due("no tape -1", x.shift(-1, 0, 0, 0, 0), -1);
        due("no other -1", x.shift(0, 0, -1, 0, 0), -1);
        due("nothing", x.shift(0, 0, 0, 0, 0), -11);
        x.tape(0, 2, 6);
        x.tape(1, 2, 3);
        x.tape(2, 3, 3);
        due("other is nothing", x.shift(0, 0, 5, 0, -1), -11);
        due("the one is nothing", x.shift(5, 0, 0, 0, -1), -11);
        due("unlike", x.shift(0, 0, 2, 0, -1), -12);
        for (int i = 0; i < 6; i++) {
            x.item(0, i, i + 1);
        }
        int[][] noPlace = {
            {-1, 0, 0}, {0, -1, 1}, {0, 0, -1}, {0, 0, 4}, {4, 0, 3}, {0, 1, 3}, {7, 0, 0}, {0, 4, 0},
            {MAX, 0, 1}, {0, MAX, 1}, {0, 0, MAX}, {MIN, 0, 1}, {MAX, MAX, MAX}, {1, 1, MAX}, {0, 0, MIN},
        };
        for (int[] row : noPlace) {
            due("no place", x.shift(0, row[0], 1, row[1], row[2]), -13);
        }
        due("none at the ends", x.shift(0, 6, 1, 3, 0), 0);
        due("three", x.shift(0, 3, 1, 0, 3), 3);
        due("4 5 6", x.read(1, 0) * 100 + x.read(1, 1) * 10 + x.read(1, 2), 456);
        due("up within itself", x.shift(0, 0, 0, 2, 4), 4);
        due("1 2 1 2 3 4", digits(x, 0, 6), 121234);
        due("down within itself", x.shift(0, 1, 0, 0, 5), 5);
        due("2 1 2 3 4 4", digits(x, 0, 6), 212344);
        due("the other is as it was", digits(x, 1, 3), 456);
    }

    private static long digits(AskedIn x, int tape, int n) {
        long all = 0;
        for (int i = 0; i < n; i++) {
            all = all * 10 + x.read(tape, i);
        }
        return all;
    }
}
