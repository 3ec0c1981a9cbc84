/**
 * The boundary cases that the promises and what is asked (Terms, 2 and 3) name, a test each, promise
 * by promise (of the Terms ahead of them, TermsEdgeTest; of what is refused, RefusalTest).
 */
public final class PromiseEdgeTest {
    private static final Checks C = new Checks();
    private static final long NO = Long.MIN_VALUE;
    private static final int MIN = Integer.MIN_VALUE, MAX = Integer.MAX_VALUE;
    private static final int NONE = -1, BAD = -2, STATE = -3, FULL = -4, NOT_ANY = -5;
    private static final int NOTHING = -11, CAST = -12, PLACE = -13, SIZE = -14;
    private static final int HOUSE = 0, LONELY = 1, PROUD = 2, LANDLORD = 3, SAD = 4, VAIN = 5, TOLD = 6;

    public static void main(String[] args) throws IllegalAccessException {
        C.runAll(PromiseEdgeTest.class, "promise");
        C.end("PromiseEdgeTest");
    }

    private static void due(String what, long got, long want) {
        C.due(what, got, want);
    }

    /** One house of a kind and v, without grain, and one who sleeps there with these coins. */
    private static AskedIn at(int kind, int v, int coins, int quickness) {
        AskedIn x = new AskedIn();
        x.house(kind, v, 0);
        x.folk(0, coins, quickness);
        return x;
    }

    // ---- 1 .. 13: houses, folk, towns

    private static void promise01NoHousesNoFolkNoTown() {
        AskedIn x = new AskedIn();
        due("houses", x.count(0), 0);
        due("folk", x.count(1), 0);
        due("towns", x.count(2), 0);
        due("the first house", x.house(0, 0, 0), 0);
        due("the first of the folk", x.folk(0, 0, 1), 0);
        due("the first town", Checks.town(x, "dawn 1"), 0);
    }

    private static void promise01ObjectsAreApart() {
        AskedIn x = Checks.houses(HOUSE, HOUSE);
        AskedIn y = new AskedIn();
        Checks.town(x, "dawn 1");
        x.tape(0, 3, 1);
        due("no houses of the other object", y.count(0), 0);
        due("no town of it", y.dawn(), 60);
        due("no tape of it", y.item(0, 0, 1), NOTHING);
        due("its own number", y.house(HOUSE, 0, 0), 0);
        due("the other has two", x.count(0), 2);
    }

    private static void promise04OfEachOfTheFolk() {
        AskedIn x = Checks.houses(HOUSE, HOUSE);
        for (int one = 0; one < 4; one++) {
            due("slow of nobody yet", x.of(0, 10 + one), NONE);
            due("far of nobody yet", x.of(0, 20 + one), NONE);
            x.folk(0, one, 1);
        }
        Checks.town(x, "count 1 f=0;count 2 f=1;count 3 f=2;count 4 f=3;walk 5 f=0;walk 6 f=1;walk 7 f=2;walk 8 f=3");
        for (int one = 0; one < 4; one++) {
            due("slow of " + one, x.of(1, 10 + one), one + 1);
            due("far of " + one, x.of(1, 20 + one), one + 5);
        }
        due("slow of a fifth", x.of(1, 14), NONE);
        due("far of a fifth", x.of(1, 24), NONE);
        due("what 9", x.of(1, 9), NONE);
        due("what 19", x.of(1, 19), NONE);
    }

    private static void promise06StrewToItsBounds() {
        AskedIn x = Checks.houses(HOUSE);
        due("99", x.strew(0, 99), 0);
        due("is 99", x.of(0, 2), 99);
        due("0", x.strew(0, 0), 99);
        due("is 0", x.of(0, 2), 0);
        due("100", x.strew(0, 100), BAD);
        due("-1", x.strew(0, -1), BAD);
        due("is 0 still", x.of(0, 2), 0);
    }

    private static void promise06StrewWhatItWasOfEach() {
        AskedIn x = new AskedIn();
        for (int house = 0; house < 6; house++) {
            x.house(HOUSE, 0, 11 * house);
        }
        for (int house = 5; house >= 0; house--) {
            due("was", x.strew(house, 90 - house), 11 * house);
            due("is", x.strew(house, 0), 90 - house);
        }
    }

    private static void promise07AskTwiceIsAskedOnce() {
        AskedIn x = Checks.houses(HOUSE);
        x.folk(0, 0, 1);
        due("had not", x.ask(0, 0, true), 0);
        due("had", x.ask(0, 0, true), 1);
        due("bit", x.of(0, 3), 1);
        due("had still", x.ask(0, 0, false), 1);
        due("had not any more", x.ask(0, 0, false), 0);
        due("no bit", x.of(0, 3), 0);
    }

    private static void promise07AskOneOfFour() {
        for (int one = 0; one < 4; one++) {
            AskedIn x = Checks.houses(0, 0, 0, 0, 0, 0);
            for (int i = 0; i < 4; i++) {
                x.folk(0, 0, 1);
            }
            x.ask(5, one, true);
            for (int house = 0; house < 6; house++) {
                due("asked by " + house, x.of(house, 3), house == 5 ? 1 << one : 0);
            }
            for (int i = 0; i < 4; i++) {
                x.ask(5, i, true);
            }
            x.ask(5, one, false);
            due("all but " + one, x.of(5, 3), 15 - (1 << one));
        }
    }

    private static void promise08SackToItsOwn() {
        AskedIn x = Checks.houses(HOUSE, HOUSE);
        x.folk(1, 0, 1);
        due("to where it sleeps", x.sack(0, 1), 1);
        due("it sleeps there", x.who(0, 0), 1);
    }

    private static void promise08SackWhatItWasOfEach() {
        AskedIn x = Checks.houses(0, 0, 0, 0, 0, 0);
        for (int one = 0; one < 4; one++) {
            x.folk(one + 1, 0, 1);
        }
        for (int one = 3; one >= 0; one--) {
            due("was", x.sack(one, 5 - one), one + 1);
            due("is", x.who(one, 0), 5 - one);
        }
    }

    private static void promise09SellOldKindOfEach() {
        AskedIn x = Checks.houses(6, 5, 4, 3, 2, 1);
        for (int house = 5; house >= 0; house--) {
            due("old kind", x.sell(house, house, house), 6 - house);
            due("kind", x.of(house, 0), house);
            due("v", x.of(house, 1), house);
        }
    }

    private static void promise09SellKeepsWhomItAsked() {
        AskedIn x = at(HOUSE, 0, 0, 1);
        x.folk(0, 0, 1);
        x.strew(0, 42);
        x.ask(0, 1, true);
        for (int kind = 0; kind <= 6; kind++) {
            due("old kind", x.sell(0, kind, 9 - kind), kind == 0 ? 0 : kind - 1);
            due("kind", x.of(0, 0), kind);
            due("v", x.of(0, 1), 9 - kind);
            due("asked still", x.of(0, 3), 2);
            due("the grain lies there still", x.of(0, 2), 42);
        }
    }

    private static void promise09SellMakesTheRowOne() {
        for (int kind = 0; kind <= 6; kind++) {
            AskedIn x = at(TOLD, 0, 0, 1);
            for (int part = 0; part < 4; part++) {
                x.row(0, part, 0);
            }
            x.sell(0, kind, 0);
            x.sell(0, TOLD, 0);
            for (int part = 0; part < 4; part++) {
                due("part " + part + " is 1 again", x.row(0, part, 1), 1);
            }
        }
    }

    private static void promise09SellRefusedKeepsTheRow() {
        AskedIn x = at(TOLD, 0, 0, 1);
        x.row(0, 2, 0);
        due("no kind", x.sell(0, 7, 0), NONE);
        due("bad v", x.sell(0, 6, 10), BAD);
        due("part 2 is 0 still", x.row(0, 2, 0), 0);
    }

    private static void promise10RowOfAToldOneOnly() {
        for (int kind = 0; kind <= 6; kind++) {
            AskedIn x = at(kind, 0, 0, 1);
            due("row of kind " + kind, x.row(0, 3, 0), kind == TOLD ? 1 : STATE);
            due("part 4", x.row(0, 4, 0), NONE);
            due("n 2", x.row(0, 3, 2), BAD);
        }
    }

    private static void promise10RowOfEachToldOne() {
        AskedIn x = Checks.houses(TOLD, TOLD, TOLD);
        x.row(1, 2, 0);
        for (int part = 0; part < 4; part++) {
            due("of the first", x.row(0, part, 1), 1);
            due("of the second", x.row(1, part, 1), part == 2 ? 0 : 1);
            due("of the third", x.row(2, part, 0), 1);
        }
        due("of the third, all 0", x.row(2, 0, 1) + x.row(2, 1, 1) + x.row(2, 2, 1) + x.row(2, 3, 1), 0);
        due("of the second, all 1", x.row(1, 0, 1) + x.row(1, 1, 1) + x.row(1, 2, 1) + x.row(1, 3, 1), 4);
    }

    private static void promise11FeedSignsZeroTo127() {
        AskedIn x = new AskedIn();
        due("0", x.feed(0), 1);
        due("127", x.feed(127), 2);
        due("128", x.feed(128), BAD);
        due("-1", x.feed(-1), BAD);
        due("two", x.count(6), 2);
    }

    private static void promise12TownOfAFaultLeavesTheOneThatHeld() {
        AskedIn x = at(LANDLORD, 0, 0, 1);
        due("none held", Checks.town(x, "dawn 5;"), -17);
        due("none holds", x.dawn(), 60);
        due("slow of none", x.of(0, 10), 5);
        due("a town", Checks.town(x, "dawn 5;count 7 f=0"), 0);
        due("a fault", Checks.town(x, "dawn 6;count 8 f=0;walk"), -33);
        due("the town holds", x.dawn(), 5);
        due("its clauses", x.of(0, 10), 7);
        due("one town", x.count(2), 1);
        due("the next one's number", Checks.town(x, "dawn 6"), 1);
    }

    // ---- 14 .. 17: visits

    private static void promise15WayOfEight() {
        AskedIn x = Checks.houses(0, 0, 0, 0, 0, 0);
        x.folk(0, 0, 1);
        int[] way = {5, 0, 4, 1, 3, 2, 2, 5};
        for (int i = 0; i < way.length; i++) {
            due("place " + i, x.way(way[i]), i + 1);
        }
        due("a ninth", x.way(0), FULL);
        due("it goes all eight", x.goes(0, 0), 3 * (5 + 5 + 4 + 3 + 2 + 1 + 0 + 3));
        due("none then", x.way(-1), 0);
        due("no minute", x.goes(0, 0), 0);
        due("none again", x.way(-1), 0);
    }

    private static void promise16GoesByNoWay() {
        AskedIn x = at(LANDLORD, 0, 7, 1);
        due("minute", x.goes(0, 0), 0);
        due("coins", x.goes(0, 1), 7);
        due("in", x.goes(0, 2), 0);
        due("none at which it did not", x.goes(0, 3), NOT_ANY);
    }

    private static void promise16GoesFirstAndLastPlace() {
        AskedIn x = Checks.houses(LONELY, HOUSE);
        x.folk(0, 0, 1);
        for (int i = 0; i < 7; i++) {
            x.way(0);
        }
        due("in everywhere", x.goes(0, 3), NOT_ANY);
        x.way(1);
        due("not at the last place", x.goes(0, 3), 7);
        x.way(-1);
        x.way(1);
        x.way(0);
        x.way(1);
        due("not at the first place", x.goes(0, 3), 0);
    }

    private static void promise16GoesInAtAllSix() {
        AskedIn x = Checks.houses(LONELY, LONELY, LONELY, LONELY, LONELY, LONELY);
        x.folk(0, 0, 1);
        for (int house = 0; house < 6; house++) {
            x.way(house);
            due("bits", x.goes(0, 2), (2 << house) - 1);
        }
    }

    private static void promise17RoundOfNoHouse() {
        AskedIn x = at(LONELY, 0, 0, 1);
        due("how many", x.round(0, 0, 0), 0);
        due("minute", x.round(0, 0, 1), 0);
        for (int k = 0; k <= 4; k++) {
            due("there are fewer", x.round(0, 0, 10 + k), NOT_ANY);
        }
    }

    private static void promise17RoundOfOneToFive() {
        AskedIn x = Checks.houses(1, 1, 1, 1, 1, 1);
        x.folk(0, 0, 1);
        for (int n = 1; n <= 5; n++) {
            int set = (1 << n) - 1;
            due("all " + n, x.round(0, set, 0), n);
            due("minute of " + n, x.round(0, set, 1), 3 * (n - 1));
            for (int k = 0; k <= 4; k++) {
                due("place " + k + " of " + n, x.round(0, set, 10 + k), k < n ? k : NOT_ANY);
            }
        }
        due("six", x.round(0, 63, 0), BAD);
        due("five with the last", x.round(0, 62, 0), 5);
    }

    private static void promise17RoundBeyondTheHouses() {
        AskedIn x = Checks.houses(1, 1, 1);
        x.folk(0, 0, 1);
        due("all three", x.round(0, 7, 0), 3);
        due("house 3 is not", x.round(0, 8, 0), BAD);
        due("with others", x.round(0, 9, 0), BAD);
        due("far beyond", x.round(0, 1 << 30, 0), BAD);
        due("below 0", x.round(0, -1, 0), BAD);
    }

    private static void promise17RoundWhats() {
        AskedIn x = at(LONELY, 0, 0, 1);
        for (int what = -2; what <= 17; what++) {
            int want = what == 0 ? 1 : what == 1 || what == 10 ? 0 : what >= 11 && what <= 14 ? NOT_ANY : NONE;
            due("what " + what, x.round(0, 1, what), want);
        }
    }

    private static void promise17RoundOfSeveralTheLeastMinute() {
        AskedIn x = Checks.houses(LONELY, LONELY, LONELY);
        x.folk(2, 0, 1);
        due("all orders come in", x.round(0, 7, 0), 3);
        due("down the street", x.round(0, 7, 1), 6);
        due("2 first", x.round(0, 7, 10), 2);
        due("1 then", x.round(0, 7, 11), 1);
        due("0 last", x.round(0, 7, 12), 0);
    }

    private static void promise17RoundOfSeveralTheFirstAsARow() {
        AskedIn x = Checks.houses(LONELY, LONELY, LONELY, LONELY);
        x.folk(1, 0, 1);
        Checks.town(x, "walk 0 f=0");
        int[] row = {0, 1, 2, 3};
        due("all alike", x.round(0, 15, 1), 0);
        for (int k = 0; k < 4; k++) {
            due("place " + k, x.round(0, 15, 10 + k), row[k]);
        }
    }

    private static void promise17RoundMostAheadOfLeastMinute() {
        // lonely at 5: not at once, but when it comes back
        AskedIn x = Checks.houses(LONELY, LONELY, LONELY);
        x.sell(0, LONELY, 1);
        x.folk(0, 0, 1);
        due("three", x.round(0, 7, 0), 3);
        due("by 12 minutes, not by 6", x.round(0, 7, 1), 12);
        due("1 first", x.round(0, 7, 10), 1);
        due("0 then: 1 0 2 is ahead of 1 2 0", x.round(0, 7, 11), 0);
        due("2 last", x.round(0, 7, 12), 2);
    }

    private static void promise17RoundLessByOneMinute() {
        AskedIn x = Checks.houses(LONELY, LONELY, LONELY, LONELY);
        x.folk(2, 0, 1);
        Checks.town(x, "walk 1 f=0");
        due("3 first: 1 and 3, not 2 and 3", x.round(0, 9, 1), 4);
        due("3 first", x.round(0, 9, 10), 3);
        x.sack(0, 1);
        due("0 first: 1 and 3, not 2 and 3", x.round(0, 9, 1), 4);
        due("0 first", x.round(0, 9, 10), 0);
    }

    private static void promise17RoundOfAnotherOne() {
        AskedIn x = new AskedIn();
        x.house(LANDLORD, 1, 9);
        x.house(LONELY, 0, 9);
        x.folk(0, 0, 1);
        x.folk(1, 1, 9);
        due("one: 1 first, at 48; 0 only at 96", x.round(0, 3, 0), 1);
        due("its minute", x.round(0, 3, 1), 96);
        due("the other: both", x.round(1, 3, 0), 2);
        due("5, 3 and 5", x.round(1, 3, 1), 13);
        due("1 first", x.round(1, 3, 10), 1);
        due("0 then", x.round(1, 3, 11), 0);
    }

    private static void promise17RoundNowhereIn() {
        AskedIn x = Checks.houses(HOUSE, HOUSE, HOUSE);
        x.folk(1, 0, 1);
        due("none", x.round(0, 7, 0), 0);
        due("least minute", x.round(0, 7, 1), 9);
        due("the first as a row", x.round(0, 7, 10), 0);
        due("1 then", x.round(0, 7, 11), 1);
    }

    // ---- 18 .. 20: grain

    private static void promise18KeepZeroToNinetyNine() {
        AskedIn x = at(LANDLORD, 0, 0, 1);
        int[] dawns = {0, 1, 2, 50, 98, 99};
        for (int dawn : dawns) {
            due("town", Checks.town(x, "count 1 f=0;dawn " + dawn) >= 0 ? 0 : 1, 0);
            due("a minute for a grain, dawn " + dawn, x.keep(0, 0), dawn);
        }
    }

    private static void promise18KeepByNone() {
        AskedIn x = at(LANDLORD, 0, 0, 9);
        due("495 by 9 is 55", x.keep(0, 0), NOT_ANY);
        x = at(LANDLORD, 0, 0, 1);
        Checks.town(x, "count 0 f=0");
        due("it counts at once", x.keep(0, 0), NOT_ANY);
        Checks.town(x, "dawn 0");
        due("no night", x.keep(0, 0), 0);
    }

    private static void promise18KeepInPlaceOfItsOwn() {
        AskedIn x = at(LANDLORD, 0, 0, 1);
        for (int grain : new int[] {0, 11, 12, 13, 99}) {
            x.strew(0, grain);
            due("with " + grain + " of its own", x.keep(0, 0), 12);
            due("its own stays", x.of(0, 2), grain);
        }
    }

    private static void promise18KeepWhereItNeverComesIn() {
        due("a house that never asks", at(HOUSE, 0, 9, 1).keep(0, 0), 0);
        due("a landlord who is not paid", at(LANDLORD, 9, 8, 1).keep(0, 0), 0);
        due("a lonely one, too early", at(LONELY, 1, 0, 1).keep(0, 0), 0);
    }

    private static void promise19MoreOfNoHouseAndOfNobody() {
        AskedIn x = new AskedIn();
        due("no house: which", x.more(0, 0), NOT_ANY);
        due("no house: pairs", x.more(99, 1), NOT_ANY);
        x.house(LONELY, 0, 0);
        due("nobody: which", x.more(0, 0), 0);
        due("nobody: pairs", x.more(99, 1), 0);
    }

    private static void promise19MorePairsAreFolkAndHouses() {
        AskedIn x = Checks.houses(LONELY, LONELY, LONELY, LONELY, LONELY, LONELY);
        for (int one = 1; one <= 4; one++) {
            x.folk(0, 0, 1);
            due("pairs of " + one, x.more(0, 1), 6 * one);
            due("of several the first", x.more(0, 0), 0);
        }
        due("99 more keeps out four", x.more(99, 1), 20);
        due("the first of six", x.more(99, 0), 0);
    }

    private static void promise19MoreAtTheLastHouse() {
        AskedIn x = Checks.houses(HOUSE, HOUSE, HOUSE, HOUSE, HOUSE, LONELY);
        x.folk(5, 0, 1);
        due("12 keeps out", x.more(12, 0), 5);
        due("nobody is left", x.more(12, 1), 0);
        due("11 does not: the first", x.more(11, 0), 0);
        due("the one is left", x.more(11, 1), 1);
    }

    private static void promise19MoreNinetyNineAtMost() {
        AskedIn x = at(LANDLORD, 0, 0, 1);
        x.strew(0, 50);
        Checks.town(x, "count 1 g>9;dawn 99");
        due("149 would be counted", x.more(99, 1), 1);
        Checks.town(x, "count 1 g=9;dawn 99");
        due("99 are counted till dawn", x.more(99, 1), 0);
        due("49 more are", x.more(49, 1), 0);
        due("48 more are not", x.more(48, 1), 1);
        x.strew(0, 99);
        due("none more is", x.more(0, 1), 0);
    }

    private static void promise19MoreTheOthersHaveTheirOwn() {
        // each at the brink: by one grain more or less not in
        AskedIn x = new AskedIn();
        x.house(LANDLORD, 0, 11);
        x.house(LONELY, 1, 1);
        x.folk(0, 0, 1);
        Checks.town(x, "walk 0 f=0");
        due("both", x.more(0, 1), 2);
        due("one grain more at the first", x.more(1, 0), 0);
        due("the second is in still", x.more(1, 1), 1);
    }

    private static void promise19MoreMayLetInMore() {
        AskedIn x = at(LONELY, 2, 0, 1);
        due("no more", x.more(0, 1), 0);
        due("5 minutes", x.more(1, 1), 0);
        due("10 minutes", x.more(2, 1), 1);
        due("it is the only one", x.more(2, 0), 0);
        x.house(HOUSE, 0, 0);
        due("better there", x.more(2, 0), 1);
        due("none", x.more(2, 1), 0);
    }

    private static void promise20ShareFromWhenTheLaterOneIsThere() {
        AskedIn x = Checks.houses(0, 0, 0, 0, 0, 0);
        x.folk(0, 0, 1);
        x.folk(3, 0, 1);
        due("both walk, no grain: 15 and 6", x.share(0, 1, 5, 0), 15);
        due("the other way round", x.share(1, 0, 5, 0), 15);
        due("at the other end: 0 and 9", x.share(0, 1, 0, 0), 9);
        x.sack(1, 0);
        due("both sleep there", x.share(0, 1, 0, 0), 0);
        x.strew(0, 1);
        due("5 by 2, rounded up", x.share(0, 1, 0, 0), 3);
    }

    private static void promise20ShareQuicknessOfBoth() {
        int[][] rows = {{1, 1, 248}, {9, 9, 28}, {1, 9, 50}, {4, 5, 55}, {9, 2, 45}};
        for (int[] row : rows) {
            AskedIn x = at(HOUSE, 0, 0, row[0]);
            x.folk(0, 0, row[1]);
            x.strew(0, 99);
            due("495 by " + row[0] + " and " + row[1], x.share(0, 1, 0, 0), row[2]);
            due("told the other way", x.share(1, 0, 0, 0), row[2]);
        }
    }

    private static void promise20ShareSlowOfTheOneToldFirst() {
        AskedIn x = at(HOUSE, 0, 0, 1);
        x.folk(0, 0, 1);
        x.strew(0, 10);
        Checks.town(x, "count 2 f=0;count 6 f=1");
        due("20 by 2", x.share(0, 1, 0, 0), 10);
        due("60 by 2", x.share(1, 0, 0, 0), 30);
    }

    private static void promise20ShareByTheHousesNumberAndGrain() {
        AskedIn x = new AskedIn();
        x.house(HOUSE, 0, 0);
        x.house(HOUSE, 0, 29);
        x.house(HOUSE, 0, 0);
        x.folk(0, 0, 1);
        x.folk(2, 0, 1);
        Checks.town(x, "count 1 h=1;count 2 g=2;walk 3 h=1;walk 6 g=2");
        due("9 to walk, 87 by 2", x.share(0, 1, 1, 0), 53);
    }

    private static void promise20ShareBelowDawn() {
        AskedIn x = at(LANDLORD, 0, 0, 1);
        x.folk(0, 0, 1);
        x.strew(0, 10);
        Checks.town(x, "dawn 26");
        due("25 minutes", x.share(0, 1, 0, 0), 25);
        due("below dawn", x.share(0, 1, 0, 1), 3);
        Checks.town(x, "dawn 25");
        due("at dawn", x.share(0, 1, 0, 1), 0);
        x.ask(0, 0, true);
        due("asked, but at dawn", x.share(0, 1, 0, 1), 0);
    }

    private static void promise20ShareWhoIsLetIn() {
        AskedIn x = at(LANDLORD, 3, 3, 1);
        x.folk(0, 2, 1);
        x.folk(0, 9, 1);
        due("the one told first", x.share(0, 1, 0, 1), 1);
        due("the other one", x.share(1, 0, 0, 1), 2);
        due("both: each has coins of its own", x.share(0, 2, 0, 1), 3);
        x.sell(0, LANDLORD, 9);
        due("neither", x.share(0, 1, 0, 1), 0);
        x.sell(0, PROUD, 1);
        due("in nowhere", x.share(0, 2, 0, 1), 0);
        x.sell(0, PROUD, 3);
        due("that is enough", x.share(0, 2, 0, 1), 3);
        x.sell(0, VAIN, 0);
        x.sack(1, 0);
        due("vain", x.share(0, 1, 0, 1), 3);
    }

    private static void promise20ShareOneOfTheFolkTwice() {
        AskedIn x = at(HOUSE, 0, 0, 1);
        x.folk(0, 0, 1);
        due("0 and 0", x.share(0, 0, 0, 0), BAD);
        due("1 and 1", x.share(1, 1, 0, 1), BAD);
        due("2 and 2 are not there", x.share(2, 2, 0, 0), NONE);
    }

    // ---- 21 .. 28: who, when, odds, books

    private static void promise21WatchEight() {
        AskedIn x = at(HOUSE, 0, 0, 1);
        for (int i = 1; i <= 8; i++) {
            due("row " + i, x.watch(0, false), i);
        }
        due("a ninth", x.watch(0, true), FULL);
        due("the one was never in", x.suspects(), 1);
        due("none then", x.watch(-1, true), 0);
        due("none again", x.watch(-1, false), 0);
        due("one", x.watch(0, true), 1);
        due("nobody was in", x.suspects(), 0);
    }

    private static void promise22SuspectsOfNothingWatched() {
        AskedIn x = Checks.houses(HOUSE);
        for (int one = 0; one < 4; one++) {
            due("all there are", x.suspects(), (1 << one) - 1);
            x.folk(0, 0, 1);
        }
        due("all four", x.suspects(), 15);
    }

    private static void promise22SuspectsByAllEightRows() {
        AskedIn x = at(HOUSE, 0, 0, 1);
        x.house(LONELY, 0, 0);
        for (int i = 0; i < 7; i++) {
            x.watch(1, true);
        }
        due("seven are so", x.suspects(), 1);
        x.watch(0, true);
        due("the eighth is not", x.suspects(), 0);
    }

    private static void promise22SuspectsOfBothInAndOut() {
        AskedIn x = at(HOUSE, 0, 0, 1);
        x.watch(0, true);
        x.watch(0, false);
        due("nobody", x.suspects(), 0);
    }

    private static void promise22SuspectsByTheHousesOwnGrain() {
        AskedIn x = new AskedIn();
        x.house(LANDLORD, 0, 99);
        x.house(LANDLORD, 0, 0);
        x.house(LANDLORD, 0, 99);
        x.folk(1, 0, 1);
        x.watch(1, true);
        due("in at 1", x.suspects(), 1);
        x.watch(0, false);
        x.watch(2, false);
        due("not at the others", x.suspects(), 1);
    }

    private static void promise23NextOfNobody() {
        AskedIn x = new AskedIn();
        due("no houses", x.next(), NOT_ANY);
        x.house(LONELY, 0, 0);
        due("no folk", x.next(), NOT_ANY);
        x.folk(0, 0, 1);
        due("one", x.next(), 0);
        x.watch(0, false);
        due("it was not that one", x.next(), NOT_ANY);
    }

    private static void promise23NextFourAlike() {
        AskedIn x = Checks.houses(LONELY, HOUSE, LONELY, HOUSE, HOUSE, HOUSE);
        for (int one = 0; one < 4; one++) {
            x.folk(0, 0, 1);
        }
        due("all or none everywhere: the first", x.next(), 0);
        x.ask(5, 2, true);
        due("one of four at the last", x.next(), 5);
        x.ask(4, 0, true);
        x.ask(4, 1, true);
        due("two of four", x.next(), 4);
        x.ask(3, 2, true);
        x.ask(3, 3, true);
        due("of several the first", x.next(), 3);
        x.ask(1, 0, true);
        x.ask(1, 1, true);
        x.ask(1, 2, true);
        due("three of four are no better", x.next(), 3);
    }

    private static void promise23NextByTheHousesOwnGrain() {
        AskedIn x = new AskedIn();
        x.house(HOUSE, 0, 0);
        x.house(LANDLORD, 0, 12);
        x.folk(1, 0, 1);
        x.folk(1, 0, 9);
        due("60 minutes of one, 7 of the other", x.next(), 1);
        x.strew(1, 11);
        due("both come in", x.next(), 0);
    }

    private static void promise23NextOfTheseOnly() {
        AskedIn x = Checks.houses(HOUSE, HOUSE, HOUSE);
        for (int one = 0; one < 4; one++) {
            x.folk(0, 0, 1);
        }
        x.ask(0, 0, true);
        x.ask(0, 1, true);
        x.ask(1, 1, true);
        x.ask(1, 2, true);
        x.ask(1, 3, true);
        x.watch(0, true);
        due("0 or 1 it was: 1 tells", x.next(), 1);
        x.watch(1, true);
        due("1 it was: the first", x.next(), 0);
    }

    private static void promise24WhenAtOnceAndNever() {
        due("at once", at(LONELY, 0, 0, 1).when(0, 0), 0);
        due("never", at(HOUSE, 0, 0, 1).when(0, 0), NOT_ANY);
        AskedIn x = at(LANDLORD, 0, 0, 1);
        Checks.town(x, "dawn 0");
        due("no night", x.when(0, 0), NOT_ANY);
        Checks.town(x, "dawn 1");
        due("the only minute", x.when(0, 0), 0);
    }

    private static void promise24WhenLeast() {
        for (int v = 0; v <= 9; v++) {
            AskedIn x = at(LONELY, v, 0, 1);
            due("lonely " + v, x.when(0, 0), 5 * v);
            Checks.town(x, "dawn " + 5 * v);
            due("lonely " + v + ", at dawn", x.when(0, 0), NOT_ANY);
            Checks.town(x, "dawn " + (5 * v + 1));
            due("lonely " + v + ", just below dawn", x.when(0, 0), 5 * v);
        }
        for (int part = 0; part < 4; part++) {
            AskedIn x = at(TOLD, 0, 0, 1);
            for (int other = 0; other < 4; other++) {
                x.row(0, other, other == part ? 1 : 0);
            }
            due("told at " + part, x.when(0, 0), part);
            x.row(0, part, 0);
            due("told at none", x.when(0, 0), NOT_ANY);
        }
    }

    private static void promise24WhenOfAnotherOneAndHouse() {
        AskedIn x = new AskedIn();
        x.house(HOUSE, 0, 50);
        x.house(LONELY, 9, 9);
        x.folk(0, 0, 1);
        x.folk(1, 0, 9);
        due("45 by 9", x.when(1, 1), 40);
        due("45 and 3", x.when(0, 1), 0);
        x.strew(1, 8);
        due("40 and 3", x.when(0, 1), 2);
    }

    private static void promise25OddsOfAnotherOneAndHouse() {
        AskedIn x = new AskedIn();
        x.house(HOUSE, 0, 50);
        x.house(LANDLORD, 1, 9);
        x.folk(0, 0, 1);
        x.folk(1, 1, 9);
        due("55 of 60: above", x.odds(1, 1, 0), 11);
        due("55 of 60: below", x.odds(1, 1, 1), 12);
        due("no coins: above", x.odds(0, 1, 0), 0);
        due("no coins: below", x.odds(0, 1, 1), 1);
    }

    private static void promise25OddsOfSixtyMinutes() {
        int[][] rows = {{0, 0, 1}, {1, 1, 60}, {2, 1, 30}, {45, 3, 4}, {59, 59, 60}, {60, 1, 1}, {61, 1, 1}, {99, 1, 1}};
        for (int[] row : rows) {
            AskedIn x = at(LANDLORD, 0, 0, 1);
            Checks.town(x, "dawn " + row[0]);
            due("dawn " + row[0] + ": above", x.odds(0, 0, 0), row[1]);
            due("dawn " + row[0] + ": below", x.odds(0, 0, 1), row[2]);
        }
    }

    private static void promise25OddsUpToMinuteFiftyNine() {
        AskedIn x = at(LONELY, 9, 0, 1);
        x.strew(0, 3);
        Checks.town(x, "count 1 f=0;dawn 99");
        due("begins at 42 .. 59: above", x.odds(0, 0, 0), 3);
        due("begins at 42 .. 59: below", x.odds(0, 0, 1), 10);
        Checks.town(x, "count 0 f=0;dawn 46");
        due("begins at 45: above", x.odds(0, 0, 0), 1);
        due("begins at 45: below", x.odds(0, 0, 1), 60);
    }

    private static void promise26MeanOfNobody() {
        AskedIn x = Checks.houses(HOUSE);
        due("above", x.mean(0, 0), NO);
        due("below", x.mean(0, 1), NO);
        x.folk(0, 0, 1);
        due("of one: above", x.mean(0, 0), 0);
        due("of one: below", x.mean(0, 1), 1);
    }

    private static void promise26MeanInLowestTerms() {
        // minutes of the fourth, and what comes of all four: the others take 0
        int[][] rows = {{0, 0, 1}, {1, 1, 4}, {2, 1, 2}, {3, 3, 4}, {4, 1, 1}, {6, 3, 2}, {99, 99, 4}};
        for (int[] row : rows) {
            AskedIn x = Checks.houses(HOUSE, HOUSE);
            x.folk(0, 0, 1);
            x.folk(0, 0, 1);
            x.folk(0, 0, 1);
            x.folk(1, 0, 1);
            Checks.town(x, "walk " + row[0] + " f=3");
            due(row[0] + " by 4: above", x.mean(0, 0), row[1]);
            due(row[0] + " by 4: below", x.mean(0, 1), row[2]);
        }
    }

    private static void promise26MeanBehindDawn() {
        AskedIn x = at(HOUSE, 0, 0, 1);
        x.strew(0, 99);
        due("495 minutes", x.mean(0, 0), 495);
        Checks.town(x, "count 99 f=0;count 99 f=0;count 99 f=0;count 99 f=0;count 99 f=0;count 99 f=0;count 99 f=0");
        due("seven times 99 times 99", x.mean(0, 0), 7 * 99 * 99);
    }

    private static void promise27BookOfTwelve() {
        AskedIn x = at(LONELY, 0, 0, 1);
        x.house(HOUSE, 0, 0);
        for (int i = 1; i <= 12; i++) {
            due("row " + i, x.book(0, i == 12 ? 1 : 0), i);
        }
        due("a thirteenth", x.book(0, 0), FULL);
        due("the twelfth is looked at", x.looked(), 0);
        due("empty then, whatever the other is", x.book(-1, MIN), 0);
        due("nobody", x.looked(), NOT_ANY);
        due("empty again", x.book(-1, MAX), 0);
        due("one", x.book(0, 0), 1);
    }

    private static void promise28LookedAtAnEmptyBook() {
        AskedIn x = new AskedIn();
        due("no houses", x.looked(), NOT_ANY);
        x.house(HOUSE, 0, 0);
        x.folk(0, 0, 1);
        due("no rows", x.looked(), NOT_ANY);
        x.book(0, 0);
        due("a row", x.looked(), 0);
        x.book(-1, 0);
        due("no rows again", x.looked(), NOT_ANY);
    }

    private static void promise28LookedAtTheFirstWhoDoesNot() {
        AskedIn x = Checks.houses(LONELY, HOUSE);
        for (int one = 0; one < 4; one++) {
            x.folk(0, 0, 1);
        }
        x.book(1, 0);
        x.book(2, 0);
        due("all come in", x.looked(), NOT_ANY);
        x.book(3, 1);
        x.book(0, 1);
        due("3 is the first who does not", x.looked(), 3);
        x.ask(1, 3, true);
        due("0 then", x.looked(), 0);
        x.ask(1, 0, true);
        due("none then", x.looked(), NOT_ANY);
    }

    private static void promise28LookedByTheHousesOwnGrain() {
        AskedIn x = new AskedIn();
        x.house(LANDLORD, 0, 99);
        x.house(LANDLORD, 0, 0);
        x.house(LANDLORD, 0, 99);
        x.folk(0, 0, 1);
        x.folk(1, 0, 1);
        x.book(1, 1);
        due("in at 1", x.looked(), NOT_ANY);
        x.book(1, 2);
        due("not at 2", x.looked(), 1);
    }

    private static void promise28LookedAtOneVisitEach() {
        AskedIn x = at(LANDLORD, 2, 3, 1);
        x.book(0, 0);
        x.book(0, 0);
        due("the coins are there for each row", x.looked(), NOT_ANY);
    }

    // ---- 29 .. 31: judging, the image

    private static void promise29JudgeOfNoHouses() {
        AskedIn x = new AskedIn();
        due("nothing", x.judge(0, 0), NOT_ANY);
        due("below 0", x.judge(0, -1), NOT_ANY);
        x.tape(0, 0, 3);
        due("bytes", x.judge(0, 0), NOT_ANY);
        due("behind its end", x.judge(0, 9), NOT_ANY);
        x.tape(0, 0, 0);
        due("an empty row", x.judge(0, 0), NOT_ANY);
        for (int sort = 1; sort <= 4; sort++) {
            x.tape(0, sort, 0);
            due("sort " + sort, x.judge(0, 0), CAST);
        }
    }

    private static void promise29JudgeEndsAhead() {
        AskedIn x = new AskedIn();
        for (int house = 0; house < 6; house++) {
            x.house(HOUSE, 0, house + 1);
        }
        for (int size = 0; size <= 8; size++) {
            x.tape(1, 0, size);
            for (int i = 0; i < size; i++) {
                x.item(1, i, i + 1);
            }
            due("a row of " + size, x.judge(1, 0), size < 6 ? 100 + size : NOT_ANY);
        }
        due("from its last place on", x.judge(1, 7), 0);
        due("from its end on", x.judge(1, 8), 100);
        due("from behind its end on", x.judge(1, 9), 100);
        due("from below 0 on", x.judge(1, -1), 100);
        due("least", x.judge(1, MIN), 100);
        due("most", x.judge(1, MAX), 100);
    }

    private static void promise29JudgeTheFirstOtherwise() {
        for (int other = 0; other < 6; other++) {
            AskedIn x = new AskedIn();
            x.tape(5, 0, 60);
            for (int house = 0; house < 6; house++) {
                x.house(HOUSE, 0, 99 - house);
                x.item(5, 54 + house, house < other ? 99 - house : 98 - house);
            }
            due("house " + other, x.judge(5, 54), other);
        }
    }

    private static void promise29JudgeBytesAreSigned() {
        AskedIn x = new AskedIn();
        x.house(HOUSE, 0, 56);
        x.tape(0, 0, 1);
        x.item(0, 0, 256 + 56);
        due("its lowest bits", x.judge(0, 0), NOT_ANY);
        x.item(0, 0, -200);
        due("these are alike", x.judge(0, 0), NOT_ANY);
        x.item(0, 0, -56);
        due("these are not", x.judge(0, 0), 0);
    }

    private static void promise29JudgeOfNothing() {
        AskedIn x = Checks.houses(HOUSE);
        for (int tape = 0; tape < 6; tape++) {
            due("holds nothing", x.judge(tape, 0), 100);
            x.tape(tape, 0, 1);
            due("a byte", x.judge(tape, 0), NOT_ANY);
            x.tape(tape, -1, 0);
            due("nothing again", x.judge(tape, 0), 100);
        }
    }

    private static void promise30ImageOfNoneToSix() {
        AskedIn x = new AskedIn();
        for (int houses = 0; houses <= 6; houses++) {
            due("houses", x.image(), houses);
            x.house(HOUSE, 0, 0);
        }
        due("the newest", x.undo(), 6);
    }

    private static void promise31UndoWithoutAnImage() {
        AskedIn x = Checks.houses(HOUSE);
        due("there is none", x.undo(), STATE);
        due("the house stands", x.count(0), 1);
        x.image();
        due("there is one", x.undo(), 1);
        due("there is one still", x.undo(), 1);
    }

    private static void promise31UndoToNothing() {
        AskedIn x = new AskedIn();
        x.image();
        x.house(TOLD, 0, 0);
        x.folk(0, 0, 1);
        x.way(0);
        x.watch(0, true);
        x.book(0, 0);
        Checks.town(x, "dawn 7");
        due("undone", x.undo(), 0);
        due("houses", x.count(0), 0);
        due("folk", x.count(1), 0);
        due("the way", x.count(3), 0);
        due("watched", x.count(4), 0);
        due("the book", x.count(5), 0);
        due("no town holds", x.dawn(), 60);
        due("house 0 is none", x.of(0, 0), NONE);
        due("one 0 is none", x.who(0, 0), NONE);
    }

    private static void promise31UndoToNoTown() {
        AskedIn x = at(LANDLORD, 0, 0, 1);
        x.strew(0, 1);
        x.image();
        Checks.town(x, "count 9 f=0;walk 9 f=0;dawn 7");
        due("slow", x.of(0, 10), 9);
        x.undo();
        due("slow without a town", x.of(0, 10), 5);
        due("far without a town", x.of(0, 20), 3);
        due("dawn without a town", x.dawn(), 60);
        due("a visit without a town", x.visit(0, 0, 0), 5);
    }

    private static AskedIn imaged() {
        AskedIn x = new AskedIn();
        x.house(TOLD, 3, 40);
        x.house(LONELY, 0, 7);
        x.house(HOUSE, 1, 0);
        x.folk(0, 4, 5);
        x.folk(2, 6, 7);
        x.ask(0, 1, true);
        x.row(0, 1, 0);
        x.row(0, 3, 0);
        x.way(1);
        x.way(2);
        x.watch(1, true);
        x.watch(2, false);
        x.book(0, 1);
        x.book(1, 2);
        Checks.town(x, "dawn 50");
        due("three", x.image(), 3);
        return x;
    }

    private static void promise31UndoHousesWithAllThatIsTheirs() {
        AskedIn x = imaged();
        x.sell(0, SAD, 8);
        x.sell(0, TOLD, 8);
        x.strew(0, 99);
        x.ask(0, 0, true);
        x.ask(0, 1, false);
        x.house(VAIN, 9, 9);
        due("undone", x.undo(), 3);
        due("three", x.count(0), 3);
        due("kind", x.of(0, 0), TOLD);
        due("v", x.of(0, 1), 3);
        due("grain", x.of(0, 2), 40);
        due("asked", x.of(0, 3), 2);
        int[] row = {1, 0, 1, 0};
        for (int part = 0; part < 4; part++) {
            due("row " + part, x.row(0, part, 0), row[part]);
        }
    }

    private static void promise31UndoFolkWithAllThatIsTheirs() {
        AskedIn x = imaged();
        x.sack(0, 1);
        x.sack(1, 0);
        x.folk(2, 9, 9);
        due("undone", x.undo(), 3);
        due("two", x.count(1), 2);
        int[][] folk = {{0, 4, 5}, {2, 6, 7}};
        for (int one = 0; one < 2; one++) {
            for (int what = 0; what < 3; what++) {
                due("of " + one + " what " + what, x.who(one, what), folk[one][what]);
            }
        }
        due("another third one", x.folk(1, 8, 3), 2);
        due("its own coins", x.who(2, 1), 8);
    }

    private static void promise31UndoTheWay() {
        AskedIn x = imaged();
        int minute = x.goes(0, 0);
        x.way(-1);
        x.way(0);
        x.way(0);
        x.way(0);
        x.undo();
        due("two", x.count(3), 2);
        due("by the same houses", x.goes(0, 0), minute);
        due("in at the first", x.goes(0, 2), 2);
        due("not at the second", x.goes(0, 3), 1);
    }

    private static void promise31UndoWatched() {
        AskedIn x = imaged();
        due("who", x.suspects(), 3);
        x.watch(-1, true);
        x.watch(2, true);
        x.watch(1, false);
        x.watch(0, true);
        due("nobody", x.suspects(), 0);
        x.undo();
        due("two", x.count(4), 2);
        due("who again", x.suspects(), 3);
    }

    private static void promise31UndoTheBook() {
        AskedIn x = imaged();
        due("the second row", x.looked(), 1);
        x.book(-1, 0);
        x.book(1, 1);
        x.book(0, 2);
        x.book(0, 2);
        due("another one", x.looked(), 0);
        x.undo();
        due("two", x.count(5), 2);
        due("the second row again", x.looked(), 1);
        x.ask(2, 1, true);
        due("by its house", x.looked(), NOT_ANY);
    }

    private static void promise31UndoWhichTownHolds() {
        AskedIn x = imaged();
        due("another town", Checks.town(x, "dawn 20;count 9 f=0"), 1);
        due("it holds", x.dawn(), 20);
        x.undo();
        due("the one before holds", x.dawn(), 50);
        due("slow by it", x.of(0, 10), 5);
        due("there are two", x.count(2), 2);
        due("the next one's number", Checks.town(x, "dawn 30"), 2);
        due("the newest holds", x.dawn(), 30);
        for (int town = 3; town < 6; town++) {
            due("town", Checks.town(x, "dawn 9"), town);
        }
        x.undo();
        due("town 0 again", x.dawn(), 50);
        due("full all the same", x.town(), FULL);
        due("a town later than the image", x.count(2), 6);
    }

    private static void promise31UndoNothingElse() {
        AskedIn x = imaged();
        x.tape(2, 2, 2);
        x.item(2, 1, 77);
        x.act(1, 1, 5);
        Checks.feed(x, "abc");
        x.undo();
        due("the text", x.count(6), 3);
        due("the tape", x.read(2, 1), 77);
        due("the trace", x.count(7), 3);
        due("its first", x.trace(0), 20);
    }

    private static void promise31UndoTheNewestImage() {
        AskedIn x = imaged();
        x.strew(0, 1);
        x.image();
        x.strew(0, 2);
        x.undo();
        due("grain", x.of(0, 2), 1);
        x.strew(0, 3);
        x.way(-1);
        x.undo();
        due("grain again", x.of(0, 2), 1);
        due("the way again", x.count(3), 2);
    }

    // ---- 32 .. 35: acts, kinds, counts

    /** An answer of an act of house number 2 of a kind, v 9, told by Java's own arithmetic. */
    private static int act(int kind, int act, int x) {
        AskedIn a = Checks.houses(HOUSE, HOUSE, kind);
        a.sell(2, kind, 9);
        return a.act(2, act, x);
    }

    private static void promise32ActWraps() {
        for (int x : new int[] {MIN, MIN + 1, -1, 0, 1, MAX - 1, MAX, MAX / 3, MAX / 3 + 1, 1 << 30, -(1 << 30)}) {
            due("house asks", act(HOUSE, 0, x), x + 2);
            due("house opens", act(HOUSE, 1, x), x + 2 - 9);
            due("house tells", act(HOUSE, 2, x), (x + 2 - 9) * 2);
            due("lonely opens", act(LONELY, 1, x), (x + 2 - 9) ^ 6);
            due("proud asks", act(PROUD, 0, x), x * 3 + 2);
            due("landlord tells", act(LANDLORD, 2, x), (x + 2 - 9) * 2 + (1 + 2 - 9));
            due("sad asks", act(SAD, 0, x), -(x + 2));
            due("sad opens", act(SAD, 1, x), (-(x + 1 + 2) - 9) ^ 6);
            due("vain tells", act(VAIN, 2, x), ((x - 2) * 3 + 2 - 9) * 2);
            due("told asks", act(TOLD, 0, x), (x + 2) ^ 9);
            due("told opens", act(TOLD, 1, x), ((x + 2) ^ 9) - 9 + 4);
        }
    }

    private static void promise32ActNoSuchHouseOrAct() {
        AskedIn x = Checks.houses(LONELY);
        int[][] rows = {{1, 0}, {-1, 0}, {MAX, 0}, {MIN, 0}, {0, 3}, {0, -1}, {0, MAX}, {0, MIN}, {1, 3}};
        for (int[] row : rows) {
            due("an act", x.act(0, 1, 0), -0 ^ 6);
            due("three ran", x.count(7), 3);
            due("no act", x.act(row[0], row[1], 7), 0);
            due("none ran", x.count(7), 0);
            due("no trace", x.trace(0), NONE);
        }
    }

    private static void promise32ActOfALateHouse() {
        AskedIn x = Checks.houses(0, 0, 0, 0, 0, 0);
        due("house 5", x.act(5, 0, 1), 6);
        due("house 6", x.act(6, 0, 1), 0);
    }

    private static void promise33TraceOfNoAct() {
        AskedIn x = new AskedIn();
        due("first", x.trace(0), NONE);
        due("-1", x.trace(-1), NONE);
        due("19", x.trace(19), NONE);
        due("20", x.trace(20), NONE);
    }

    private static void promise33TraceOfTheLatestActOnly() {
        AskedIn x = at(TOLD, 0, 0, 1);
        int[] tells = {40, 12, 70, 11, 71, 10, 10, 70, 11, 71, 10, 10};
        x.act(0, 2, 0);
        due("the longest there is", x.count(7), tells.length);
        for (int i = 0; i < tells.length; i++) {
            due("body " + i, x.trace(i), tells[i]);
        }
        due("behind the last", x.trace(tells.length), NONE);
        x.sell(0, HOUSE, 0);
        x.act(0, 0, 0);
        due("one ran", x.count(7), 1);
        due("the first", x.trace(0), 10);
        due("no second", x.trace(1), NONE);
    }

    private static void promise34TakenForKindsZeroToSix() {
        AskedIn x = at(HOUSE, 0, 0, 1);
        due("kind 0", x.taken(0, 0), 0);
        due("kind 6", x.taken(0, 6), CAST);
        due("kind 7", x.taken(0, 7), BAD);
        due("kind -1", x.taken(0, -1), BAD);
        due("no house", x.taken(1, 6), NOTHING);
        due("no house -1", x.taken(-1, 0), NOTHING);
        due("no kind and no house", x.taken(1, 7), BAD);
        x.sell(0, SAD, 0);
        due("by what it is now", x.taken(0, 1), SAD);
    }

    private static void promise34TakenOfEach() {
        AskedIn x = Checks.houses(6, 5, 4, 3, 2, 1);
        for (int house = 0; house < 6; house++) {
            due("for a house", x.taken(house, 0), 6 - house);
            due("for its own kind", x.taken(house, 6 - house), 6 - house);
            due("for the kind of the next", x.taken(house, 5 - house), house == 5 ? 1 : CAST);
        }
    }

    private static void promise35CountOfAllThatIsFull() {
        AskedIn x = Checks.houses(LONELY, 0, 0, 0, 0, 0);
        for (int one = 0; one < 4; one++) {
            x.folk(0, 0, 1);
        }
        for (int town = 0; town < 6; town++) {
            Checks.town(x, "dawn 1");
        }
        for (int i = 0; i < 13; i++) {
            x.way(0);
            x.watch(0, true);
            x.book(0, 0);
        }
        for (int i = 0; i < 101; i++) {
            x.feed(1);
        }
        x.act(0, 2, 0);
        int[] counts = {6, 4, 6, 8, 8, 12, 100, 4};
        for (int what = 0; what < counts.length; what++) {
            due("what " + what, x.count(what), counts[what]);
        }
        due("what 8", x.count(8), BAD);
        due("what -1", x.count(-1), BAD);
    }

    // ---- 36 .. 39: tapes

    private static void promise36TapeOfNoneToSixty() {
        for (int sort = 0; sort <= 4; sort++) {
            for (int n : new int[] {0, 1, 59, 60}) {
                AskedIn x = new AskedIn();
                due("n " + n, x.tape(5, sort, n), 1);
                for (int i = 0; i < n; i++) {
                    due("all 0", x.read(5, i), 0);
                }
                due("no place " + n, x.read(5, n), NO);
                due("no place -1", x.read(5, -1), NO);
                due("61", x.tape(5, sort, 61), BAD);
                due("-1", x.tape(5, sort, -1), SIZE);
                due("it is as it was", x.item(5, n - 1, 1), n > 0 ? 1 : PLACE);
            }
        }
    }

    private static void promise36TapeAnew() {
        AskedIn x = new AskedIn();
        x.tape(0, 3, 60);
        for (int i = 0; i < 60; i++) {
            x.item(0, i, -1);
        }
        x.tape(0, 0, 2);
        due("no third place", x.read(0, 2), NO);
        due("0 again", x.read(0, 1), 0);
        x.tape(0, 3, 60);
        for (int i = 0; i < 60; i++) {
            due("all 0 again", x.read(0, i), 0);
        }
    }

    private static void promise36TapeOfNothingWhateverN() {
        AskedIn x = new AskedIn();
        for (int n : new int[] {MIN, -1, 0, 60, 61, MAX}) {
            x.tape(0, 3, 4);
            due("n " + n, x.tape(0, -1, n), 1);
            due("nothing", x.item(0, 0, 1), NOTHING);
            due("nothing to read", x.read(0, 0), NO);
            due("nothing again", x.tape(0, -1, n), 1);
        }
    }

    private static void promise37ItemsLowestBits() {
        long[] values = {0, 1, -1, 127, 128, -128, -129, 255, 256, 32767, 32768, -32768, -32769, 65535, 65536,
            Integer.MAX_VALUE, 1L << 31, Integer.MIN_VALUE, Integer.MIN_VALUE - 1L, (1L << 32) - 1, 1L << 32,
            Long.MAX_VALUE, Long.MIN_VALUE, Long.MIN_VALUE + 1};
        AskedIn x = new AskedIn();
        for (int sort = 0; sort <= 4; sort++) {
            x.tape(sort, sort, 3);
        }
        for (long v : values) {
            long[] due = {(byte) v, (short) v, (int) v, v, v == 0 ? 0 : 1};
            for (int sort = 0; sort <= 4; sort++) {
                x.item(sort, 1, v);
                due("sort " + sort + " of " + v, x.read(sort, 1), due[sort]);
            }
        }
        for (int sort = 0; sort <= 4; sort++) {
            due("its neighbours", x.read(sort, 0) + x.read(sort, 2), 0);
        }
    }

    private static void promise37ItemPlaces() {
        AskedIn x = new AskedIn();
        due("nothing", x.item(0, 0, 1), NOTHING);
        x.tape(0, 0, 60);
        due("first", x.item(0, 0, 1), 1);
        due("last", x.item(0, 59, 1), 1);
        due("behind the last", x.item(0, 60, 1), PLACE);
        due("ahead of the first", x.item(0, -1, 1), PLACE);
        due("most", x.item(0, MAX, 1), PLACE);
        due("least", x.item(0, MIN, 1), PLACE);
        x.tape(0, 0, 0);
        due("an empty row", x.item(0, 0, 1), PLACE);
    }

    private static void promise38ReadPlaces() {
        AskedIn x = new AskedIn();
        due("nothing", x.read(0, 0), NO);
        x.tape(0, 3, 60);
        x.item(0, 0, 5);
        x.item(0, 59, 6);
        due("first", x.read(0, 0), 5);
        due("last", x.read(0, 59), 6);
        due("behind the last", x.read(0, 60), NO);
        due("ahead of the first", x.read(0, -1), NO);
        due("most", x.read(0, MAX), NO);
        due("least", x.read(0, MIN), NO);
        due("no tape 6", x.read(6, 0), NO);
        due("no tape -1", x.read(-1, 0), NO);
    }

    private static void promise39ShiftNoneAndAll() {
        AskedIn x = new AskedIn();
        x.tape(0, 1, 60);
        x.tape(1, 1, 60);
        x.tape(2, 1, 0);
        for (int i = 0; i < 60; i++) {
            x.item(0, i, i + 1);
        }
        due("all", x.shift(0, 0, 1, 0, 60), 60);
        due("first", x.read(1, 0), 1);
        due("last", x.read(1, 59), 60);
        due("one too many", x.shift(0, 0, 1, 0, 61), PLACE);
        due("one too far from", x.shift(0, 1, 1, 0, 60), PLACE);
        due("one too far to", x.shift(0, 0, 1, 1, 60), PLACE);
        due("none at both ends", x.shift(0, 60, 1, 60, 0), 0);
        due("none behind the end from", x.shift(0, 61, 1, 60, 0), PLACE);
        due("none behind the end to", x.shift(0, 60, 1, 61, 0), PLACE);
        due("none of an empty row", x.shift(2, 0, 2, 0, 0), 0);
        due("one of an empty row", x.shift(2, 0, 0, 0, 1), PLACE);
        due("one to an empty row", x.shift(0, 0, 2, 0, 1), PLACE);
        due("n -1", x.shift(0, 1, 1, 1, -1), PLACE);
        due("i -1", x.shift(0, -1, 1, 1, 0), PLACE);
        due("j -1", x.shift(0, 1, 1, -1, 0), PLACE);
        due("the last one", x.shift(0, 59, 1, 0, 1), 1);
        due("it came", x.read(1, 0), 60);
        due("it stays where it was", x.read(0, 59), 60);
    }

    private static void promise39ShiftAsTheyWereBefore() {
        for (int i = 0; i <= 3; i++) {
            for (int j = 0; j <= 3; j++) {
                AskedIn x = new AskedIn();
                x.tape(3, 3, 6);
                for (int at = 0; at < 6; at++) {
                    x.item(3, at, at + 10);
                }
                due("three", x.shift(3, i, 3, j, 3), 3);
                for (int at = 0; at < 6; at++) {
                    boolean came = at >= j && at < j + 3;
                    due("from " + i + " to " + j + " at " + at, x.read(3, at), came ? at - j + i + 10 : at + 10);
                }
            }
        }
    }

    private static void promise39ShiftOfUnlikeSorts() {
        AskedIn x = new AskedIn();
        for (int sort = 0; sort <= 4; sort++) {
            x.tape(sort, sort, 2);
        }
        for (int sort = 0; sort <= 4; sort++) {
            for (int other = 0; other <= 4; other++) {
                due(sort + " to " + other, x.shift(sort, 0, other, 0, 1), sort == other ? 1 : CAST);
                due("cast ahead of place", x.shift(sort, 9, other, 0, 1), sort == other ? PLACE : CAST);
                due("nothing ahead of cast", x.shift(sort, 0, 5, 0, 1), NOTHING);
                due("nothing ahead of cast", x.shift(5, 0, other, 0, 1), NOTHING);
            }
        }
    }
}
