import java.util.Set;

/**
 * The boundary cases that the document's Terms name, a test each, in the document's order (of what
 * is asked, PromiseEdgeTest; of what is refused, RefusalTest).
 */
public final class TermsEdgeTest {
    private static final Checks C = new Checks();
    private static final int NONE = -1, BAD = -2, FULL = -4;
    private static final int HOUSE = 0, LONELY = 1, PROUD = 2, LANDLORD = 3, SAD = 4, VAIN = 5, TOLD = 6;

    public static void main(String[] args) throws IllegalAccessException {
        C.runAll(TermsEdgeTest.class, "term");
        C.end("TermsEdgeTest");
    }

    private static void due(String what, long got, long want) {
        C.due(what, got, want);
    }

    // ---- HOUSES, KINDS, v, GRAIN, FOLK

    private static void termHousesAreSix() {
        AskedIn x = new AskedIn();
        for (int house = 0; house < 6; house++) {
            due("not yet", x.of(house, 0), NONE);
            due("house by numbers, as they come", x.house(HOUSE, 0, 0), house);
            due("it stands", x.of(house, 0), HOUSE);
        }
        due("a seventh", x.house(HOUSE, 0, 0), FULL);
        due("no number 6", x.of(6, 0), NONE);
    }

    private static void termKindsAreSeven() {
        for (int kind = 0; kind <= 6; kind++) {
            AskedIn x = new AskedIn();
            due("kind " + kind, x.house(kind, 0, 0), 0);
            due("is it", x.of(0, 0), kind);
        }
        due("kind 7", new AskedIn().house(7, 0, 0), NONE);
        due("kind -1", new AskedIn().house(-1, 0, 0), NONE);
    }

    private static void termKindsStandUnderOthers() {
        int[] above = {-1, HOUSE, HOUSE, HOUSE, LONELY, PROUD, LANDLORD};
        for (int kind = 0; kind <= 6; kind++) {
            AskedIn x = Checks.houses(kind);
            for (int k = 0; k <= 6; k++) {
                boolean is = k == kind || k == HOUSE || k == above[kind];
                due("kind " + kind + " taken for " + k, x.taken(0, k), is ? kind : -12);
            }
        }
    }

    private static void termVIsZeroToNine() {
        AskedIn x = new AskedIn();
        due("v 0", x.house(LONELY, 0, 0), 0);
        due("v 9", x.house(LONELY, 9, 0), 1);
        due("v 0 told", x.of(0, 1), 0);
        due("v 9 told", x.of(1, 1), 9);
        due("v 10", x.house(LONELY, 10, 0), BAD);
        due("v -1", x.house(LONELY, -1, 0), BAD);
    }

    private static void termGrainIsZeroToNinetyNine() {
        AskedIn x = new AskedIn();
        due("grain 0", x.house(LONELY, 0, 0), 0);
        due("grain 99", x.house(LONELY, 0, 99), 1);
        due("grain 0 told", x.of(0, 2), 0);
        due("grain 99 told", x.of(1, 2), 99);
        due("grain 100", x.house(LONELY, 0, 100), BAD);
        due("grain -1", x.house(LONELY, 0, -1), BAD);
    }

    private static void termFolkAreFour() {
        AskedIn x = Checks.houses(HOUSE);
        for (int one = 0; one < 4; one++) {
            due("not yet", x.who(one, 0), NONE);
            due("folk by numbers, as they come", x.folk(0, 0, 1), one);
            due("is there", x.who(one, 0), 0);
        }
        due("a fifth", x.folk(0, 0, 1), FULL);
        due("no number 4", x.who(4, 0), NONE);
    }

    private static void termCoinsAreZeroToNine() {
        AskedIn x = Checks.houses(HOUSE);
        due("no coins", x.folk(0, 0, 1), 0);
        due("9 coins", x.folk(0, 9, 1), 1);
        due("0 told", x.who(0, 1), 0);
        due("9 told", x.who(1, 1), 9);
        due("10 coins", x.folk(0, 10, 1), BAD);
        due("-1 coins", x.folk(0, -1, 1), BAD);
    }

    private static void termSackIsAHouse() {
        AskedIn x = Checks.houses(HOUSE, HOUSE);
        due("the last house", x.folk(1, 0, 1), 0);
        due("told", x.who(0, 0), 1);
        due("behind the last", x.folk(2, 0, 1), NONE);
        due("ahead of the first", x.folk(-1, 0, 1), NONE);
    }

    private static void termQuicknessIsOneToNine() {
        AskedIn x = Checks.houses(HOUSE);
        due("quickness 1", x.folk(0, 0, 1), 0);
        due("quickness 9", x.folk(0, 0, 9), 1);
        due("1 told", x.who(0, 2), 1);
        due("9 told", x.who(1, 2), 9);
        due("quickness 0", x.folk(0, 0, 0), BAD);
        due("quickness 10", x.folk(0, 0, 10), BAD);
        due("quickness -1", x.folk(0, 0, -1), BAD);
    }

    private static void termNobodyIsAskedAtFirst() {
        AskedIn x = Checks.houses(0, 1, 2, 3, 4, 5);
        for (int one = 0; one < 4; one++) {
            x.folk(0, 0, 1);
        }
        for (int house = 0; house < 6; house++) {
            due("asked by house " + house, x.of(house, 3), 0);
            for (int one = 0; one < 4; one++) {
                due("had not", x.ask(house, one, true), 0);
            }
            due("all asked", x.of(house, 3), 15);
        }
    }

    private static void termNobodyIsAskedAtFirstBehindAnImage() {
        AskedIn x = Checks.houses(HOUSE);
        x.folk(0, 0, 1);
        x.image();
        x.house(HOUSE, 0, 0);
        x.folk(0, 0, 1);
        x.ask(1, 0, true);
        x.ask(1, 1, true);
        x.undo();
        due("another house 1", x.house(HOUSE, 0, 0), 1);
        due("another one 1", x.folk(0, 0, 1), 1);
        due("asked by it", x.of(1, 3), 0);
    }

    // ---- the text of a town

    private static int clauseCount(String text) {
        return text.split(";").length;
    }

    /** What town() answers of a text on a new object. */
    private static int read(String text) {
        AskedIn x = new AskedIn();
        int town = Checks.town(x, text);
        due("the text is empty behind town() of " + text, x.count(6), 0);
        due("towns behind town() of " + text, x.count(2), town == 0 ? 1 : 0);
        return town;
    }

    private static void dueFault(String text, int fault) {
        due("town() of " + text, read(text), -10 - fault);
    }

    private static void dueTown(String text) {
        due("town() of " + text, read(text), 0);
    }

    private static void termTextIsOfAHundredAtMost() {
        AskedIn x = new AskedIn();
        for (int i = 1; i <= 100; i++) {
            due("sign " + i, x.feed('x'), i);
        }
        due("sign 101", x.feed('x'), FULL);
        due("a hundred still", x.count(6), 100);
    }

    private static void termTextOfAHundredIsATown() {
        String text = "count 1 f=0" + "|f=0".repeat(22) + "0";
        due("a hundred signs", text.length(), 100);
        dueTown(text);
        dueTown(text.substring(0, 99));
        dueFault(text.substring(0, 99) + "|", 100);
        dueFault(text.substring(0, 99) + "&", 100);
        dueFault(text.substring(0, 99) + ";", 100);
        dueFault(text.substring(0, 99) + "x", 99);
        dueFault(text.substring(0, 97) + "==", 98);
    }

    private static void termSixLongTextsAreTowns() {
        AskedIn x = Checks.houses(HOUSE);
        x.folk(0, 0, 1);
        for (int town = 0; town < 6; town++) {
            String tests = "!!!!f=1|".repeat(10) + "f=1|f=0";
            due("long town " + town, Checks.town(x, "count " + (town + 1) + " " + tests), town);
            due("it holds", x.of(0, 10), town + 1);
        }
    }

    private static void termNoClauseAtAllIsAFault() {
        dueFault("", 0);
    }

    private static void termClausesAreOneToTen() {
        dueTown("dawn 1");
        String nine = "dawn 1;".repeat(8) + "dawn 1";
        due("nine", clauseCount(nine), 9);
        dueTown(nine);
        String ten = nine + ";walk 1 f=0";
        due("ten", clauseCount(ten), 10);
        dueTown(ten);
    }

    private static void termAnEleventhClauseIsAFault() {
        String ten = "dawn 1;".repeat(9) + "dawn 1";
        dueFault(ten + ";dawn 1", ten.length());
        dueFault(ten + ";", ten.length());
        String nine = ten.substring(0, ten.length() - 7);
        dueFault(nine + ";", nine.length() + 1);
    }

    private static void termAllTenClausesCount() {
        AskedIn x = Checks.houses(HOUSE);
        x.folk(0, 0, 1);
        due("ten", Checks.town(x, "count 99 f=0;count 99 f=0;dawn 9;dawn 9;dawn 9;dawn 9;dawn 9;dawn 9;dawn 8;count 99 f=0"), 0);
        due("the first two and the tenth", x.of(0, 10), 297);
        due("the ninth", x.dawn(), 8);
    }

    private static void termOneSignBetweenClauses() {
        dueFault("dawn 1dawn 1", 6);
        dueFault("dawn 1 dawn 1", 6);
        dueFault("dawn 1;;dawn 1", 7);
        dueFault(";dawn 1", 0);
        dueFault("dawn 1,dawn 1", 6);
        dueFault("dawn 1:dawn 1", 6);
        dueFault("dawn 1; dawn 1", 7);
    }

    private static void termOneBlankAheadOfEachPart() {
        dueFault("count1 f=0", 5);
        dueFault("count  1 f=0", 6);
        dueFault("count 1f=0", 7);
        dueFault("count 1  f=0", 8);
        dueFault("walk1 f=0", 4);
        dueFault("walk  1 f=0", 5);
        dueFault("walk 1f=0", 6);
        dueFault("walk 1  f=0", 7);
        dueFault("dawn1", 4);
        dueFault("dawn  1", 5);
        dueFault("count\t1 f=0", 5);
        dueFault("count_1 f=0", 5);
    }

    private static void termNoBlankElsewhere() {
        dueFault(" dawn 1", 0);
        dueFault("dawn 1 ", 6);
        dueFault("count 1 f =0", 9);
        dueFault("count 1 f= 0", 10);
        dueFault("count 1 f=0 ", 11);
        dueFault("count 1 f=0 |f=0", 11);
        dueFault("count 1 f=0| f=0", 12);
        dueFault("count 1 f=0& f=0", 12);
        dueFault("count 1 ! f=0", 9);
        dueFault("count 1 ( f=0)", 9);
        dueFault("count 1 (f=0 )", 12);
        dueFault("dawn 1 ;dawn 1", 6);
    }

    private static void termNIsOfOneOrTwoDigits() {
        for (String word : new String[] {"count ", "walk "}) {
            int at = word.length();
            dueFault(word + " f=0", at);
            dueFault(word + "f=0", at);
            dueTown(word + "0 f=0");
            dueTown(word + "00 f=0");
            dueTown(word + "99 f=0");
            dueFault(word + "999 f=0", at + 2);
            dueFault(word + "-1 f=0", at);
            dueFault(word + "1a f=0", at + 1);
        }
        dueFault("dawn ", 5);
        dueTown("dawn 0");
        dueTown("dawn 99");
        dueFault("dawn 100", 7);
        dueFault("dawn -1", 5);
        dueFault("dawn ;dawn 1", 5);
        dueFault("dawn /", 5);
        dueFault("dawn :", 5);
        dueFault("dawn 1/", 6);
        dueFault("dawn 1:", 6);
    }

    private static void termATestsNumberIsOfOneOrTwoDigits() {
        dueFault("count 1 f=", 10);
        dueFault("count 1 f=|f=0", 10);
        dueTown("count 1 f=9");
        dueTown("count 1 f=99");
        dueFault("count 1 f=999", 12);
        dueFault("count 1 f=-1", 10);
        dueFault("count 1 f=a", 10);
    }

    private static void termATestsLetter() {
        for (char letter = 0; letter < 128; letter++) {
            boolean may = "fhkvgc".indexOf(letter) >= 0;
            boolean opens = letter == '!' || letter == '(';
            due("letter " + (int) letter, read("walk 1 " + letter + "=0"), may ? 0 : opens ? -18 : -17);
        }
    }

    private static void termATestsSign() {
        for (char sign = 0; sign < 128; sign++) {
            boolean may = "<=>".indexOf(sign) >= 0;
            due("sign " + (int) sign, read("walk 1 c" + sign + "0"), may ? 0 : -18);
        }
        dueFault("walk 1 c<=0", 9);
        dueFault("walk 1 c==0", 9);
        dueFault("walk 1 cc=0", 8);
        dueFault("walk 1 0=c", 7);
    }

    private static void termWordsAreThree() {
        dueFault("cound 1 f=0", 4);
        dueFault("wall 1 f=0", 3);
        dueFault("dusk 1", 1);
        dueFault("Count 1 f=0", 0);
        dueFault("counts 1 f=0", 5);
        dueFault("dawn 1 f=0", 6);
        dueFault("count 1;walk 1 f=0", 7);
        dueFault("walk 1;dawn 1", 6);
        dueFault("awn 1", 0);
        dueFault("c", 1);
        dueFault("w", 1);
        dueFault("d", 1);
    }

    private static void termFoursAreWithinEachOther() {
        String[] four = {"!!!!f=0", "((((f=0))))", "!(!(f=0))", "(!(!f=0))", "!!((f=0))", "(((!f=0)))", "(!!!f=0)",
            "((((f=0))))|((((f=0))))", "!!!!f=0&!!!!f=0", "((((f=0)))&(f=0))", "(((!f=0&!f=0)))", "!((f=0)&(f=0)|!f=0)",
            "(f=0)&(f=0)&(f=0)&(f=0)&(f=0)&(f=0)", "!f=0|!f=0|!f=0|!f=0|!f=0|!f=0"};
        for (String e : four) {
            dueTown("count 1 " + e);
        }
    }

    private static void termAFifthWithinFourIsAFault() {
        dueFault("count 1 !!!!!f=0", 12);
        dueFault("count 1 (((((f=0)))))", 12);
        dueFault("count 1 !(!(!f=0))", 12);
        dueFault("count 1 !(!((f=0)))", 12);
        dueFault("count 1 (!(!(f=0)))", 12);
        dueFault("count 1 (!(!!f=0))", 12);
        dueFault("count 1 ((((!f=0))))", 12);
        dueFault("count 1 !!!!(f=0)", 12);
        dueFault("count 1 !((((f=0))))", 12);
        dueFault("count 1 ((((f=0&!f=0))))", 16);
        dueFault("count 1 ((((f=0|(f=0)))))", 16);
        dueFault("count 1 f=0|!!!!!f=0", 16);
        dueFault("count 1 f=0&(((((f=0)))))", 16);
        dueFault("count 1 ((((f=0)|((f=0))))))", 18);
        dueFault("count 1 !!!!", 12);
        dueFault("count 1 !!!!!", 12);
    }

    private static void termParenthesesMatch() {
        dueFault("walk 1 (f=0", 11);
        dueFault("walk 1 f=0)", 10);
        dueFault("walk 1 ((f=0)", 13);
        dueFault("walk 1 (f=0))", 12);
        dueFault("walk 1 ()", 8);
        dueFault("walk 1 (f=0;dawn 1", 11);
        dueFault("walk 1 (f=0)f=0", 12);
        dueFault("walk 1 f=0(f=0)", 10);
        dueFault("walk 1 f=0!f=0", 10);
        dueFault("walk 1 )", 7);
    }

    private static void termFaultAtTheEndIfItEndsTooEarly() {
        String text = "count 12 !(f<1&h=2)|k>34;walk 3 v=4;dawn 56";
        Set<String> whole = Set.of("count 12 !(f<1&h=2)", "count 12 !(f<1&h=2)|k>3", "count 12 !(f<1&h=2)|k>34",
            "count 12 !(f<1&h=2)|k>34;walk 3 v=4", "count 12 !(f<1&h=2)|k>34;walk 3 v=4;dawn 5", text);
        for (int length = 0; length <= text.length(); length++) {
            String begin = text.substring(0, length);
            due("town() of " + begin, read(begin), whole.contains(begin) ? 0 : -10 - length);
        }
    }

    private static void termFaultAtTheFirstByteWithWhichNoneBeginsSo() {
        String text = "count 12 !(f<1&h=2)|k>34;walk 3 v=4;dawn 56";
        for (int at = 0; at < text.length(); at++) {
            for (char sign : new char[] {'#', 0, 127}) {
                dueFault(text.substring(0, at) + sign + text.substring(at + 1), at);
                dueFault(text.substring(0, at) + sign, at);
            }
        }
        dueFault("##", 0);
    }

    private static void termABetterTextBehindAFault() {
        AskedIn x = Checks.houses(HOUSE);
        x.folk(0, 0, 1);
        due("a fault", Checks.town(x, "count 1 f=0|c="), -24);
        due("a town", Checks.town(x, "count 7 f=0"), 0);
        due("nothing of the faulty one", x.of(0, 10), 7);
    }

    private static void termNothingStaysOfAFaultyText() {
        AskedIn x = Checks.houses(HOUSE);
        x.folk(0, 0, 1);
        due("a fault behind two clauses", Checks.town(x, "count 1 f=0;walk 9 !f=0;x"), -34);
        due("a town that is as long as the fault's count and test", Checks.town(x, "count 7 f=0&f=0"), 0);
        due("its count", x.of(0, 10), 7);
        due("no walk at all", x.of(0, 20), 3);
    }

    private static void termDawnOfAFaultyTextIsNone() {
        AskedIn x = new AskedIn();
        due("a fault behind dawn", Checks.town(x, "dawn 9;x"), -17);
        due("without a town", x.dawn(), 60);
        due("a town without dawn", Checks.town(x, "count 1 f=0"), 0);
        due("60", x.dawn(), 60);
    }

    // ---- what a town's text means

    /** Whether this holds of one (number f, with these coins) at a house (number h, kind, v, grain). */
    private static boolean holds(String e, int f, int coins, int h, int kind, int v, int grain) {
        AskedIn x = new AskedIn();
        for (int i = 0; i < h; i++) {
            x.house((kind + 1) % 7, (v + 1) % 10, (grain + 10) % 100);
        }
        x.house(kind, v, grain);
        for (int i = 0; i < f; i++) {
            x.folk(0, (coins + 1) % 10, 1);
        }
        x.folk(0, coins, 1);
        due("town of " + e, Checks.town(x, "count 1 " + e + ";walk 1 " + e), 0);
        due("far as slow by " + e, x.of(h, 20 + f), x.of(h, 10 + f));
        return x.of(h, 10 + f) == 1;
    }

    private static void dueLetter(char letter, int value, int f, int coins, int h, int kind, int v, int grain) {
        for (int n = Math.max(0, value - 1); n <= value + 1; n++) {
            String two = (n < 10 ? "0" : "") + n;
            C.due(letter + "<" + n + " of " + value, holds(letter + "<" + n, f, coins, h, kind, v, grain) == value < n);
            C.due(letter + "=" + n + " of " + value, holds(letter + "=" + n, f, coins, h, kind, v, grain) == (value == n));
            C.due(letter + ">" + n + " of " + value, holds(letter + ">" + n, f, coins, h, kind, v, grain) == value > n);
            C.due(letter + "=" + two + " of " + value, holds(letter + "=" + two, f, coins, h, kind, v, grain) == (value == n));
        }
        C.due(letter + "<99 of " + value, holds(letter + "<99", f, coins, h, kind, v, grain));
        C.due(letter + ">99 of " + value, !holds(letter + ">99", f, coins, h, kind, v, grain));
    }

    private static void termLetterF() {
        for (int f = 0; f < 4; f++) {
            dueLetter('f', f, f, 5, 4, 6, 7, 80);
        }
    }

    private static void termLetterH() {
        for (int h = 0; h < 6; h++) {
            dueLetter('h', h, 3, 8, h, 6, 7, 90);
        }
    }

    private static void termLetterK() {
        for (int k = 0; k < 7; k++) {
            dueLetter('k', k, 1, 8, 2, k, 9, 70);
        }
    }

    private static void termLetterV() {
        for (int v = 0; v < 10; v++) {
            dueLetter('v', v, 2, 1, 3, 4, v, 66);
        }
    }

    private static void termLetterGIsCut() {
        int[] grains = {0, 1, 9, 10, 11, 19, 20, 49, 50, 89, 90, 99};
        for (int grain : grains) {
            dueLetter('g', grain / 10, 0, 3, 2, 4, 8, grain);
        }
    }

    private static void termLetterC() {
        for (int coins = 0; coins < 10; coins++) {
            dueLetter('c', coins, 3, coins, 1, 5, 2, 33);
        }
    }

    private static void termGWhetherCountedOrNot() {
        AskedIn x = new AskedIn();
        x.house(LONELY, 0, 10);
        x.house(LONELY, 0, 0);
        x.folk(1, 0, 1);
        Checks.town(x, "walk 2 g=1;walk 7 g=0;count 0 f=0");
        x.way(0);
        x.way(1);
        x.way(0);
        due("2, 7, and 2 again though it was counted", x.goes(0, 0), 11);
    }

    private static void termCIsAheadOfANight() {
        AskedIn x = Checks.houses(LANDLORD, HOUSE);
        x.sell(0, LANDLORD, 3);
        x.folk(0, 5, 1);
        Checks.town(x, "walk 7 c=5;walk 1 c=2;count 7 c=5");
        x.strew(1, 1);
        x.way(0);
        x.way(1);
        due("three coins less", x.goes(0, 1), 2);
        due("by five coins still: 7 to walk and 7 to count", x.goes(0, 0), 14);
        due("in at the landlord's", x.goes(0, 2), 1);
    }

    /** T holds, F does not. */
    private static void dueSense(String e, boolean want) {
        C.due(e, holds(e.replace("T", "c=6").replace("F", "c=5"), 0, 6, 0, 0, 0, 0) == want);
    }

    private static void termEOfTs() {
        dueSense("T|T", true);
        dueSense("T|F", true);
        dueSense("F|T", true);
        dueSense("F|F", false);
        dueSense("F|F|T", true);
        dueSense("T|F|F", true);
        dueSense("F|F|F|F", false);
    }

    private static void termTOfFs() {
        dueSense("T&T", true);
        dueSense("T&F", false);
        dueSense("F&T", false);
        dueSense("F&F", false);
        dueSense("T&T&T", true);
        dueSense("T&T&F", false);
        dueSense("F&T&T", false);
    }

    private static void termAndBindsAheadOfOr() {
        dueSense("T|T&F", true);
        dueSense("F&T|T", true);
        dueSense("F&F|T&T", true);
        dueSense("T&T|F&F", true);
        dueSense("F|T&F|F", false);
        dueSense("F|T&T|F", true);
        dueSense("T|F&F|F", true);
    }

    private static void termNotBindsFirst() {
        dueSense("!T", false);
        dueSense("!F", true);
        dueSense("!!T", true);
        dueSense("!!!T", false);
        dueSense("!!!!T", true);
        dueSense("!F&F", false);
        dueSense("!(F&F)", true);
        dueSense("!T|T", true);
        dueSense("!(T|T)", false);
        dueSense("T&!F", true);
        dueSense("F|!F", true);
        dueSense("F|!T", false);
    }

    private static void termParenthesesTogether() {
        dueSense("(T)", true);
        dueSense("(F)", false);
        dueSense("T&(T)", true);
        dueSense("F|(T)", true);
        dueSense("T&(T&T)", true);
        dueSense("T&(T|F)", true);
        dueSense("T&(F|T)", true);
        dueSense("F&(T|T)", false);
        dueSense("(T|T)&F", false);
        dueSense("T&(F|F)", false);
        dueSense("F|(T&T)", true);
        dueSense("F|(T&F)", false);
        dueSense("T|(F&F)", true);
        dueSense("(F|T)&(T|F)", true);
        dueSense("(T&F)|(F&T)", false);
        dueSense("T&!(F|F)&T", true);
        dueSense("T&!(T&T)|F", false);
        dueSense("((((T))))&T", true);
        dueSense("T&(T&(T&(T&(T))))", true);
        dueSense("T&(T&(T&(T&F)))", false);
        dueSense("F|(F|(F|(F|T)))", true);
        dueSense("F|(F|(F|(F|F)))", false);
        dueSense("!(T&!(T&F))", false);
        dueSense("!(F|!(T&T))", true);
    }

    private static void termSlowIsAllThatHoldTogether() {
        AskedIn x = Checks.houses(HOUSE, HOUSE);
        x.folk(0, 0, 1);
        Checks.town(x, "count 9 f=0;count 20 h=0;count 99 h=1;walk 50 f=0");
        due("at 0", x.of(0, 10), 29);
        due("at 1", x.of(1, 10), 108);
    }

    private static void termSlowWithoutCountIsFive() {
        AskedIn x = Checks.houses(HOUSE);
        x.folk(0, 0, 1);
        due("no town", x.of(0, 10), 5);
        Checks.town(x, "walk 8 f=0;dawn 70");
        due("no count at all", x.of(0, 10), 5);
    }

    private static void termSlowOfNoneThatHoldsIsNothing() {
        AskedIn x = Checks.houses(HOUSE);
        x.folk(0, 0, 1);
        Checks.town(x, "count 8 f=1");
        due("a count that holds not", x.of(0, 10), 0);
        Checks.town(x, "count 0 f=0");
        due("a count of 0", x.of(0, 10), 0);
    }

    private static void termFarIsAllThatHoldTogether() {
        AskedIn x = Checks.houses(HOUSE, HOUSE);
        x.folk(0, 0, 1);
        Checks.town(x, "walk 9 f=0;walk 20 h=0;walk 99 h=1;count 50 f=0");
        due("at 0", x.of(0, 20), 29);
        due("at 1", x.of(1, 20), 108);
    }

    private static void termFarWithoutWalkIsThree() {
        AskedIn x = Checks.houses(HOUSE);
        x.folk(0, 0, 1);
        due("no town", x.of(0, 20), 3);
        Checks.town(x, "count 8 f=0;dawn 70");
        due("no walk at all", x.of(0, 20), 3);
    }

    private static void termFarOfNoneThatHoldsIsNothing() {
        AskedIn x = Checks.houses(HOUSE);
        x.folk(0, 0, 1);
        Checks.town(x, "walk 8 f=1");
        due("a walk that holds not", x.of(0, 20), 0);
        Checks.town(x, "walk 0 f=0");
        due("a walk of 0", x.of(0, 20), 0);
    }

    private static void termDawnIsTheLastOnes() {
        AskedIn x = new AskedIn();
        due("without a town", x.dawn(), 60);
        Checks.town(x, "walk 1 f=0");
        due("without dawn", x.dawn(), 60);
        Checks.town(x, "dawn 99;dawn 0");
        due("the last: 0", x.dawn(), 0);
        Checks.town(x, "dawn 0;dawn 99;count 1 f=0");
        due("the last: 99", x.dawn(), 99);
    }

    private static void termTheNewestTownHolds() {
        AskedIn x = new AskedIn();
        for (int town = 0; town < 6; town++) {
            due("town " + town, Checks.town(x, "dawn 1" + town), town);
            due("it holds", x.dawn(), 10 + town);
        }
    }

    private static void termTownsAreSix() {
        AskedIn x = new AskedIn();
        for (int town = 0; town < 6; town++) {
            Checks.town(x, "dawn 1" + town);
        }
        due("a seventh", Checks.town(x, "dawn 9"), FULL);
        due("its text stays", x.count(6), 6);
        due("six", x.count(2), 6);
        due("the sixth holds", x.dawn(), 15);
        Checks.feed(x, ";x");
        due("full ahead of a fault", x.town(), FULL);
        due("the text stays again", x.count(6), 8);
    }

    // ---- nights and visits

    private static void termANightBeginsAtMinuteZeroWithItsCoins() {
        AskedIn x = Checks.houses(LANDLORD, LONELY);
        x.sell(0, LANDLORD, 9);
        x.folk(0, 9, 1);
        for (int night = 0; night < 3; night++) {
            due("minute", x.visit(0, 0, 0), 0);
            due("it can pay every night", x.visit(0, 0, 1), 1);
            due("all spent", x.visit(0, 0, 2), 0);
        }
    }

    private static void termANightHasBeenInNowhere() {
        AskedIn x = Checks.houses(LONELY, PROUD);
        x.sell(1, PROUD, 1);
        x.folk(0, 0, 1);
        due("in at 0", x.visit(0, 0, 1), 1);
        due("but not in this night", x.visit(0, 1, 1), 0);
    }

    private static void termItBeginsAtItsSack() {
        AskedIn x = Checks.houses(0, 0, 0, 0, 0, 0);
        x.folk(0, 0, 1);
        for (int sack = 0; sack < 6; sack++) {
            x.sack(0, sack);
            for (int house = 0; house < 6; house++) {
                due("from " + sack + " to " + house, x.visit(0, house, 0), 3 * Math.abs(sack - house));
            }
        }
    }

    private static void termFromThenOnItStandsThere() {
        AskedIn x = Checks.houses(0, 0, 0, 0, 0, 0);
        x.folk(2, 0, 1);
        int[] way = {5, 0, 0, 4};
        int[] minutes = {9, 24, 24, 36};
        for (int i = 0; i < way.length; i++) {
            x.way(way[i]);
            due("minute behind place " + i, x.goes(0, 0), minutes[i]);
        }
    }

    private static void termCountingIsRoundedUp() {
        // slow, grain, quickness, minutes
        int[][] rows = {
            {5, 0, 1, 0}, {5, 1, 1, 5}, {5, 1, 9, 1}, {5, 2, 9, 2}, {5, 9, 9, 5}, {5, 9, 5, 9}, {5, 7, 3, 12},
            {5, 6, 3, 10}, {0, 99, 1, 0}, {1, 8, 9, 1}, {1, 9, 9, 1}, {1, 10, 9, 2}, {99, 99, 1, 9801}, {99, 99, 9, 1089},
            {99, 99, 8, 1226}, {1, 1, 9, 1}, {1, 1, 1, 1}, {1, 99, 2, 50},
        };
        for (int[] row : rows) {
            AskedIn x = new AskedIn();
            x.house(HOUSE, 0, row[1]);
            x.folk(0, 0, row[2]);
            Checks.town(x, "count " + row[0] + " f=0");
            due(row[0] + " times " + row[1] + " by " + row[2], x.visit(0, 0, 0), row[3]);
        }
    }

    private static void termOnlyTheFirstVisitCounts() {
        AskedIn x = new AskedIn();
        x.house(HOUSE, 0, 4);
        x.house(HOUSE, 0, 2);
        x.folk(0, 0, 1);
        int[] way = {0, 0, 1, 0, 1};
        int[] minutes = {20, 20, 33, 36, 39};
        for (int i = 0; i < way.length; i++) {
            x.way(way[i]);
            due("minute behind place " + i, x.goes(0, 0), minutes[i]);
        }
    }

    private static void termBelowDawn() {
        AskedIn x = new AskedIn();
        x.house(LANDLORD, 0, 4);
        x.house(HOUSE, 0, 4);
        x.folk(0, 0, 1);
        x.ask(1, 0, true);
        Checks.town(x, "dawn 21");
        due("20 is below 21", x.visit(0, 0, 1), 1);
        Checks.town(x, "dawn 20");
        due("20 is not below 20", x.visit(0, 0, 1), 0);
        Checks.town(x, "dawn 19");
        due("20 is not below 19", x.visit(0, 0, 1), 0);
        Checks.town(x, "dawn 24");
        due("asked: 23 is below 24", x.visit(0, 1, 1), 1);
        Checks.town(x, "dawn 23");
        due("asked: 23 is not below 23", x.visit(0, 1, 1), 0);
        x.strew(0, 0);
        Checks.town(x, "dawn 0");
        due("0 is not below 0", x.visit(0, 0, 1), 0);
    }

    private static void termBehindDawnItGoesOn() {
        AskedIn x = new AskedIn();
        x.house(LANDLORD, 1, 0);
        x.house(LANDLORD, 1, 12);
        x.folk(0, 3, 1);
        x.way(0);
        x.way(1);
        x.way(0);
        due("0, 63, 66", x.goes(0, 0), 66);
        due("only one took a coin", x.goes(0, 1), 2);
        due("in at 0", x.goes(0, 2), 1);
        due("at dawn at place 1", x.goes(0, 3), 1);
    }

    // ---- whom a house lets in

    /** One with these coins, next to a house of a kind and v, that comes there at a minute. */
    private static AskedIn next(int kind, int v, int coins, int minute) {
        AskedIn x = new AskedIn();
        x.house(HOUSE, 0, 0);
        x.house(kind, v, 0);
        x.folk(0, coins, 1);
        Checks.town(x, "walk " + minute + " f=0;dawn 99");
        due("comes at", x.visit(0, 1, 0), minute);
        return x;
    }

    private static void termAHouseNever() {
        for (int v = 0; v <= 9; v++) {
            due("v " + v, next(HOUSE, v, 9, 98).visit(0, 1, 1), 0);
        }
    }

    private static void termLonelyAtFiveTimesV() {
        for (int v = 0; v <= 9; v++) {
            due("lonely " + v + " at it", next(LONELY, v, 0, 5 * v).visit(0, 1, 1), 1);
            due("lonely " + v + " behind it", next(LONELY, v, 0, 5 * v + 1).visit(0, 1, 1), 1);
            if (v > 0) {
                due("lonely " + v + " ahead of it", next(LONELY, v, 0, 5 * v - 1).visit(0, 1, 1), 0);
            }
        }
    }

    private static void termSadAsLonelyUpToSevenAlwaysAbove() {
        for (int v = 0; v <= 7; v++) {
            due("sad " + v + " at it", next(SAD, v, 0, 5 * v).visit(0, 1, 1), 1);
            if (v > 0) {
                due("sad " + v + " ahead of it", next(SAD, v, 0, 5 * v - 1).visit(0, 1, 1), 0);
            }
        }
        due("sad 8 at once", next(SAD, 8, 0, 0).visit(0, 1, 1), 1);
        due("sad 9 at once", next(SAD, 9, 0, 0).visit(0, 1, 1), 1);
        due("sad 9 late", next(SAD, 9, 0, 98).visit(0, 1, 1), 1);
    }

    /** Whether one comes in at a proud or vain house with v when it has been in at so many others. */
    private static int behindOthers(int kind, int v, int others, int coins) {
        AskedIn x = Checks.houses(LONELY, LONELY, LONELY, LONELY, HOUSE, kind);
        x.sell(5, kind, v);
        x.folk(0, coins, 1);
        x.way(4);
        for (int i = 0; i < others; i++) {
            x.way(i);
        }
        x.way(5);
        return x.goes(0, 2) >> 5;
    }

    private static void termProudByVModuloThree() {
        for (int v = 0; v <= 9; v++) {
            for (int others = 0; others <= 4; others++) {
                due("proud " + v + " behind " + others, behindOthers(PROUD, v, others, 0), others >= v % 3 ? 1 : 0);
            }
        }
    }

    private static void termVainAsProudButNeverWithoutCoins() {
        for (int v = 0; v <= 9; v++) {
            for (int others = 0; others <= 4; others++) {
                due("vain " + v + " behind " + others, behindOthers(VAIN, v, others, 1), others >= v % 3 ? 1 : 0);
                due("vain, no coins", behindOthers(VAIN, v, others, 0), 0);
            }
        }
    }

    private static void termProudAndVainByBothNeighbours() {
        for (int kind : new int[] {PROUD, VAIN}) {
            for (int house = 1; house < 5; house++) {
                AskedIn x = Checks.houses(1, 1, 1, 1, 1, 1);
                x.sell(house, kind, 2);
                x.folk(house, 1, 1);
                x.way(house - 1);
                x.way(house);
                due("one neighbour is too few", x.goes(0, 2), 1 << house - 1);
                x.way(house + 1);
                x.way(house);
                due("both are enough", x.goes(0, 2), 7 << house - 1);
            }
        }
    }

    private static void termVainByTheCoinsThatAreLeft() {
        AskedIn x = Checks.houses(LANDLORD, VAIN);
        x.folk(0, 2, 1);
        x.way(0);
        x.way(1);
        x.sell(0, LANDLORD, 1);
        due("one left", x.goes(0, 2), 3);
        x.sell(0, LANDLORD, 2);
        due("none left", x.goes(0, 2), 1);
    }

    private static void termTheSameHouseTwiceIsOneOther() {
        AskedIn x = Checks.houses(LONELY, PROUD);
        x.sell(1, PROUD, 2);
        x.folk(0, 0, 1);
        x.way(0);
        x.way(0);
        x.way(1);
        due("in at one other only", x.goes(0, 2), 1);
    }

    private static void termLandlordByVCoins() {
        for (int v = 0; v <= 9; v++) {
            AskedIn x = next(LANDLORD, v, v, 1);
            due("landlord " + v + ", as many", x.visit(0, 1, 1), 1);
            due("none left", x.visit(0, 1, 2), 0);
            if (v > 0) {
                x = next(LANDLORD, v, v - 1, 1);
                due("landlord " + v + ", one too few", x.visit(0, 1, 1), 0);
                due("all left", x.visit(0, 1, 2), v - 1);
            }
            if (v < 9) {
                x = next(LANDLORD, v, v + 1, 1);
                due("landlord " + v + ", one more", x.visit(0, 1, 1), 1);
                due("one left", x.visit(0, 1, 2), 1);
            }
        }
    }

    private static void termLandlordTakesAtEachVisit() {
        AskedIn x = Checks.houses(LANDLORD);
        x.sell(0, LANDLORD, 4);
        x.folk(0, 9, 1);
        int[] coins = {5, 1, 1};
        for (int i = 0; i < coins.length; i++) {
            x.way(0);
            due("coins behind visit " + (i + 1), x.goes(0, 1), coins[i]);
        }
        due("the third time it can't", x.goes(0, 3), 2);
    }

    private static void termToldByMinuteModuloFour() {
        for (int part = 0; part < 4; part++) {
            for (int minute = 0; minute < 9; minute++) {
                AskedIn x = next(TOLD, 0, 0, minute);
                due("told, all 1, at " + minute, x.visit(0, 1, 1), 1);
                due("it was 1", x.row(1, part, 0), 1);
                due("told, part " + part + " 0, at " + minute, x.visit(0, 1, 1), minute % 4 == part ? 0 : 1);
                for (int other = 0; other < 4; other++) {
                    x.row(1, other, other == part ? 1 : 0);
                }
                due("told, part " + part + " only, at " + minute, x.visit(0, 1, 1), minute % 4 == part ? 1 : 0);
            }
        }
    }

    private static void termToldAsLandlord() {
        AskedIn x = next(TOLD, 5, 5, 2);
        due("as many", x.visit(0, 1, 1), 1);
        due("none left", x.visit(0, 1, 2), 0);
        x.row(1, 2, 0);
        due("not at this minute", x.visit(0, 1, 1), 0);
        due("then it takes none", x.visit(0, 1, 2), 5);
        due("one too few", next(TOLD, 5, 4, 2).visit(0, 1, 1), 0);
    }

    private static void termAskedIsLetInByAllKinds() {
        for (int kind = 0; kind <= 6; kind++) {
            AskedIn x = new AskedIn();
            x.house(kind, kind == SAD ? 7 : 8, 0);
            x.folk(0, 0, 1);
            x.folk(0, 9, 1);
            for (int part = 0; part < 4; part++) {
                x.row(0, part, 0);
            }
            due("kind " + kind + " not asked", x.visit(0, 0, 1), 0);
            x.ask(0, 0, true);
            due("kind " + kind + " asked", x.visit(0, 0, 1), 1);
            x.ask(0, 1, true);
            due("kind " + kind + " takes no coins then", x.visit(1, 0, 2), 9);
            x.ask(0, 0, false);
            due("kind " + kind + " asked no more", x.visit(0, 0, 1), 0);
        }
    }
}
