/**
 * What is told, promises 1 to 7 and the letters of a HOUSE: each sentence of the document that names a boundary
 * has a test of its own.
 */
public final class EdgeToldTest {
    private static final Check CHECK = new Check();
    private static final int LOW = Check.LOW;
    private static final int HIGH = Check.HIGH;
    private static final String DIGITS = "0123456789";

    // What may stand at each place of a STATEMENT, one sample of each form.
    private static final String[][] FORMS = {
        {"e", "efcpha", DIGITS, DIGITS, DIGITS, DIGITS + ";"},
        {"e", "efcpha", DIGITS, DIGITS, DIGITS, DIGITS + ";", ";"},
        {"s", DIGITS, DIGITS, DIGITS, ";"},
        {"w", "ox", "ox", "ox", "ox", "ox", "ox", "ox", ";"},
        {"b", DIGITS, DIGITS, DIGITS, ";"},
        {"h", "onmtbs", ";"},
        {"c", DIGITS, DIGITS, DIGITS, ";"},
        {"d", ";"}};
    private static final String[] SAMPLES = {"ee111;", "ea9910;", "s460;", "woxoxoxo;", "b309;", "hs;", "c909;", "d;"};
    private static final String FIRSTS = "eswbhcd";

    public static void main(String[] args) {
        nobodyAtFirst();
        noBreadAtFirst();
        openEveryDayAtFirst();
        ages();
        slices();
        slicesTold();
        weekDays();
        openOrNot();
        day();
        dayAbove9999();
        buy();
        yesterdays();
        price();
        throwing();
        lack();
        houseKind();
        settingsWhat();
        fourEaters();
        hungerAndBase();
        chance();
        eaterParts();
        letterLeastAndGreatest();
        letters96();
        houseOf96Letters();
        lettersAreNoMore();
        noLetters();
        statementsEnd();
        eaterLettersAndDigits();
        slicesHaveTwoDigits();
        weekHasSevenLetters();
        buyHasTwoDigits();
        firstWrongLetter();
        theEndIfSomethingLacks();
        kindOneGoesFirst();
        kindTwoPlaces();
        behindAllAhead();
        allOrNothing();
        oneBehindTheOther();
        faultIsNotCounted();
        CHECK.end("EdgeToldTest");
    }

    private static void due(String call, long got, long want) {
        CHECK.due(call, got, want);
    }

    /** What a text answers as the first HOUSE of a new object. */
    private static int house(String text) {
        return Check.tell(new AlwaysYesterdays(), text);
    }

    private static void houseIs(String text, int want) {
        due("house of '" + text + "'", house(text), want);
    }

    private static void nobodyAtFirst() {
        CHECK.sentence("Nobody, no bread; the shop is open every day.");
        AlwaysYesterdays x = new AlwaysYesterdays();
        due("EATERS", x.count(0), 0);
        due("all HUNGER", x.count(6), 0);
        due("eater(0, 0)", x.eater(0, 0), -1);
        due("worth(0, 0)", x.worth(0, 0), -1);
        due("likes(0)", x.likes(0), -1);
        due("whose(0)", x.whose(0), -9);
        due("share()", x.share(), 0);
        due("EATEN in 28 DAYS", x.total(28, 1), 0);
        due("LACKED in 28 DAYS", x.total(28, 4), 0);
        due("never()", x.never(), 28);
    }

    private static void noBreadAtFirst() {
        CHECK.sentence("STOCK: SLICES of each AGE (0 .. 60; 0 at first)");
        AlwaysYesterdays x = new AlwaysYesterdays();
        due("all SLICES", x.count(2), 0);
        for (int age = 0; age < 5; age++) {
            due("left(0, " + age + ")", x.left(0, age), 0);
            due("stock(" + age + ", 0)", x.stock(age, 0), 0);
        }
        due("out(28)", x.out(28), 0);
        due("thrown in 4 DAYS", x.total(4, 3), 0);
    }

    private static void openEveryDayAtFirst() {
        CHECK.sentence("(all OPEN at first)");
        AlwaysYesterdays x = new AlwaysYesterdays();
        due("how many are OPEN", x.count(4), 7);
        due("BOUGHT in a week", x.total(7, 5), 42);
        for (int day = 0; day < 7; day++) {
            due("open(" + day + ", 1)", x.open(day, 1), 1);
        }
    }

    private static void ages() {
        CHECK.sentence("AGES 0 (fresh) .. 4.");
        AlwaysYesterdays x = Check.of("eh111;");
        for (int age : new int[] {-1, 5, LOW, HIGH}) {
            due("stock(" + age + ", 0)", x.stock(age, 0), -1);
            due("left(0, " + age + ")", x.left(0, age), -1);
            due("worth(0, " + age + ")", x.worth(0, age), -1);
            due("whose(" + age + ")", x.whose(age), -1);
        }
        for (int age : new int[] {0, 4}) {
            due("stock(" + age + ", 7)", x.stock(age, 7), 0);
            due("left(0, " + age + ")", x.left(0, age), 7);
            due("worth(0, " + age + ")", x.worth(0, age), 1);
            due("whose(" + age + ")", x.whose(age), 0);
        }
        houseIs("s001;", 1);
        houseIs("s401;", 1);
        houseIs("s501;", -2000);
        houseIs("s901;", -2000);
        due("REFUSALS -1", x.count(11), 16);
    }

    private static void slices() {
        CHECK.sentence("SLICES of an AGE become v: what they were. -1; -4; -6 60.");
        AlwaysYesterdays x = new AlwaysYesterdays();
        for (int age = 0; age < 5; age++) {
            due("the least", x.stock(age, 0), 0);
            due("the greatest", x.stock(age, 60), 0);
            due("below", x.stock(age, -1), -4);
            due("far below", x.stock(age, LOW), -4);
            due("above", x.stock(age, 61), -6);
            due("far above", x.stock(age, HIGH), -6);
            due("it stays", x.left(0, age), 60);
        }
        due("all SLICES", x.count(2), 300);
        due("no such AGE goes before below", x.stock(5, -1), -1);
        due("no such AGE goes before above", x.stock(-1, 61), -1);
        due("REFUSALS -1, -4, -6", x.count(11) * 10000 + x.count(14) * 100 + x.count(16), 2 * 10000 + 1010);
    }

    private static void slicesTold() {
        CHECK.sentence("\"s\" an AGE (a digit), SLICES (2 digits)");
        houseIs("s000;", 1);
        houseIs("s400;", 1);
        houseIs("s460;", 1);
        houseIs("s461;", -2000);
        houseIs("s499;", -2000);
        AlwaysYesterdays x = Check.of("s360;");
        due("SLICES become so many, not so many more", Check.tell(x, "s307;"), 1);
        due("stock(3, 0)", x.stock(3, 0), 7);
    }

    private static void weekDays() {
        CHECK.sentence("DAYS of a week 0 .. 6");
        AlwaysYesterdays x = new AlwaysYesterdays();
        for (int day : new int[] {-1, 7, LOW, HIGH}) {
            due("open(" + day + ", 0)", x.open(day, 0), -1);
        }
        due("all are OPEN still", x.count(4), 7);
        due("open(0, 0)", x.open(0, 0), 1);
        due("open(6, 0)", x.open(6, 0), 1);
        due("how many are OPEN", x.count(4), 5);
        due("REFUSALS -1", x.count(11), 4);
    }

    private static void openOrNot() {
        CHECK.sentence("A week's day is OPEN (1), not (0): what it was. -1; -2.");
        AlwaysYesterdays x = new AlwaysYesterdays();
        for (int is : new int[] {-1, 2, LOW, HIGH}) {
            due("open(3, " + is + ")", x.open(3, is), -2);
            due("no such day goes first", x.open(7, is), -1);
        }
        due("it stays", x.open(3, 1), 1);
        due("is OPEN, becomes not", x.open(3, 0), 1);
        due("is not, stays not", x.open(3, 0), 0);
        due("is not, becomes OPEN", x.open(3, 1), 0);
        due("is OPEN, stays", x.open(3, 1), 1);
        for (int day = 0; day < 7; day++) {
            x.open(day, 0);
        }
        due("none is OPEN", x.count(4), 0);
    }

    private static void day() {
        CHECK.sentence("DAY (0 .. 9999; 0 at first; its week's is modulo 7)");
        AlwaysYesterdays x = Check.of("woxxxxxx;c100;");
        due("DAY at first", x.count(1), 0);
        for (int day = 0; day < 22; day++) {
            // Day 0 of the week alone is OPEN, so there it is BUY twice.
            due("DAY " + day, x.dayOn(), day % 7 == 0 ? -12 : 0);
            due("DAY", x.count(1), day + 1);
        }
    }

    /** 512 calls can't reach it (a "d" has two letters): the answers there are the class's own care. */
    private static void dayAbove9999() {
        CHECK.sentence("DAY above 9999");
        AlwaysYesterdays x = Check.of("b000;");
        for (int i = 0; i < 9998; i++) {
            x.dayOn();
        }
        due("DAY", x.count(1), 9998);
        due("the second is one too many", Check.tell(x, "ho;d;d;"), -2005);
        due("DAY", x.count(1), 9998);
        due("9999 itself", Check.tell(x, "d;"), 1);
        due("DAY", x.count(1), 9999);
        due("house of d", Check.tell(x, "d;"), -2000);
        due("dayOn()", x.dayOn(), 1000000006);
        due("DAY", x.count(1), 9999);
        due("image()", x.image(), 9999);
        due("on()", x.on(), 9999);
        due("only dayOn() is a REFUSAL", Check.refusals(x) * 10 + x.count(16), 11);
    }

    private static void setting(int what, String[] texts, int atFirst, int most) {
        AlwaysYesterdays x = new AlwaysYesterdays();
        due("at first", x.set(what, 0), atFirst);
        due("the least again", x.set(what, 0), 0);
        due("the greatest", x.set(what, most), 0);
        due("below", x.set(what, -1), -4);
        due("far below", x.set(what, LOW), -4);
        due("above", x.set(what, most + 1), -6);
        due("far above", x.set(what, HIGH), -6);
        due("it stays", x.set(what, most), most);
        due("REFUSALS -4, -6", x.count(14) * 10 + x.count(16), 22);
        for (int i = 0; i < texts.length; i += 2) {
            due("house of " + texts[i], Check.tell(x, texts[i]), 1);
            due("told so", x.set(what, most), Integer.parseInt(texts[i + 1]));
        }
    }

    private static void buy() {
        CHECK.sentence("BUY (0 .. 30: 6 at first)");
        setting(0, new String[] {"b009;", "0", "b300;", "30", "b070;", "7"}, 6, 30);
        houseIs("b310;", -2000);
        houseIs("b990;", -2000);
        AlwaysYesterdays x = new AlwaysYesterdays();
        due("count(3)", x.count(3), 6);
        x.set(0, 30);
        due("count(3)", x.count(3), 30);
    }

    private static void yesterdays() {
        CHECK.sentence("YESTERDAY'S (0 .. 9 a day for half: 0 at first)");
        setting(1, new String[] {"b000;", "0", "b009;", "9"}, 0, 9);
    }

    private static void price() {
        CHECK.sentence("PRICE (0 .. 9 a SLICE: 2 at first)");
        setting(2, new String[] {"c011;", "0", "c911;", "9"}, 2, 9);
    }

    private static void throwing() {
        CHECK.sentence("THROW (0 .. 9: 1)");
        setting(3, new String[] {"c101;", "0", "c191;", "9"}, 1, 9);
    }

    private static void lack() {
        CHECK.sentence("LACK (0 .. 9: 3)");
        setting(4, new String[] {"c110;", "0", "c119;", "9"}, 3, 9);
    }

    private static void houseKind() {
        CHECK.sentence("A HOUSE of a KIND (o at first)");
        setting(5, new String[] {"ho;", "0", "hn;", "1", "hm;", "2", "ht;", "3", "hb;", "4", "hs;", "5"}, 0, 5);
        due("count(5)", new AlwaysYesterdays().count(5), 0);
    }

    private static void settingsWhat() {
        CHECK.sentence("becomes v: what it was. -2; -4; -6 (30; 9; 9; 9; 9; 5).");
        AlwaysYesterdays x = new AlwaysYesterdays();
        String was = Check.household(x);
        for (int what : new int[] {-1, 6, LOW, HIGH}) {
            for (int v : new int[] {-1, 0, 31}) {
                due("set(" + what + ", " + v + ")", x.set(what, v), -2);
            }
        }
        due("REFUSALS", Check.refusals(x), 12);
        CHECK.that("nothing changes", was.equals(Check.household(x)));
    }

    private static void fourEaters() {
        CHECK.sentence("EATERS 0 .. 3 as they come (4 at most)");
        AlwaysYesterdays x = Check.of("ee111;ef222;");
        due("EATERS", x.count(0), 2);
        due("the one behind the last", x.eater(2, 0), -1);
        due("a fifth in one text", Check.tell(x, "ec333;ep444;eh555;"), -2012);
        due("EATERS", x.count(0), 2);
        due("the third and the fourth", Check.tell(x, "ec333;ep444;"), 2);
        due("EATERS", x.count(0), 4);
        due("no room for a fifth", Check.tell(x, "eh555;"), -2000);
        due("EATERS", x.count(0), 4);
        for (int e = 0; e < 4; e++) {
            due("KIND of EATER " + e, x.eater(e, 0), e);
            due("HUNGER of EATER " + e, x.eater(e, 1), e + 1);
        }
        for (int e : new int[] {-1, 4, LOW, HIGH}) {
            due("eater(" + e + ", 0)", x.eater(e, 0), -1);
            due("worth(" + e + ", 0)", x.worth(e, 0), -1);
            due("likes(" + e + ")", x.likes(e), -1);
        }
    }

    private static void hungerAndBase() {
        CHECK.sentence("HUNGER (0 .. 9 SLICES a day), BASE (0 .. 9)");
        AlwaysYesterdays x = Check.of("ee091;ee901;");
        due("the least HUNGER", x.eater(0, 1), 0);
        due("the greatest BASE", x.eater(0, 2), 9);
        due("the greatest HUNGER", x.eater(1, 1), 9);
        due("the least BASE", x.eater(1, 2), 0);
        due("all HUNGER", x.count(6), 9);
        due("all HUNGER of four", Check.of("ee991;ee991;ee991;ee991;").count(6), 36);
    }

    private static void chance() {
        CHECK.sentence("CHANCE (1 .. 10 tenths that he comes)");
        for (int chance = 1; chance <= 9; chance++) {
            due("CHANCE " + chance, Check.of("ee11" + chance + ";").eater(0, 3), chance);
            due("CHANCE 0" + chance, Check.of("ee110" + chance + ";").eater(0, 3), chance);
        }
        due("CHANCE 10", Check.of("ee1110;").eater(0, 3), 10);
        houseIs("ee110;", -2000);
        houseIs("ee1100;", -2000);
        houseIs("ee1111;", -2000);
        houseIs("ee1120;", -2000);
        houseIs("ee1199;", -2000);
    }

    private static void eaterParts() {
        CHECK.sentence("Of an EATER: 0 KIND (0 e, 1 f, 2 c, 3 p, 4 h, 5 a), 1 HUNGER, 2 BASE, 3 CHANCE. -1; -2.");
        for (int kind = 0; kind < 6; kind++) {
            AlwaysYesterdays x = Check.of("e" + "efcpha".charAt(kind) + "345;");
            due("KIND", x.eater(0, 0), kind);
            due("HUNGER", x.eater(0, 1), 3);
            due("BASE", x.eater(0, 2), 4);
            due("CHANCE", x.eater(0, 3), 5);
            for (int what : new int[] {-1, 4, LOW, HIGH}) {
                due("eater(0, " + what + ")", x.eater(0, what), -2);
                due("no such EATER goes first", x.eater(1, what), -1);
            }
        }
        due("nobody", new AlwaysYesterdays().eater(0, 4), -1);
    }

    private static void letterLeastAndGreatest() {
        CHECK.sentence("A letter (0 .. 255) comes: how many there are. -4; -6 (255; 96, too).");
        AlwaysYesterdays x = new AlwaysYesterdays();
        due("letter(-1)", x.letter(-1), -4);
        due("letter(LOW)", x.letter(LOW), -4);
        due("letter(256)", x.letter(256), -6);
        due("letter(HIGH)", x.letter(HIGH), -6);
        due("letter('d' and 256)", x.letter('d' + 256), -6);
        due("letters", x.count(8), 0);
        due("letter(0)", x.letter(0), 1);
        due("letter(255)", x.letter(255), 2);
        due("letters", x.count(8), 2);
        due("REFUSALS -4, -6", x.count(14) * 10 + x.count(16), 23);
    }

    private static void letters96() {
        CHECK.sentence("A HOUSE is told in letters, one by one (96 at most)");
        AlwaysYesterdays x = new AlwaysYesterdays();
        for (int i = 1; i <= 96; i++) {
            due("letter " + i, x.letter(i % 2 == 1 ? 'd' : ';'), i);
        }
        due("one more", x.letter('d'), -6);
        due("one more above 255", x.letter(256), -6);
        due("one more below 0: BELOW goes first", x.letter(-1), -4);
        due("letters", x.count(8), 96);
        due("REFUSALS -4, -6", x.count(14) * 10 + x.count(16), 12);
        due("the 96 are as they were", x.house(), 48);
        for (int i = 1; i <= 96; i++) {
            due("room again, letter " + i, x.letter('d'), i);
        }
        due("one more", x.letter('d'), -6);
        due("no HOUSE", x.house(), -1001);
    }

    private static void houseOf96Letters() {
        CHECK.sentence("one by one (96 at most): STATEMENTS, each with \";\" behind");
        houseIs("hs;".repeat(32), 32);
        houseIs("hs;".repeat(31) + "hs;".substring(0, 2), -1095);
        houseIs("hs;".repeat(31) + "d;d", -1096);
        houseIs("hs;".repeat(31) + "d;x", -1095);
        houseIs("d;".repeat(45) + "ee110;", -2090);
    }

    private static void lettersAreNoMore() {
        CHECK.sentence("The letters become a HOUSE, and are no more (with a FAULT neither)");
        AlwaysYesterdays x = new AlwaysYesterdays();
        String[] texts = {"hs;", "hx;", "s061;"};
        int[] want = {1, -1001, -2000};
        for (int i = 0; i < texts.length; i++) {
            due("house of " + texts[i], Check.tell(x, texts[i]), want[i]);
            due("letters", x.count(8), 0);
            due("house() once more", x.house(), -1000);
            due("the next letter", x.letter('h'), 1);
            due("house of it", x.house(), -1001);
        }
    }

    private static void noLetters() {
        CHECK.sentence("At least one STATEMENT.");
        AlwaysYesterdays x = new AlwaysYesterdays();
        due("no letter", x.house(), -1000);
        due("a FAULT is no REFUSAL", Check.refusals(x), 0);
        houseIs(";", -1000);
        houseIs("d;", 1);
    }

    private static void statementsEnd() {
        CHECK.sentence("STATEMENTS, each with \";\" behind");
        houseIs("ho", -1002);
        houseIs("ho;", 1);
        houseIs("hod;", -1002);
        houseIs("ho;;", -1003);
        houseIs("ho;d", -1004);
        houseIs("ho;d;", 2);
        houseIs("ho; d;", -1003);
    }

    private static void eaterLettersAndDigits() {
        CHECK.sentence("\"e\" a letter of a KIND of EATER, HUNGER, BASE (a digit each), CHANCE (1 or 2 digits): one more");
        houseIs("ee11;", -1004);
        houseIs("ee111;", 1);
        houseIs("ee1110;", 1);
        houseIs("ee11100;", -1006);
        houseIs("ee111", -1005);
        houseIs("ee1110", -1006);
        houseIs("eo111;", -1001);
    }

    private static void slicesHaveTwoDigits() {
        CHECK.sentence("SLICES (2 digits)");
        houseIs("s01;", -1003);
        houseIs("s001;", 1);
        houseIs("s0001;", -1004);
    }

    private static void weekHasSevenLetters() {
        CHECK.sentence("\"w\" seven of \"o\" and \"x\" (OPEN, not, by the week's days)");
        houseIs("woooooo;", -1007);
        houseIs("woooooooo;", -1008);
        houseIs("w0000000;", -1001);
        AlwaysYesterdays x = Check.of("woxxoooo;");
        int[] want = {1, 0, 0, 1, 1, 1, 1};
        for (int day = 0; day < 7; day++) {
            due("open(" + day + ", 1)", x.open(day, 1), want[day]);
        }
        due("none OPEN", Check.of("wxxxxxxx;").count(4), 0);
        due("all OPEN", Check.of("wxxxxxxx;wooooooo;").count(4), 7);
    }

    private static void buyHasTwoDigits() {
        CHECK.sentence("\"b\" BUY (2 digits), YESTERDAY'S (a digit)");
        houseIs("b00;", -1003);
        houseIs("b0000;", -1004);
        AlwaysYesterdays x = Check.of("b123;");
        due("BUY", x.set(0, 0), 12);
        due("YESTERDAY'S", x.set(1, 0), 3);
    }

    /** At each place of each form each of the 256 letters, behind nothing and behind two STATEMENTS. */
    private static void firstWrongLetter() {
        CHECK.sentence("kind 1 the place of the first letter with which no HOUSE can go on");
        for (int f = 0; f < FORMS.length; f++) {
            for (int place = 0; place < SAMPLES[f].length(); place++) {
                String allowed = place == 0 ? FIRSTS : FORMS[f][place];
                for (char c = 0; c < 256; c++) {
                    if (allowed.indexOf(c) < 0) {
                        String text = SAMPLES[f].substring(0, place) + c;
                        due("house of '" + text + "'", house(text), -1000 - place);
                        due("house of 'd;ho;" + text + "?'", house("d;ho;" + text + "?"), -1005 - place);
                    }
                }
            }
        }
    }

    private static void theEndIfSomethingLacks() {
        CHECK.sentence("(the end, if something lacks): -1000 less the place");
        for (int f = 0; f < FORMS.length; f++) {
            String sample = SAMPLES[f];
            houseIs(sample, 1);
            for (int place = 0; place < sample.length(); place++) {
                String allowed = place == 0 ? FIRSTS : FORMS[f][place];
                for (int i = 0; i < allowed.length(); i++) {
                    String text = sample.substring(0, place) + allowed.charAt(i);
                    if (!text.endsWith(";")) {
                        houseIs(text, -1000 - text.length());
                        houseIs("s000;" + text, -1005 - text.length());
                    }
                }
            }
        }
    }

    private static void kindOneGoesFirst() {
        CHECK.sentence("else kind 2 the place of the first letter of the first STATEMENT");
        houseIs("s500;x", -1005);
        houseIs("s500;h", -1006);
        houseIs("s500;ee110;d", -1012);
        houseIs("s500;d;", -2000);
        houseIs("d;s500;ee110;", -2002);
    }

    private static void kindTwoPlaces() {
        CHECK.sentence("(a number out of range, DAY above 9999, no room for more): -2000 less the place");
        String[] faults = {"ee110;", "ef1111;", "s500;", "s061;", "b310;"};
        for (String ahead : new String[] {"", "d;", "ho;d;", "wooooooo;", "ee999;s460;b309;c999;"}) {
            for (String fault : faults) {
                houseIs(ahead + fault, -2000 - ahead.length());
                houseIs(ahead + fault + "d;", -2000 - ahead.length());
            }
        }
        houseIs("ee111;ef111;ec111;ep111;eh111;", -2024);
        houseIs("ee111;ef111;ec111;ep111;d;eh111;", -2026);
    }

    private static void behindAllAhead() {
        CHECK.sentence("that, behind all ahead of it in the text, is not as it must be");
        AlwaysYesterdays x = Check.of("ee111;ee111;ee111;");
        due("the fourth, then the fifth", Check.tell(x, "d;ee111;ho;ee111;"), -2011);
        due("the fourth and a wrong one, there is no fifth to tell", Check.tell(x, "ee110;ee111;ee111;"), -2000);
        due("the fourth alone", Check.tell(x, "d;ee111;ho;"), 3);
    }

    private static void allOrNothing() {
        CHECK.sentence("Without FAULT all of it comes, with one nothing.");
        String all = "ef234;s360;wxoxoxox;b121;hn;c345;d;";
        for (String fault : new String[] {"s500;", "ee110;", "x", "d", "d;d;b310;"}) {
            AlwaysYesterdays x = Check.of("ec375;s203;c111;");
            String was = Check.household(x);
            CHECK.that("house of ..." + fault + " has a FAULT", Check.tell(x, all + fault) <= -1000);
            CHECK.that("nothing comes", was.equals(Check.household(x)));
        }
        AlwaysYesterdays x = Check.of("ec375;s203;c111;");
        due("house", Check.tell(x, all), 7);
        due("EATERS", x.count(0), 2);
        due("DAY", x.count(1), 1);
        due("OPEN", x.count(4), 3);
        // The house is NEW when the day goes by, so the CRUST takes the 3 of AGE 2.
        due("of AGE 4", x.left(0, 4), 60);
        due("of AGE 3", x.left(0, 3), 0);
        due("BUY", x.count(3), 12);
    }

    private static void oneBehindTheOther() {
        CHECK.sentence("Without FAULT all of it comes");
        AlwaysYesterdays x = Check.of("b010;s401;d;b020;s402;d;b030;hn;ho;s007;s008;");
        due("DAY", x.count(1), 2);
        due("BUY", x.count(3), 3);
        due("the KIND told last", x.count(5), 0);
        due("of AGE 0", x.left(0, 0), 8);
        due("of AGE 1, bought by the second BUY", x.left(0, 1), 2);
        due("of AGE 2, bought by the first BUY", x.left(0, 2), 1);
        due("of AGE 4", x.left(0, 4), 0);
    }

    private static void faultIsNotCounted() {
        CHECK.sentence("how many STATEMENTS; the FAULT (nothing is counted).");
        AlwaysYesterdays x = new AlwaysYesterdays();
        for (String text : new String[] {"", "x", "d", "s500;", "ee110;", "b310;"}) {
            CHECK.that("house of '" + text + "' has a FAULT", Check.tell(x, text) <= -1000);
        }
        due("REFUSALS", Check.refusals(x), 0);
    }
}
