/**
 * EATERS, HOUSES and a DAY, promises 8 and 9: each sentence of the document that names a boundary has a test of
 * its own.
 */
public final class EdgeDayTest {
    private static final Check CHECK = new Check();
    private static final int LOW = Check.LOW;
    private static final int HIGH = Check.HIGH;

    public static void main(String[] args) {
        worthOfAnEater();
        worthOfAFresh();
        worthOfACrust();
        worthOfAPicky();
        worthOfAHen();
        worthOfAnAway();
        worthNotEaten();
        worthRefused();
        old();
        newest();
        mix();
        thrifty();
        both();
        stingy();
        nothingToTake();
        openOrNot();
        sixtyOfAnAge();
        onceMore();
        onceMoreRoundTheWeek();
        byNumbers();
        asManyAsHunger();
        tillThereIsNone();
        lessPrice();
        lessHalfOfPrice();
        lessLack();
        lessThrow();
        thrownOrOlder();
        oneDayMore();
        dayRefused();
        CHECK.end("EdgeDayTest");
    }

    private static void due(String call, long got, long want) {
        CHECK.due(call, got, want);
    }

    private static void day(String house, int value) {
        due("dayOn() of " + house, Check.of(house).dayOn(), value);
    }

    /** What the SLICES of AGE 0 to 4 are worth to the first EATER. */
    private static void worths(String house, int... want) {
        AlwaysYesterdays x = Check.of(house);
        for (int age = 0; age < 5; age++) {
            due("worth(0, " + age + ") of " + house, x.worth(0, age), want[age]);
        }
    }

    private static void worthOfAnEater() {
        CHECK.sentence("e EATER: BASE less AGE, 0 at least.");
        worths("ee101;", 0, 0, 0, 0, 0);
        worths("ee111;", 1, 0, 0, 0, 0);
        worths("ee131;", 3, 2, 1, 0, 0);
        worths("ee141;", 4, 3, 2, 1, 0);
        worths("ee151;", 5, 4, 3, 2, 1);
        worths("ee191;", 9, 8, 7, 6, 5);
        day("ee101;b000;s401;", 0);
    }

    private static void worthOfAFresh() {
        CHECK.sentence("f FRESH under EATER: as an EATER of AGE 0, else -1.");
        worths("ef101;", 0, -9, -9, -9, -9);
        worths("ef191;", 9, -9, -9, -9, -9);
        due("LACKED though there is bread of AGE 1 to 4",
            Check.of("ef991;b000;s160;s260;s360;s460;").total(1, 4), 9);
    }

    private static void worthOfACrust() {
        CHECK.sentence("c CRUST under EATER: as an EATER, AGE 3, 4 BASE and 1.");
        worths("ec101;", 0, 0, 0, 1, 1);
        worths("ec111;", 1, 0, 0, 2, 2);
        worths("ec191;", 9, 8, 7, 10, 10);
    }

    private static void worthOfAPicky() {
        CHECK.sentence("p PICKY under FRESH: as a FRESH one; of AGE 1 half of BASE, cut.");
        worths("ep101;", 0, 0, -9, -9, -9);
        worths("ep111;", 1, 0, -9, -9, -9);
        worths("ep121;", 2, 1, -9, -9, -9);
        worths("ep191;", 9, 4, -9, -9, -9);
    }

    private static void worthOfAHen() {
        CHECK.sentence("h HEN under CRUST: 1 of any.");
        worths("eh101;", 1, 1, 1, 1, 1);
        worths("eh191;", 1, 1, 1, 1, 1);
    }

    private static void worthOfAnAway() {
        CHECK.sentence("a AWAY under PICKY: as a PICKY one, 1 less, 0 at least, on the week's days 5, 6 (-1 stays).");
        StringBuilder days = new StringBuilder("b000;");
        for (int day = 0; day < 15; day++) {
            boolean away = day == 5 || day == 6 || day == 12 || day == 13;
            worths(days + "ea191;", away ? 8 : 9, away ? 3 : 4, -9, -9, -9);
            worths(days + "ea121;", away ? 1 : 2, away ? 0 : 1, -9, -9, -9);
            worths(days + "ea111;", away ? 0 : 1, 0, -9, -9, -9);
            worths(days + "ea101;", 0, 0, -9, -9, -9);
            days.append("d;");
        }
        day("b000;d;d;d;d;d;ea991;s001;s260;c000;", 8);
        day("b000;d;d;d;d;d;d;ea991;s001;s101;c000;", 8 + 3);
        day("b000;d;d;d;d;d;d;d;ea991;s001;s101;c000;", 9 + 4);
    }

    private static void worthNotEaten() {
        CHECK.sentence("What a SLICE is worth to an EATER today; -9 he does not eat it. -1 either.");
        AlwaysYesterdays x = Check.of("ef101;ep111;");
        due("not eaten", x.worth(0, 1), -9);
        due("eaten, worth nothing", x.worth(1, 1), 0);
        due("not eaten", x.worth(1, 2), -9);
        due("-9 is no REFUSAL", Check.refusals(x), 0);
    }

    private static void worthRefused() {
        CHECK.sentence("`int worth(int eater, int age)`");
        AlwaysYesterdays nobody = new AlwaysYesterdays();
        due("nobody", nobody.worth(0, 0), -1);
        AlwaysYesterdays x = Check.of("ee191;ef191;");
        for (int other : new int[] {-1, LOW, HIGH}) {
            due("worth(" + other + ", 0)", x.worth(other, 0), -1);
            due("worth(0, " + other + ")", x.worth(0, other), -1);
            due("worth(" + other + ", " + other + ")", x.worth(other, other), -1);
        }
        due("worth(2, 0)", x.worth(2, 0), -1);
        due("worth(1, 5)", x.worth(1, 5), -1);
        due("the last EATER, the last AGE", x.worth(0, 4), 5);
        due("the last EATER, the last AGE", x.worth(1, 4), -9);
        due("REFUSALS, all -1", x.count(11) * 100 + Check.refusals(x), 1111);
    }

    private static void old() {
        CHECK.sentence("o OLD: the oldest.");
        CHECK.eats("OLD", Check.of("ee991;b000;s001;s101;s201;s301;s401;"), 4, 3, 2, 1, 0);
        CHECK.eats("OLD, the oldest that he eats", Check.of("ep391;b000;s001;s101;s201;s301;s401;"), 1, 0);
        CHECK.eats("OLD, one AGE alone", Check.of("ee391;b000;s203;"), 2, 2, 2);
    }

    private static void newest() {
        CHECK.sentence("n NEW under OLD: the newest.");
        CHECK.eats("NEW", Check.of("ee991;hn;b000;s001;s101;s201;s301;s401;"), 0, 1, 2, 3, 4);
        CHECK.eats("NEW, one AGE alone", Check.of("ee391;hn;b000;s403;"), 4, 4, 4);
        CHECK.eats("NEW, whatever it is worth", Check.of("ec291;hn;b000;s101;s401;"), 1, 4);
    }

    private static void mix() {
        CHECK.sentence("m MIX under NEW: that which is worth most to him, of alike ones the oldest.");
        CHECK.eats("MIX", Check.of("ec991;hm;b000;s001;s101;s201;s301;s401;"), 4, 3, 0, 1, 2);
        CHECK.eats("MIX, 1 and 2 alike", Check.of("ec911;hm;b000;s001;s101;s201;"), 0, 2, 1);
        CHECK.eats("MIX, all alike", Check.of("eh991;hm;b000;s001;s101;s201;s301;s401;"), 4, 3, 2, 1, 0);
        CHECK.eats("MIX, all worth nothing", Check.of("ee901;hm;b000;s001;s101;s401;"), 4, 1, 0);
        CHECK.eats("MIX, AWAY on day 5, both worth nothing",
            Check.of("b000;d;d;d;d;d;ea911;hm;s001;s101;"), 1, 0);
        CHECK.eats("MIX, AWAY on day 4", Check.of("b000;d;d;d;d;ea911;hm;s001;s101;"), 0, 1);
    }

    private static void thrifty() {
        CHECK.sentence("t THRIFTY under OLD: the oldest, but of AGE 0 only if there are more than 3 of it.");
        CHECK.eats("of 3 none", Check.of("ee991;ht;b000;s003;"));
        CHECK.eats("of 4 one", Check.of("ee991;ht;b000;s004;"), 0);
        CHECK.eats("of 6 three", Check.of("ee991;ht;b000;s006;"), 0, 0, 0);
        CHECK.eats("the oldest first", Check.of("ee991;ht;b000;s005;s101;s401;"), 4, 1, 0, 0);
        CHECK.eats("of AGE 1 to 4 all", Check.of("ee991;ht;b000;s101;s201;s301;s401;"), 4, 3, 2, 1);
        CHECK.eats("the next EATER finds 3", Check.of("ef191;ef991;ht;b000;s004;"), 0);
        CHECK.eats("what is bought counts", Check.of("ef991;ht;b030;s002;"), 0, 0);
        CHECK.eats("what is bought once more counts", Check.of("ef991;ht;b020;woxooooo;"), 0);
    }

    private static void both() {
        CHECK.sentence("b BOTH under MIX: as a MIX one on even DAYS, as a NEW one on odd ones.");
        StringBuilder days = new StringBuilder("b000;");
        for (int day = 0; day < 15; day++) {
            AlwaysYesterdays x = Check.of(days + "ec991;hb;s001;s201;s401;");
            if (day % 2 == 0) {
                CHECK.eats("BOTH on DAY " + day, x, 4, 0, 2);
            } else {
                CHECK.eats("BOTH on DAY " + day, x, 0, 2, 4);
            }
            days.append("d;");
        }
    }

    private static void stingy() {
        CHECK.sentence("s STINGY under THRIFTY: as a THRIFTY one; each EATER takes 1 less than HUNGER, 0 at least (it lacks).");
        AlwaysYesterdays none = Check.of("ee091;hs;b000;s160;");
        CHECK.eats("HUNGER 0", none);
        due("HUNGER 0 lacks nothing", none.total(1, 4), 0);
        AlwaysYesterdays one = Check.of("ee191;hs;b000;s160;");
        CHECK.eats("HUNGER 1", one);
        due("HUNGER 1 lacks 1", one.total(1, 4), 1);
        CHECK.eats("HUNGER 2", Check.of("ee291;hs;b000;s160;"), 1);
        AlwaysYesterdays most = Check.of("ee991;hs;b000;s009;s103;");
        CHECK.eats("HUNGER 9", most, 1, 1, 1, 0, 0, 0, 0, 0);
        due("HUNGER 9 lacks 1", most.total(1, 4), 1);
        CHECK.eats("AGE 0 as in a THRIFTY house", Check.of("ee991;hs;b000;s005;s101;"), 1, 0, 0);
        due("each EATER lacks 1", Check.of("ee291;ee291;ee291;ee291;hs;b000;s160;").total(1, 4), 4);
        // Two worth 8 each, 1 lacks.
        day("ee391;hs;b000;s160;", 8 + 8 - 3);
    }

    private static void nothingToTake() {
        CHECK.sentence("of those AGES of which there are SLICES and that an EATER eats, which he takes next");
        for (char kind : "onmtbs".toCharArray()) {
            CHECK.eats("no SLICE, house " + kind, Check.of("ee991;b000;h" + kind + ";"));
            CHECK.eats("no EATER, house " + kind, Check.of("s060;s460;h" + kind + ";"));
            CHECK.eats("none that he eats, house " + kind, Check.of("ef991;b000;s160;s460;h" + kind + ";"));
        }
    }

    private static void openOrNot() {
        CHECK.sentence("A DAY: if it is OPEN, BUY SLICES of AGE 0 come, YESTERDAY'S of AGE 1");
        AlwaysYesterdays open = Check.of("b309;");
        due("OPEN, BOUGHT", open.total(1, 5), 39);
        due("of AGE 0, a day older", open.left(1, 1), 30);
        due("of AGE 1, a day older", open.left(1, 2), 9);
        AlwaysYesterdays not = Check.of("b309;wxxooooo;");
        due("not OPEN, BOUGHT", not.total(1, 5), 0);
        due("no bread", not.left(1, 1) + not.left(1, 2), 0);
        due("never OPEN, BOUGHT", Check.of("b309;wxxxxxxx;").total(28, 5), 0);
        due("BUY 0, YESTERDAY'S 0", Check.of("b000;").total(28, 5), 0);
    }

    private static void sixtyOfAnAge() {
        CHECK.sentence("(60 of an AGE at most; what is more is not bought)");
        int[] before = {0, 53, 54, 55, 59, 60};
        int[] come = {6, 6, 6, 5, 1, 0};
        for (int i = 0; i < before.length; i++) {
            AlwaysYesterdays fresh = new AlwaysYesterdays();
            fresh.stock(0, before[i]);
            due("of AGE 0, BOUGHT upon " + before[i], fresh.total(1, 5), come[i]);
            due("of AGE 1 then", fresh.left(1, 1), before[i] + come[i]);
            due("VALUE", fresh.dayOn(), -2 * come[i]);
            AlwaysYesterdays half = Check.of("b006;");
            half.stock(1, before[i]);
            due("of AGE 1, BOUGHT upon " + before[i], half.total(1, 5), come[i]);
            due("of AGE 2 then", half.left(1, 2), before[i] + come[i]);
            due("VALUE", half.dayOn(), -come[i]);
        }
        AlwaysYesterdays twice = Check.of("b300;woxooooo;s001;");
        due("once more, BOUGHT upon 1", twice.total(1, 5), 59);
        due("once more, BOUGHT upon 0", Check.of("b300;woxooooo;").total(1, 5), 60);
        due("full of both", Check.of("b309;woxooooo;s060;s160;").total(1, 5), 0);
        due("the AGES don't share the room", Check.of("b309;s060;").total(1, 5), 9);
    }

    private static void onceMore() {
        CHECK.sentence("if it is OPEN, and the next one is not, BUY once more.");
        due("both OPEN", Check.of("b059;").total(1, 5), 14);
        due("the next is not", Check.of("b059;woxooooo;").total(1, 5), 5 + 5 + 9);
        due("neither is", Check.of("b059;wxxooooo;").total(1, 5), 0);
        due("it is not, the next is", Check.of("b059;wxoooooo;").total(1, 5), 0);
        due("BUY 0", Check.of("b000;woxooooo;").total(1, 5), 0);
        due("two that are not OPEN, but once", Check.of("b050;woxxoooo;").total(3, 5), 10);
    }

    private static void onceMoreRoundTheWeek() {
        CHECK.sentence("(0 .. 9999; 0 at first; its week's is modulo 7)");
        due("day 6 ahead of day 0", Check.of("b000;d;d;d;d;d;d;b050;wxoooooo;").total(1, 5), 10);
        due("day 6 ahead of day 0, both OPEN", Check.of("b000;d;d;d;d;d;d;b050;").total(1, 5), 5);
        due("day 0 that is not", Check.of("b000;d;d;d;d;d;d;d;b050;wxoooooo;").total(1, 5), 0);
        due("day 0 ahead of day 1", Check.of("b000;d;d;d;d;d;d;d;b050;woxooooo;").total(1, 5), 10);
        due("day 13 ahead of day 14", Check.of("b000;" + "d;".repeat(13) + "b050;wxoooooo;").total(1, 5), 10);
        due("the only OPEN one, two weeks", Check.of("b050;wxxxxxxo;").total(14, 5), 20);
    }

    private static void byNumbers() {
        CHECK.sentence("Then EATERS by numbers take SLICES, one by one");
        day("ef191;ef181;ef171;ef161;b010;c000;", 9);
        day("ef161;ef171;ef181;ef191;b010;c000;", 6);
        day("ef161;ef171;ef181;ef191;b030;c000;", 6 + 7 + 8);
        day("ef161;ef171;ef181;ef191;b050;c000;", 6 + 7 + 8 + 9);
        CHECK.eats("the first all that he may", Check.of("ee291;ep991;b000;s002;s101;s401;"), 4, 1, 0, 0);
    }

    private static void asManyAsHunger() {
        CHECK.sentence("as many as HUNGER, till there is none that he eats.");
        CHECK.eats("HUNGER 0", Check.of("ee091;b000;s460;"));
        CHECK.eats("HUNGER 1", Check.of("ee191;b000;s460;"), 4);
        CHECK.eats("HUNGER 9", Check.of("ee991;b000;s460;"), 4, 4, 4, 4, 4, 4, 4, 4, 4);
        due("four of HUNGER 9", Check.of("ee991;ee991;ee991;ee991;b000;s460;").total(1, 1), 36);
    }

    private static void tillThereIsNone() {
        CHECK.sentence("less LACK for each that lacked of HUNGER");
        due("just enough", Check.of("ee991;b000;s108;s201;").total(1, 4), 0);
        due("one lacks", Check.of("ee991;b000;s107;s201;").total(1, 4), 1);
        due("all lack", Check.of("ee991;b000;").total(1, 4), 9);
        due("four of HUNGER 9 lack", Check.of("ee991;ee991;ee991;ee991;b000;").total(1, 4), 36);
        due("four of HUNGER 9 lack for 28 DAYS", Check.of("ee991;ee991;ee991;ee991;b000;").total(28, 4), 1008);
    }

    private static void lessPrice() {
        CHECK.sentence("VALUE of the day: all worths, less PRICE for each bought of AGE 0");
        day("b300;c000;", 0);
        day("b300;c900;", -270);
        day("b300;c900;woxooooo;", -540);
        day("b300;c900;s060;", 0);
        day("b300;c900;wxoooooo;", 0);
    }

    private static void lessHalfOfPrice() {
        CHECK.sentence("half of PRICE, cut, for each of AGE 1");
        day("b001;c000;", 0);
        day("b001;c100;", 0);
        day("b001;c200;", -1);
        day("b001;c300;", -1);
        day("b009;c900;", -36);
        day("b009;c900;s158;", -8);
    }

    private static void lessLack() {
        CHECK.sentence("less LACK for each that lacked of HUNGER, less THROW for each thrown.");
        day("ee991;b000;c000;", 0);
        day("ee991;b000;c009;", -81);
        day("ee991;ee991;ee991;ee991;b000;c009;", -324);
    }

    private static void lessThrow() {
        CHECK.sentence("less THROW for each thrown. Those left of AGE 4 are thrown");
        day("b000;s460;c000;", 0);
        day("b000;s460;c090;", -540);
        day("b000;s401;c090;", -9);
        day("b000;s360;c090;", 0);
        day("ee191;b000;s401;c090;", 5);
        day("ee191;b000;s402;c090;", 5 - 9);
    }

    private static void thrownOrOlder() {
        CHECK.sentence("Those left of AGE 4 are thrown; the others are a day older.");
        AlwaysYesterdays x = Check.of("b000;s001;s102;s203;s304;s405;");
        int[][] want = {{1, 2, 3, 4, 5}, {0, 1, 2, 3, 4}, {0, 0, 1, 2, 3}, {0, 0, 0, 1, 2}, {0, 0, 0, 0, 1}, {0, 0, 0, 0, 0}};
        int[] thrown = {5, 4, 3, 2, 1, 0};
        for (int day = 0; day < 6; day++) {
            for (int age = 0; age < 5; age++) {
                due("DAY " + day + ", of AGE " + age, x.left(0, age), want[day][age]);
            }
            due("thrown on DAY " + day, x.total(1, 3), thrown[day]);
            x.dayOn();
        }
        AlwaysYesterdays full = Check.of("b000;s060;s160;s260;s360;s460;");
        due("60 of each, all SLICES behind a DAY", full.total(1, 3), 60);
        full.dayOn();
        due("60 of each, all SLICES behind a DAY", full.count(2), 240);
    }

    private static void oneDayMore() {
        CHECK.sentence("DAY is 1 more.");
        AlwaysYesterdays x = new AlwaysYesterdays();
        for (int day = 1; day <= 30; day++) {
            x.dayOn();
            due("DAY", x.count(1), day);
        }
        due("a told one, too", Check.tell(x, "d;ho;d;"), 3);
        due("DAY", x.count(1), 32);
    }

    private static void dayRefused() {
        CHECK.sentence("A DAY goes by: its VALUE. Refused as told: -6 DAY would be above 9999.");
        AlwaysYesterdays x = Check.of("ee191;");
        for (int i = 0; i < 9998; i++) {
            x.dayOn();
        }
        // Each day 6 come at 2 each, and of the 6 of AGE 4 one is eaten at 5, 5 are thrown.
        due("the last but one", x.dayOn(), 5 - 12 - 5);
        String was = Check.household(x);
        due("DAY", x.count(1), 9999);
        due("dayOn()", x.dayOn(), 1000000006);
        due("dayOn() again", x.dayOn(), 1000000006);
        due("REFUSALS, all -6", x.count(16) * 10 + Check.refusals(x), 22);
        CHECK.that("nothing changes", was.equals(Check.household(x)));
    }
}
