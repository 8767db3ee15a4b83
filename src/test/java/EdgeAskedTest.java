/**
 * MEAN, LIKES, SHARE, the ROW, LOTS, THE IMAGE and what is counted, promises 20 to 31: each sentence of the document
 * that names a boundary has a test of its own.
 */
public final class EdgeAskedTest {
    private static final Check CHECK = new Check();
    private static final int LOW = Check.LOW;
    private static final int HIGH = Check.HIGH;

    public static void main(String[] args) {
        meanOfNobody();
        meanZero();
        meanBelowZero();
        meanLeastTerms();
        meanWhoDoesNotCome();
        meanChances();
        meanToday();
        meanPart();
        likesFreshest();
        likesNobody();
        whoseLeast();
        whoseNobody();
        whoseAge();
        shareNothingThere();
        shareFirstSix();
        shareFreshestFirst();
        shareTwoEach();
        shareHunger();
        shareToNobody();
        shareAsItIs();
        rowLeastAndGreatest();
        rowOfTwenty();
        bottlesDays();
        bottlesNone();
        bottlesThrees();
        bottlesFromTo();
        bottlesOneADay();
        bottlesMost();
        fitsEmpty();
        fitsTwenty();
        fitsThrown();
        judgedEmpty();
        judgedBeyond();
        judgedFirst();
        judgedTwenty();
        lotsYears();
        lotsNobody();
        lotsDrawBelow();
        lotsWithoutSign();
        lotsWrapRound();
        lotsEachOnEach();
        lotsGoOn();
        noImage();
        imageKeeps();
        imageLeavesOut();
        imageOfEmptiness();
        imageAnew();
        refusalsTold();
        refusalsCounted();
        countWhat();
        countNothing();
        countAll();
        CHECK.end("EdgeAskedTest");
    }

    private static void due(String call, long got, long want) {
        CHECK.due(call, got, want);
    }

    private static void mean(String house, long above, long below) {
        AlwaysYesterdays x = Check.of(house);
        due("mean(0) of " + house, x.mean(0), above);
        due("mean(1) of " + house, x.mean(1), below);
    }

    private static void meanOfNobody() {
        CHECK.sentence("MEAN of today: VALUE of today alone, if each EATER comes by his CHANCE");
        AlwaysYesterdays x = new AlwaysYesterdays();
        due("nobody, mean(0)", x.mean(0), -12);
        due("nobody, mean(1)", x.mean(1), 1);
        mean("s405;b300;c995;", -30 * 9 - 5 * 9, 1);
    }

    private static void meanZero() {
        CHECK.sentence("Fractions are told in least terms; 0 as 0 by 1.");
        mean("b000;", 0, 1);
        mean("ee091;ee093;ee097;ee099;b000;", 0, 1);
        mean("ee991;ee993;ee997;ee999;b000;c000;", 0, 1);
        // 2 in five times out of ten, and 1 bought at 1.
        mean("ef125;b010;c100;", 0, 1);
    }

    private static void meanBelowZero() {
        CHECK.sentence("a fraction (0 by 1; above the line it may be below 0)");
        mean("ef111;b000;", -3, 10);
        mean("ef991;b000;c009;", -81, 10);
        mean("ef999;ef999;ef999;ef999;b000;c009;", -1458, 5);
        mean("ef111;ef111;b010;c200;", -181, 100);
        mean("ef111;ef111;ef111;ef111;b010;c100;", -6561, 10000);
    }

    private static void meanLeastTerms() {
        CHECK.sentence("told in least terms");
        long[][] tenths = {{1, 10}, {1, 5}, {3, 10}, {2, 5}, {1, 2}, {3, 5}, {7, 10}, {4, 5}, {9, 10}, {1, 1}};
        for (int chance = 1; chance <= 10; chance++) {
            mean("ef11" + chance + ";b010;c000;", tenths[chance - 1][0], tenths[chance - 1][1]);
        }
        mean("ef115;ef115;b010;c000;", 3, 4);
        mean("ef115;ef115;ef115;ef115;b010;c000;", 15, 16);
        mean("ef111;ef111;ef111;ef111;b010;c000;", 3439, 10000);
        mean("ef119;ef119;ef119;ef119;b010;c000;", 9999, 10000);
    }

    private static void meanWhoDoesNotCome() {
        CHECK.sentence("(who does not has no HUNGER)");
        // The first takes the only one when he comes; when he does not, the second has it.
        mean("ef195;ef1510;b010;c000;", 7, 1);
        mean("ef195;ef1510;b010;c001;", 13, 2);
        mean("hs;ef195;b000;c001;", -1, 2);
        mean("hs;ef095;b000;c009;", 0, 1);
    }

    private static void meanChances() {
        CHECK.sentence("CHANCE (1 .. 10 tenths that he comes)");
        mean("ef1910;ef1510;b010;c000;", 9, 1);
        mean("ef191;ef1510;b010;c000;", 27, 5);
        mean("ef1910;ef151;b010;c000;", 9, 1);
        AlwaysYesterdays sure = Check.of("ec3910;eh2910;b041;s401;");
        due("all come surely, mean(0)", sure.mean(0), sure.dayOn());
        due("mean(1)", sure.mean(1), 1);
    }

    private static void meanToday() {
        CHECK.sentence("VALUE of today alone");
        mean("b060;wxoooooo;", 0, 1);
        mean("b060;woxooooo;", -24, 1);
        mean("b000;d;d;d;d;d;ea115;s001;", 0, 1);
        mean("b000;d;d;d;d;d;ea125;s001;c000;", 1, 2);
        AlwaysYesterdays x = Check.of("ee395;s402;");
        String was = Check.household(x);
        x.mean(0);
        x.mean(1);
        CHECK.that("nothing changes", was.equals(Check.household(x)));
    }

    private static void meanPart() {
        CHECK.sentence("MEAN, part 0 above, 1 below the line. Refused as told: -2.");
        AlwaysYesterdays x = Check.of("ef111;b000;");
        for (int part : new int[] {-1, 2, LOW, HIGH}) {
            due("mean(" + part + ")", x.mean(part), 4000000000000000002L);
        }
        due("REFUSALS, all -2", x.count(12) * 10 + Check.refusals(x), 44);
        due("mean(0)", x.mean(0), -3);
        due("mean(1)", x.mean(1), 10);
    }

    private static void likesFreshest() {
        CHECK.sentence("LIKES: the AGE that is worth most to an EATER, of alike ones the freshest (-9 none he eats)");
        for (char kind : "efcpha".toCharArray()) {
            for (int base = 0; base < 10; base++) {
                AlwaysYesterdays x = Check.of("e" + kind + "1" + base + "1;");
                due("likes(0), KIND " + kind + ", BASE " + base, x.likes(0), kind == 'c' ? 3 : 0);
            }
        }
        due("AWAY on day 6, BASE 1: both worth nothing", Check.of("d;d;d;d;d;d;ea111;").likes(0), 0);
        due("whatever bread there is", Check.of("ee191;b000;s401;").likes(0), 0);
    }

    private static void likesNobody() {
        CHECK.sentence("LIKES: the AGE; -9. -1.");
        AlwaysYesterdays nobody = new AlwaysYesterdays();
        due("nobody", nobody.likes(0), -1);
        AlwaysYesterdays x = Check.of("ee111;ee111;ee111;ec111;");
        due("the last EATER", x.likes(3), 3);
        for (int e : new int[] {-1, 4, LOW, HIGH}) {
            due("likes(" + e + ")", x.likes(e), -1);
        }
        due("REFUSALS, all -1", x.count(11) * 10 + Check.refusals(x), 44);
    }

    private static void whoseLeast() {
        CHECK.sentence("who of all has the most worth for a SLICE of an AGE, of several the least");
        AlwaysYesterdays alike = Check.of("ee151;ef151;ep151;ec151;");
        int[] want = {0, 0, 0, 3, 3};
        for (int age = 0; age < 5; age++) {
            due("whose(" + age + ")", alike.whose(age), want[age]);
        }
        due("1 and 3 alike", Check.of("ee141;ef151;ep131;ec151;").whose(0), 1);
        due("all worth nothing", Check.of("ee101;ee101;").whose(4), 0);
        due("the last alone eats it", Check.of("ef191;ef191;ef191;ee101;").whose(1), 3);
        due("AWAY on day 4", Check.of("d;d;d;d;ea191;ef181;").whose(0), 0);
        due("AWAY on day 5, alike", Check.of("d;d;d;d;d;ea191;ef181;").whose(0), 0);
        due("AWAY on day 5", Check.of("d;d;d;d;d;ea191;ef191;").whose(0), 1);
    }

    private static void whoseNobody() {
        CHECK.sentence("of several the least (-9 nobody eats it)");
        AlwaysYesterdays nobody = new AlwaysYesterdays();
        AlwaysYesterdays x = Check.of("ef191;ep191;ea191;");
        for (int age = 0; age < 5; age++) {
            due("nobody, whose(" + age + ")", nobody.whose(age), -9);
            due("whose(" + age + ")", x.whose(age), age == 0 ? 0 : age == 1 ? 1 : -9);
        }
        due("-9 is no REFUSAL", Check.refusals(x) + Check.refusals(nobody), 0);
    }

    private static void whoseAge() {
        CHECK.sentence("LIKES: who; -9. -1.");
        AlwaysYesterdays nobody = new AlwaysYesterdays();
        for (int age : new int[] {-1, 5, LOW, HIGH}) {
            due("whose(" + age + ")", nobody.whose(age), -1);
        }
        due("REFUSALS, all -1", nobody.count(11) * 10 + Check.refusals(nobody), 44);
    }

    private static void share(String house, int want) {
        due("share() of " + house, Check.of(house).share(), want);
    }

    private static void shareNothingThere() {
        CHECK.sentence("SHARE: STOCK as it is (nothing bought)");
        due("nobody, no bread", new AlwaysYesterdays().share(), 0);
        share("ee991;b300;", 0);
        share("s060;s460;", 0);
        share("ee991;b300;s401;", 5);
    }

    private static void shareFirstSix() {
        CHECK.sentence("the first 6 SLICES (the freshest first; fewer, if there are)");
        int[] there = {0, 1, 5, 6, 7, 8, 60};
        int[] want = {0, 1, 5, 6, 6, 6, 6};
        for (int i = 0; i < there.length; i++) {
            AlwaysYesterdays x = Check.of("eh111;eh111;eh111;eh111;");
            x.stock(2, there[i]);
            due("share() of " + there[i], x.share(), want[i]);
        }
    }

    private static void shareFreshestFirst() {
        CHECK.sentence("(the freshest first;");
        share("ec191;ec191;ec191;s006;s460;", 6 * 9);
        share("ec191;ec191;ec191;s005;s460;", 5 * 9 + 10);
        share("ec191;ec191;ec191;s460;", 6 * 10);
        share("ec191;s106;s401;", 2 * 8);
        share("ec191;s105;s401;", 8 + 10);
        share("ec191;s001;s101;s201;s301;s401;", 10 + 10);
    }

    private static void shareTwoEach() {
        CHECK.sentence("at most 2 to each");
        int[] want = {0, 9, 18, 18, 18};
        for (int there = 0; there < 5; there++) {
            AlwaysYesterdays x = Check.of("ee191;");
            x.stock(0, there);
            due("share() of " + there, x.share(), want[there]);
        }
        share("ee191;ee181;ee171;s006;", 18 + 16 + 14);
        share("ee191;ee181;ee171;ee161;s006;", 18 + 16 + 14);
        share("ee191;s001;s101;s201;", 9 + 8);
        share("ee191;ee181;s001;s101;s201;s301;s401;", 9 + 8 + 6 + 5);
        // He who eats both leaves the fresh ones to him who eats no other.
        share("ee191;ef181;s002;s102;", 16 + 16);
        share("ef181;ee191;s002;s102;", 16 + 16);
    }

    private static void shareHunger() {
        CHECK.sentence("whatever HUNGER");
        share("ee091;s006;", 18);
        share("ee991;s006;", 18);
        share("ee191;s006;hs;", 18);
        share("ee191;s003;ht;", 18);
    }

    private static void shareToNobody() {
        CHECK.sentence("or to nobody: the most worths together.");
        share("ef191;s106;", 0);
        share("ef191;s001;s160;", 9);
        share("ep191;s001;s101;s204;", 9 + 4);
        share("ee101;s006;", 0);
        // The first 6 are those of AGE 1, though nobody takes them.
        share("ef191;s106;s460;", 0);
    }

    private static void shareAsItIs() {
        CHECK.sentence("STOCK as it is");
        share("b000;d;d;d;d;ea191;s002;", 18);
        share("b000;d;d;d;d;d;ea191;s002;", 16);
        AlwaysYesterdays x = Check.of("ee991;s006;");
        x.share();
        due("all SLICES", x.count(2), 6);
        due("share() again", x.share(), 18);
        x.stock(0, 1);
        due("share() of one", x.share(), 9);
        x.stock(0, 0);
        due("share() of none", x.share(), 0);
    }

    private static void rowLeastAndGreatest() {
        CHECK.sentence("A number more of the ROW (0 .. 99): how many. -4; -6 (99; 20, too).");
        AlwaysYesterdays x = new AlwaysYesterdays();
        due("row(-1)", x.row(-1), -4);
        due("row(LOW)", x.row(LOW), -4);
        due("row(100)", x.row(100), -6);
        due("row(HIGH)", x.row(HIGH), -6);
        due("in the ROW", x.count(7), 0);
        due("row(0)", x.row(0), 1);
        due("row(99)", x.row(99), 2);
        due("REFUSALS -4, -6", x.count(14) * 10 + x.count(16), 22);
    }

    private static void rowOfTwenty() {
        CHECK.sentence("-6 (99; 20, too).");
        AlwaysYesterdays x = new AlwaysYesterdays();
        for (int i = 1; i <= 20; i++) {
            due("number " + i, x.row(0), i);
        }
        due("one more", x.row(0), -6);
        due("one more above 99", x.row(100), -6);
        due("one more below 0: BELOW goes first", x.row(-1), -4);
        due("in the ROW", x.count(7), 20);
        due("REFUSALS -4, -6", x.count(14) * 10 + x.count(16), 12);
        x.judge();
        due("room again", x.row(5), 1);
    }

    private static int bottles(int n, int... numbers) {
        AlwaysYesterdays x = new AlwaysYesterdays();
        Check.row(x, numbers);
        int most = x.bottles(n);
        due("the ROW stays", x.count(7), numbers.length);
        due("and answers the same", x.bottles(n), most);
        return most;
    }

    private static void bottlesDays() {
        CHECK.sentence("BOTTLES (the ROW stays). -4 below 1; -6 6; -3 the ROW has not threes, or more than 18.");
        AlwaysYesterdays x = new AlwaysYesterdays();
        for (int many = 0; many < 2; many++) {
            due("bottles(0)", x.bottles(0), -4);
            due("bottles(-1)", x.bottles(-1), -4);
            due("bottles(LOW)", x.bottles(LOW), -4);
            due("bottles(7)", x.bottles(7), -6);
            due("bottles(HIGH)", x.bottles(HIGH), -6);
            due("bottles(1)", x.bottles(1), many == 0 ? 0 : -3);
            due("bottles(6)", x.bottles(6), many == 0 ? 0 : -3);
            x.row(0);
        }
        due("REFUSALS -3, -4, -6", x.count(13) * 100 + x.count(14) * 10 + x.count(16), 264);
    }

    private static void bottlesNone() {
        CHECK.sentence("BOTTLES: 0 .. 5 as told in a ROW");
        for (int n = 1; n <= 6; n++) {
            due("no bottle", bottles(n), 0);
            due("one bottle", bottles(n, 0, 0, 7), 7);
            due("six bottles, one a day", bottles(n, 0, 5, 9, 0, 5, 9, 0, 5, 9, 0, 5, 9, 0, 5, 9, 0, 5, 9), 9 * n);
        }
    }

    private static void bottlesThrees() {
        CHECK.sentence("-3 the ROW has not threes, or more than 18.");
        AlwaysYesterdays x = new AlwaysYesterdays();
        for (int many = 1; many <= 20; many++) {
            x.row(many % 3 == 0 ? 9 : 0);
            due("a ROW of " + many, x.bottles(1), many % 3 == 0 ? 9 : -3);
        }
        due("in the ROW", x.count(7), 20);
        due("REFUSALS, all -3", x.count(13) * 100 + Check.refusals(x), 1414);
    }

    private static void bottlesFromTo() {
        CHECK.sentence("each is opened on one of n DAYS 0 .. n less 1 (n 1 .. 6), at FROM to TO");
        for (int n = 1; n <= 6; n++) {
            for (int from = 0; from <= 7; from++) {
                for (int to = 0; to <= 7; to++) {
                    int want = from <= to && from < n ? 4 : 0;
                    due("FROM " + from + " TO " + to + ", n " + n, bottles(n, from, to, 4), want);
                }
            }
            due("FROM 99", bottles(n, 99, 99, 4), 0);
            due("TO 99", bottles(n, n - 1, 99, 4), 4);
        }
    }

    private static void bottlesOneADay() {
        CHECK.sentence("one a day at most: the most WORTHS together.");
        due("the same day", bottles(6, 5, 5, 1, 5, 5, 3, 5, 5, 2), 3);
        due("two days beside one another", bottles(6, 4, 4, 1, 5, 5, 3), 4);
        due("he who may, moves", bottles(2, 0, 1, 9, 0, 0, 1), 10);
        due("he who may, moves, told last", bottles(2, 0, 0, 1, 0, 1, 9), 10);
        due("three for two days: not the least", bottles(2, 0, 1, 5, 0, 1, 6, 0, 1, 7), 13);
        due("a chain", bottles(6, 0, 1, 1, 1, 2, 1, 2, 3, 1, 3, 4, 1, 4, 5, 1, 5, 5, 1), 6);
    }

    private static void bottlesMost() {
        CHECK.sentence("by threes FROM, TO, WORTH");
        int[] all = new int[18];
        for (int i = 0; i < 18; i += 3) {
            all[i] = i / 3;
            all[i + 1] = i / 3;
            all[i + 2] = 99;
        }
        due("the greatest", bottles(6, all), 594);
        due("WORTH 0", bottles(6, 0, 5, 0), 0);
        due("WORTH 0 beside 1", bottles(1, 0, 5, 0, 0, 5, 1), 1);
    }

    private static void fitsEmpty() {
        CHECK.sentence("FITS (bits; the ROW stays).");
        due("an empty ROW", new AlwaysYesterdays().fits(), 63);
        due("an empty ROW, bread and EATERS", Check.of("ee991;s460;ht;").fits(), 63);
        AlwaysYesterdays x = new AlwaysYesterdays();
        x.row(0);
        due("fits()", x.fits(), 63);
        due("the ROW stays", x.count(7), 1);
        due("the KIND stays", x.count(5), 0);
        x.row(1);
        due("the second is not so", x.fits(), 0);
    }

    private static void fitsTwenty() {
        CHECK.sentence("FITS: the ROW as what was thrown on DAYS one behind the other");
        AlwaysYesterdays x = Check.of("s403;");
        int[] thrown = {3, 0, 0, 0, 6, 6, 6, 6, 6, 6, 6, 6, 6, 6, 6, 6, 6, 6, 6};
        Check.row(x, thrown);
        due("19 DAYS", x.fits(), 63);
        x.row(6);
        due("20 DAYS", x.fits(), 63);
        x.judge();
        Check.row(x, thrown);
        x.row(5);
        due("the 20th is not so", x.fits(), 0);
        AlwaysYesterdays most = Check.of("b000;s460;");
        most.row(60);
        due("60 thrown", most.fits(), 63);
        most.judge();
        most.row(99);
        due("99 can't be", most.fits(), 0);
    }

    private static void fitsThrown() {
        CHECK.sentence("KINDS of HOUSES (bits) by which it is so from now.");
        // OLD and THRIFTY eat 2 of AGE 4, STINGY 1; NEW the fresh ones; MIX and, on an even DAY, BOTH a CRUST's best.
        String house = "ec291;b000;s003;s403;";
        int[] want = {0, 1 + 4 + 8 + 16, 32, 2, 0};
        for (int thrown = 0; thrown < 5; thrown++) {
            AlwaysYesterdays even = Check.of(house);
            even.row(thrown);
            due("even DAY, thrown " + thrown, even.fits(), want[thrown]);
            AlwaysYesterdays odd = Check.of("d;" + house + "s100;");
            odd.row(thrown);
            due("odd DAY, thrown " + thrown, odd.fits(), thrown == 1 ? 1 + 4 + 8 : thrown == 3 ? 2 + 16 : want[thrown]);
        }
    }

    private static void judgedEmpty() {
        CHECK.sentence("JUDGED; -9 (whichever it answers, the ROW has none then).");
        due("an empty ROW", new AlwaysYesterdays().judge(), -9);
        due("an empty ROW, much EATEN", Check.of("ee991;").judge(), -9);
        AlwaysYesterdays x = Check.of("ee391;b000;s403;");
        int[][] rows = {{4, 4, 4}, {4, 4, 4, 4}, {4, 3}, {0}, {99}};
        int[] want = {-9, 3, 1, 0, 0};
        for (int i = 0; i < rows.length; i++) {
            Check.row(x, rows[i]);
            due("judge(), row " + i, x.judge(), want[i]);
            due("the ROW has none then", x.count(7), 0);
            due("judge() again", x.judge(), -9);
        }
        due("-9 is no REFUSAL", Check.refusals(x), 0);
        due("nothing is eaten by it", x.count(2), 3);
        due("DAY", x.count(1), 0);
    }

    private static void judgedBeyond() {
        CHECK.sentence("(or beyond what is EATEN); -9.");
        AlwaysYesterdays nobody = Check.of("s060;");
        nobody.row(0);
        due("nobody eats", nobody.judge(), 0);
        AlwaysYesterdays bare = Check.of("ee991;b000;");
        bare.row(0);
        due("no bread", bare.judge(), 0);
        AlwaysYesterdays x = Check.of("ef191;ee191;b010;s401;");
        Check.row(x, 0, 4);
        due("both EATERS", x.judge(), -9);
        Check.row(x, 0);
        due("fewer than are EATEN", x.judge(), -9);
        Check.row(x, 0, 4, 4);
        due("one beyond", x.judge(), 2);
        Check.row(x, 0, 4, 99, 0);
        due("two beyond", x.judge(), 2);
        AlwaysYesterdays daily = Check.of("ef191;");
        Check.row(daily, 0, 0);
        due("tomorrow's is beyond today", daily.judge(), 1);
    }

    private static void judgedFirst() {
        CHECK.sentence("JUDGED: the ROW as AGES that are EATEN today, one behind the other: the first that is not so");
        AlwaysYesterdays x = Check.of("ee591;b000;s001;s101;s201;s301;s401;");
        int[] eaten = {4, 3, 2, 1, 0};
        for (int wrong = 0; wrong < 5; wrong++) {
            for (int i = 0; i < 5; i++) {
                x.row(i == wrong ? 5 : eaten[i]);
            }
            due("number " + wrong + " is not so", x.judge(), wrong);
        }
        Check.row(x, 4, 0, 0, 0, 0);
        due("of several the first", x.judge(), 1);
        AlwaysYesterdays today = Check.of("b010;d;b000;ee291;");
        Check.row(today, 1);
        due("what was fresh yesterday", today.judge(), -9);
    }

    private static void judgedTwenty() {
        CHECK.sentence("the first that is not so");
        AlwaysYesterdays x = Check.of("ee991;ee991;ee291;b000;s460;");
        for (int i = 0; i < 20; i++) {
            x.row(4);
        }
        due("all 20 are so", x.judge(), -9);
        for (int i = 0; i < 19; i++) {
            x.row(4);
        }
        x.row(3);
        due("the 20th is not", x.judge(), 19);
        AlwaysYesterdays fewer = Check.of("ee991;ee991;ee191;b000;s460;");
        for (int i = 0; i < 20; i++) {
            fewer.row(4);
        }
        due("19 are EATEN, the 20th is beyond", fewer.judge(), 19);
    }

    private static void lotsYears() {
        CHECK.sentence("LOTS. -4; -6 20.");
        AlwaysYesterdays x = Check.of("ee191;");
        String was = Check.household(x);
        due("lots(0, 0)", x.lots(0, 0), -4);
        due("lots(-1, 5)", x.lots(-1, 5), -4);
        due("lots(LOW, LOW)", x.lots(LOW, LOW), -4);
        due("lots(21, 0)", x.lots(21, 0), -6);
        due("lots(HIGH, HIGH)", x.lots(HIGH, HIGH), -6);
        due("REFUSALS -4, -6", x.count(14) * 10 + x.count(16), 32);
        CHECK.that("the least and the greatest are answered", x.lots(1, 0) >= 0 && x.lots(20, 0) >= 0);
        CHECK.that("nothing changes", was.equals(Check.household(x)));
    }

    private static void lotsNobody() {
        CHECK.sentence("n years (1 .. 20) of 28 DAYS each from now");
        // Of 28 DAYS' 6 those of the first 24 are thrown in the year, and the 5 that are there.
        AlwaysYesterdays x = Check.of("s405;");
        for (int n = 1; n <= 20; n++) {
            due("nobody, lots(" + n + ", 0)", x.lots(n, 0), n * (5 + 24 * 6));
            due("nobody, lots(" + n + ", LOW)", x.lots(n, LOW), n * (5 + 24 * 6));
        }
        due("no bread", Check.of("ee991;b000;").lots(20, 3), 0);
        due("never OPEN", Check.of("ee991;wxxxxxxx;").lots(20, 3), 0);
    }

    /** The DRAW of one EATER on the first DAY, for all bread is of AGE 4 then. */
    private static int drawn(int hunger, int z) {
        AlwaysYesterdays x = Check.of("ee" + hunger + "51;b000;s460;");
        return 60 - x.lots(1, z);
    }

    /** z is told so that it has become this when the first DRAW is made. */
    private static void draw(int hunger, int z, long becomes, int want) {
        due("z of the test", z * 1664525 + 1013904223, (int) becomes);
        due("a DRAW from " + becomes + " below " + hunger + " and 3", drawn(hunger, z), want);
    }

    private static void lotsDrawBelow() {
        CHECK.sentence("with a HUNGER that is a DRAW below (HUNGER and 3)");
        draw(0, 634785765, 0, 0);
        draw(0, 103732453, 256, 1);
        draw(0, -427320859, 512, 2);
        draw(0, -939522528, 767, 2);
        draw(0, -958374171, 768, 0);
        draw(9, 634785765, 0, 0);
        draw(9, -911833371, 2816, 11);
        draw(9, -1424035040, 3071, 11);
        draw(9, -1442886683, 3072, 0);
    }

    private static void lotsWithoutSign() {
        CHECK.sentence("(z without its sign's bit by 256, cut) modulo m.");
        draw(9, 122584096, 0xff, 0);
        draw(9, 103732453, 0x100, 1);
        draw(9, -1512697883, 0x80000000L, 0);
        draw(9, -2024899552, 0x800000ffL, 0);
        draw(9, -2043751195, 0x80000100L, 1);
        // 8388607 is 699050 times 12 and 7; 2796202 times 3 and 1.
        draw(9, -1493846240, 0x7fffffffL, 7);
        draw(9, 653637408, 0xffffffffL, 7);
        draw(0, -1493846240, 0x7fffffffL, 1);
        draw(0, 653637408, 0xffffffffL, 1);
    }

    private static void lotsWrapRound() {
        CHECK.sentence("z becomes z times 1664525 and 1013904223 (an int)");
        for (int z : new int[] {0, 1, -1, LOW, HIGH, LOW + 1, HIGH - 1, 1 << 30, -(1 << 30), 123456789}) {
            long becomes = Math.floorMod(z * 1664525L + 1013904223L, 1L << 32);
            due("z " + z, drawn(9, z), becomes % (1L << 31) / 256 % 12);
            due("z " + z, drawn(4, z), becomes % (1L << 31) / 256 % 7);
        }
    }

    /** What the DRAWS are, one behind the other, by HUNGERS that come round. */
    private static int[] draws(int z, int many, int... hungers) {
        int[] draws = new int[many];
        long now = z;
        for (int i = 0; i < many; i++) {
            now = Math.floorMod(now * 1664525L + 1013904223L, 1L << 32);
            draws[i] = (int) (now % (1L << 31) / 256 % (hungers[i % hungers.length] + 3));
        }
        return draws;
    }

    private static void lotsEachOnEach() {
        CHECK.sentence("each EATER on each DAY with a HUNGER that is a DRAW");
        for (int z : new int[] {0, 7, -5, LOW, HIGH}) {
            int[] d = draws(z, 8, 9, 4);
            due("two EATERS, one DAY", Check.of("ee951;ee451;b000;s460;").lots(1, z), 60 - d[0] - d[1]);
            due("the first eats none of it, but draws", Check.of("ef951;ee451;b000;s460;").lots(1, z), 60 - d[1]);
            due("two DAYS", Check.of("ee951;ee451;b000;s360;").lots(1, z), 60 - d[0] - d[1] - d[2] - d[3]);
            due("a DAY on which there is nothing to eat counts, too",
                Check.of("ef951;ee451;b000;s360;").lots(1, z), 60 - d[1] - d[3]);
            int stingy = Math.max(0, d[0] - 1) + Math.max(0, d[1] - 1);
            due("STINGY", Check.of("ee951;ee451;b000;s460;hs;").lots(1, z), 60 - stingy);
            due("CHANCE does not matter", Check.of("ee9510;ee4510;b000;s460;").lots(1, z), 60 - d[0] - d[1]);
        }
    }

    private static void lotsGoOn() {
        CHECK.sentence("all THROWN together.");
        int[] d = draws(-99, 28 * 20, 9);
        AlwaysYesterdays x = Check.of("ee951;b000;s460;");
        int want = 0;
        for (int n = 1; n <= 20; n++) {
            want += 60 - d[28 * (n - 1)];
            due("lots(" + n + ", -99)", x.lots(n, -99), want);
        }
    }

    private static void noImage() {
        CHECK.sentence("ON from it: DAY. -3 there is none.");
        AlwaysYesterdays x = Check.of("ee191;d;");
        String was = Check.household(x);
        due("on()", x.on(), -3);
        due("on() again", x.on(), -3);
        due("REFUSALS, all -3", x.count(13) * 10 + Check.refusals(x), 22);
        CHECK.that("nothing changes", was.equals(Check.household(x)));
        due("image()", x.image(), 1);
        due("on()", x.on(), 1);
        due("REFUSALS, all -3", x.count(13), 2);
    }

    private static void imageKeeps() {
        CHECK.sentence("THE IMAGE: all that there is");
        AlwaysYesterdays x = Check.of("ec375;ep212;s001;s102;s203;s304;s405;wxoxoxox;b123;hm;c456;d;");
        due("image()", x.image(), 1);
        String was = Check.household(x);
        Check.tell(x, "ee991;ef991;s060;s160;s260;s360;s460;wooooooo;b300;hs;c000;d;d;");
        due("EATERS", x.count(0), 4);
        due("on()", x.on(), 1);
        CHECK.that("all is as then", was.equals(Check.household(x)));
        due("there is room for EATERS again", Check.tell(x, "eh111;eh111;"), 2);
        due("the third is an other than before", x.eater(2, 0), 4);
        x.dayOn();
        due("on() once more", x.on(), 1);
        CHECK.that("all is as then", was.equals(Check.household(x)));
        due("no third EATER", x.eater(2, 0), -1);
    }

    private static void imageLeavesOut() {
        CHECK.sentence("but it, the ROW, letters, REFUSALS; ON from it all is as then.");
        AlwaysYesterdays x = new AlwaysYesterdays();
        Check.row(x, 1, 2);
        x.letter('h');
        x.set(9, 9);
        x.image();
        x.row(3);
        x.letter('n');
        x.letter(';');
        x.set(9, 9);
        x.stock(9, 0);
        x.on();
        due("in the ROW", x.count(7), 3);
        due("letters", x.count(8), 3);
        due("REFUSALS -2", x.count(12), 2);
        due("REFUSALS -1", x.count(11), 1);
        due("the letters are as told", x.house(), 1);
        due("the KIND", x.count(5), 1);
        due("on()", x.on(), 0);
        due("the KIND as then", x.count(5), 0);
        x.judge();
        x.on();
        due("no ROW comes back", x.count(7), 0);
    }

    private static void imageOfEmptiness() {
        CHECK.sentence("THE IMAGE is taken: DAY.");
        AlwaysYesterdays x = new AlwaysYesterdays();
        due("image()", x.image(), 0);
        String was = Check.household(x);
        Check.tell(x, "ee111;s401;d;");
        due("on()", x.on(), 0);
        CHECK.that("nobody, no bread", was.equals(Check.household(x)));
    }

    private static void imageAnew() {
        CHECK.sentence("THE IMAGE is taken: DAY. ## Promise 30: on `int on()`: ON from it: DAY.");
        AlwaysYesterdays x = Check.of("b000;");
        for (int day = 0; day < 20; day++) {
            due("image()", x.image(), day);
            x.dayOn();
            due("DAY", x.count(1), day + 1);
            due("on()", x.on(), day);
            due("DAY", x.count(1), day);
            x.dayOn();
        }
        due("on() from the last", x.on(), 19);
        due("on() again", x.on(), 19);
    }

    private static void refusalsTold() {
        CHECK.sentence("Of dayOn(), total(), pays() REFUSALS are 1000000000 less them (-1 is told as 1000000001)");
        AlwaysYesterdays x = new AlwaysYesterdays();
        due("total(-1, 0)", x.total(-1, 0), 1000000004);
        due("total(29, 0)", x.total(29, 0), 1000000006);
        due("total(0, 6)", x.total(0, 6), 1000000002);
        due("pays(-1)", x.pays(-1), 1000000004);
        due("pays(29)", x.pays(29), 1000000006);
        due("mean(2)", x.mean(2), 4000000000000000002L);
        int[] counted = {0, 2, 0, 2, 0, 2};
        for (int i = 0; i < 6; i++) {
            due("count(" + (11 + i) + ")", x.count(11 + i), counted[i]);
        }
    }

    private static void refusalsCounted() {
        CHECK.sentence("nothing changes but how many there were");
        AlwaysYesterdays x = new AlwaysYesterdays();
        for (int i = 1; i <= 60; i++) {
            x.likes(0);
            due("REFUSALS -1", x.count(11), i);
            x.on();
            due("REFUSALS -3", x.count(13), i);
        }
        due("REFUSALS in all", Check.refusals(x), 120);
    }

    private static void countWhat() {
        CHECK.sentence("11 .. 16 REFUSALS -1 .. -6. -9 for another what.");
        AlwaysYesterdays x = new AlwaysYesterdays();
        for (int what : new int[] {-1, 9, 10, 17, -9, -11, LOW, HIGH, LOW + 11, 11 + (1 << 16)}) {
            due("count(" + what + ")", x.count(what), -9);
        }
        due("-9 is no REFUSAL", Check.refusals(x), 0);
    }

    private static void countNothing() {
        CHECK.sentence("0 EATERS, 1 DAY, 2 all SLICES, 3 BUY, 4 how many days are OPEN");
        AlwaysYesterdays x = Check.of("b000;wxxxxxxx;");
        for (int what : new int[] {0, 1, 2, 3, 4, 5, 6, 7, 8, 11, 12, 13, 14, 15, 16}) {
            due("count(" + what + ")", x.count(what), 0);
        }
    }

    private static void countAll() {
        CHECK.sentence("5 the KIND of HOUSE, 6 all HUNGER, 7 in the ROW, 8 letters");
        AlwaysYesterdays x = Check.of("ee991;ee991;ee991;ee991;b300;hs;");
        for (int age = 0; age < 5; age++) {
            x.stock(age, 60);
        }
        for (int i = 0; i < 20; i++) {
            x.row(99);
        }
        for (int i = 0; i < 96; i++) {
            x.letter(255);
        }
        int[] want = {4, 0, 300, 30, 7, 5, 36, 20, 96};
        for (int what = 0; what < want.length; what++) {
            due("count(" + what + ")", x.count(what), want[what]);
        }
    }
}
