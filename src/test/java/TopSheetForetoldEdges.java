/** The boundaries of what is FORETOLD (section 3; promises 16 to 22): a test for each sentence. */
public final class TopSheetForetoldEdges extends Check {
    private static final String[] NO_GUSTS = {"-1", "10", "11", "-9", "" + MIN, "" + MAX};

    public static void main(String[] args) {
        takenBy0To9();
        takenUpToStonesAndSlates();
        takenOfAllSixteen();
        takenRefused();
        foretoldChangesNothing();
        meanOf1To3();
        meanUpToQuarter11();
        meanIn0By1();
        meanInLowestTerms();
        meanAtItsGreatest();
        meanRefused();
        ordersOf7AtMost();
        orderOfAll7();
        orderOfNone();
        firstByNumbers();
        orderAndStones();
        orderAndSlates();
        orderRefused();
        coverWithinItsRoom();
        coverOfNothing();
        coverByBlanksThatLie();
        coverAndStones();
        coverAndSlates();
        coverRefused();
        lendOfNone();
        lendLeastAndLowest();
        lendBelow0();
        lendWithoutRoom();
        lendRefused();
        beachOfNone();
        beachOfSixteen();
        beachGustByGust();
        beachJustThat();
        beachPlaces();
        beachItems();
        beachRefused();
        windowThirdFromAbove();
        windowAndStones();
        windowAndSlates();
        windowRefused();
        end("the edges of what is foretold hold");
    }

    private static String bills(int many, int desk) {
        return ("sheet bill " + desk + " 1 12;").repeat(many);
    }

    // TAKEN by n GUSTS (0 to 9)

    private static void takenBy0To9() {
        TopSheet x = officeOf(ALWAYS + "desk 9 0;" + bills(9, 0));
        int set = 0;
        for (int n = 0; n <= 9; n++) {
            due("taken by " + n, x.taken(n, 0), set);
            due("lost by " + n, x.taken(n, 1), n);
            set |= 1 << Math.max(0, 8 - n);
        }
        due("all nine", x.taken(9, 0), 511);
        TopSheet y = officeOf(ALWAYS + "desk 9 0;desk 9 0;" + bills(2, 1));
        due("more gusts than sheets", y.taken(9, 0), 3);
        due("just as many", y.taken(2, 0), 3);
        due("none lie", officeOf(ALWAYS + "desk 9 0;").taken(9, 0), 0);
    }

    private static void takenUpToStonesAndSlates() {
        for (int stones = 0; stones <= 3; stones++) {
            TopSheet x = officeOf(ALWAYS + "desk 9 " + stones + ";" + bills(5, 0));
            for (int n = 0; n <= 9; n++) {
                due(stones + " stones, " + n + " gusts", x.taken(n, 1), Math.min(n, 5 - stones));
            }
        }
        TopSheet y = officeOf(NEVER + "desk 9 0;" + bills(2, 0) + "sheet slate 0 50 12;" + bills(2, 0));
        for (int n = 0; n <= 9; n++) {
            due("a slate third, " + n + " gusts", y.taken(n, 1), Math.min(n, 2));
        }
        due("nothing below it", y.taken(9, 0), 8 | 16);
    }

    private static void takenOfAllSixteen() {
        TopSheet x = officeOf(NEVER + "desk 4 0;desk 4 0;desk 4 0;desk 4 0;");
        for (int k = 0; k < 16; k++) {
            x.blank(k % 4);
        }
        due("one of each", x.taken(1, 0), 0xF000);
        due("two of each", x.taken(2, 0), 0xFF00);
        due("all", x.taken(4, 0), 0xFFFF);
        due("of no worth", x.taken(9, 1), 0);
    }

    // BAD; STATE: no OFFICE (ahead of BAD)

    private static void takenRefused() {
        TopSheet none = new TopSheet();
        TopSheet x = officeOf(ALWAYS + "desk 9 0;" + bills(1, 0));
        for (int what = 0; what <= 1; what++) {
            for (String n : NO_GUSTS) {
                due("taken(" + n + "," + what + ")", x.taken(Integer.parseInt(n), what), BAD);
                due("taken(" + n + "," + what + "), no office", none.taken(Integer.parseInt(n), what), STATE);
            }
            due("no office", none.taken(0, what), STATE);
        }
        for (int what : new int[] {-1, 2, 3, MIN, MAX}) {
            due("taken(1," + what + ")", x.taken(1, what), BAD);
            due("taken(1," + what + "), no office", none.taken(1, what), STATE);
        }
    }

    // nothing changes, all lies as it does

    private static void foretoldChangesNothing() {
        TopSheet x = officeOf(ALWAYS + "desk 9 0;desk 9 0;sheet will 0 7 1;sheet bill 0 3 1;sheet slate 1 2 1;"
            + "sheet bill 1 1 1;");
        for (int n = 0; n <= 9; n++) {
            x.taken(n, 0);
            x.mean(Math.min(3, n), 0);
            x.order(0, n, -1);
            x.order(1, n, 0);
            x.cover(0, n);
            x.cover(1, n);
        }
        x.lend(0, 1);
        x.lend(1, 0);
        x.window();
        pile("foretold", x, 0, 0, 1);
        pile("foretold", x, 1, 2, 3);
        due("gone", x.count(5), 0);
        due("sheets", x.count(2), 4);
        due("quarter", x.count(3), 0);
        due("acts", x.count(4), 0);
        due("met", x.sheet(0, 4), 0);
    }

    // MEAN of the next n QUARTERS (1 to 3, up to QUARTER 11)

    private static void meanOf1To3() {
        TopSheet x = officeOf("wind 20 50 100 0 0 0 0 0 0 0 0 0;desk 9 0;sheet bill 0 40 12;sheet bill 0 20 12;"
            + "sheet bill 0 10 12;");
        mean("one: 10 of 5", x, 1, 2, 1);
        // 1/2 * 10 + 1/10 * (10 + 20) by cases: .5 of one, .1 of two.
        mean("two", x, 2, 8, 1);
        // .4 of one, .5 of two, .1 of three: 4 + 15 + 7.
        mean("three", x, 3, 26, 1);
        for (int n : new int[] {0, -1, 4, 5, 12, MIN, MAX}) {
            due("mean(" + n + ",0)", x.mean(n, 0), BAD);
            due("mean(" + n + ",1)", x.mean(n, 1), BAD);
        }
    }

    private static void mean(String what, TopSheet x, int n, int above, int below) {
        due("mean of " + what + ", above", x.mean(n, 0), above);
        due("mean of " + what + ", below", x.mean(n, 1), below);
    }

    private static void meanUpToQuarter11() {
        TopSheet x = officeOf("wind 0 0 0 0 0 0 0 0 0 100 50 25;desk 9 0;" + bills(3, 0));
        for (int q = 0; q <= 12; q++) {
            for (int n = 1; n <= 3; n++) {
                boolean beyond = q + n > 12;
                due("mean(" + n + ",0) in quarter " + q, x.mean(n, 0) == BAD ? 1 : 0, beyond ? 1 : 0);
                due("mean(" + n + ",1) in quarter " + q, x.mean(n, 1) == BAD ? 1 : 0, beyond ? 1 : 0);
            }
            if (q == 8) {
                mean("8 to 10", x, 3, 3, 2);
            }
            if (q == 9) {
                mean("9 to 11", x, 3, 7, 4);
            }
            if (q == 10) {
                mean("10 and 11", x, 2, 3, 4);
            }
            if (q == 11) {
                mean("11", x, 1, 1, 4);
            }
            // A rest of 99: no gust, but by a wind of 100.
            x.quarter(57);
        }
        due("the one gust", x.count(5), 1);
    }

    // (0 is 0 by 1)

    private static void meanIn0By1() {
        for (int n = 1; n <= 3; n++) {
            mean("no wind", officeOf(NEVER + "desk 9 0;" + bills(3, 0)), n, 0, 1);
            mean("none lie", officeOf(ALWAYS + "desk 9 0;"), n, 0, 1);
            mean("of no worth", officeOf(ALWAYS + "desk 9 0;sheet bill 0 0 12;"), n, 0, 1);
            mean("stones", officeOf(ALWAYS + "desk 9 3;" + bills(3, 0)), n, 0, 1);
            mean("a slate", officeOf(ALWAYS + "desk 9 0;sheet slate 0 9 12;"), n, 0, 1);
        }
    }

    // fractions, told as two numbers in lowest terms

    private static void meanInLowestTerms() {
        String[] winds = {"1", "2", "3", "4", "5", "10", "12", "20", "25", "30", "50", "75", "99", "100"};
        int[] above = {1, 1, 3, 1, 1, 1, 3, 1, 1, 3, 1, 3, 99, 1};
        int[] below = {100, 50, 100, 25, 20, 10, 25, 5, 4, 10, 2, 4, 100, 1};
        for (int k = 0; k < winds.length; k++) {
            mean("wind " + winds[k], officeOf("wind " + winds[k] + " 0 0 0 0 0 0 0 0 0 0 0;desk 1 0;" + bills(1, 0)),
                1, above[k], below[k]);
        }
        mean("50 of 100 of 2", officeOf("wind 50 0 0 0 0 0 0 0 0 0 0 0;desk 1 0;sheet bill 0 2 1;"), 1, 1, 1);
        mean("50 of 100 of 6", officeOf("wind 50 0 0 0 0 0 0 0 0 0 0 0;desk 1 0;sheet bill 0 6 1;"), 1, 3, 1);
        // 1 less .99 * .99 * .99.
        mean("a little in each", officeOf("wind 1 1 1 0 0 0 0 0 0 0 0 0;desk 1 0;" + bills(1, 0)), 3, 29701, 1000000);
        mean("one of two", officeOf("wind 1 0 1 0 0 0 0 0 0 0 0 0;desk 1 0;" + bills(1, 0)), 2, 1, 100);
    }

    private static void meanAtItsGreatest() {
        TopSheet x = officeOf("wind 99 99 99 0 0 0 0 0 0 0 0 0;desk 3 0;desk 3 0;desk 3 0;desk 3 0;"
            + ("sheet bill 0 99 1;").repeat(3) + ("sheet bill 1 99 1;").repeat(3)
            + ("sheet bill 2 99 1;").repeat(3) + ("sheet bill 3 99 1;").repeat(3));
        // 3 * .99 gusts, each takes 4 * 99.
        mean("three quarters", x, 3, 29403, 25);
        TopSheet y = officeOf("wind 99 97 93 0 0 0 0 0 0 0 0 0;desk 3 0;desk 3 0;desk 3 0;desk 3 0;"
            + "sheet bill 0 99 1;sheet bill 0 98 1;sheet bill 0 97 1;" + ("sheet bill 1 99 1;").repeat(3)
            + ("sheet bill 2 99 1;").repeat(3) + ("sheet bill 3 99 1;").repeat(3));
        // none .000021, one .002758, two .104142, three .893079 of 394, 789, 1185: 1141554305 by 1000000.
        mean("hardly below all", y, 3, meanAbove(), 1000000 / meanCommon());
        mean("all, surely", officeOf(ALWAYS + "desk 9 0;desk 9 0;desk 9 0;desk 9 0;"
            + ("sheet bill 0 99 1;").repeat(3) + ("sheet bill 1 99 1;").repeat(3)
            + ("sheet bill 2 99 1;").repeat(3) + ("sheet bill 3 99 1;").repeat(3)), 3, 1188, 1);
    }

    private static final int CASES_BY_394 = 99 * 3 * 7 + 97 * 1 * 7 + 93 * 1 * 3;
    private static final int CASES_BY_789 = 99 * 97 * 7 + 99 * 3 * 93 + 1 * 97 * 93;
    private static final int CASES_BY_1185 = 99 * 97 * 93;

    private static int meanAll() {
        return CASES_BY_394 * 394 + CASES_BY_789 * 789 + CASES_BY_1185 * 1185;
    }

    private static int meanCommon() {
        int common = 1000000;
        while (meanAll() % common != 0 || 1000000 % common != 0) {
            common--;
        }
        return common;
    }

    private static int meanAbove() {
        return meanAll() / meanCommon();
    }

    // BAD: n beyond the last QUARTER, too; STATE: no OFFICE (ahead of BAD)

    private static void meanRefused() {
        TopSheet none = new TopSheet();
        TopSheet x = officeOf(ALWAYS + "desk 9 0;");
        for (int what : new int[] {-1, 2, 3, MIN, MAX}) {
            due("mean(1," + what + ")", x.mean(1, what), BAD);
            due("mean(1," + what + "), no office", none.mean(1, what), STATE);
        }
        for (int n : new int[] {0, 1, 3, 4, -1, MIN, MAX}) {
            due("mean(" + n + ",0), no office", none.mean(n, 0), STATE);
        }
        quarters(x, 12);
        due("in quarter 12", x.mean(1, 0), BAD);
        due("in quarter 12", x.mean(1, 1), BAD);
    }

    // ORDER of a DESK with 7 SHEETS at most; NONE: more than 7, not so many

    private static void ordersOf7AtMost() {
        TopSheet x = officeOf(ALWAYS + "desk 9 0;" + bills(1, 0));
        for (int many = 1; many <= 9; many++) {
            for (int n : new int[] {0, 1, 9}) {
                boolean none = many > 7;
                due("lost, " + many + " sheets", x.order(0, n, -1) == NONE ? 1 : 0, none ? 1 : 0);
                for (int k = 0; k <= 9; k++) {
                    due("place " + k + " of " + many, x.order(0, n, k) == NONE ? 1 : 0, none || k >= many ? 1 : 0);
                }
                due("place " + MAX, x.order(0, n, MAX), NONE);
            }
            x.blank(0);
        }
    }

    private static void line(String what, TopSheet x, int desk, int n, int lost, int... sheets) {
        due(what + ", lost", x.order(desk, n, -1), lost);
        for (int k = 0; k < sheets.length; k++) {
            due(what + ", place " + k, x.order(desk, n, k), sheets[k]);
        }
        due(what + ", above all", x.order(desk, n, sheets.length), NONE);
    }

    private static void orderOfAll7() {
        TopSheet x = officeOf(ALWAYS + "desk 9 0;sheet bill 0 4 1;sheet bill 0 1 1;sheet bill 0 7 1;sheet bill 0 2 1;"
            + "sheet bill 0 6 1;sheet bill 0 3 1;sheet bill 0 5 1;");
        line("none", x, 0, 0, 0, 0, 1, 2, 3, 4, 5, 6);
        line("one", x, 0, 1, 1, 0, 2, 3, 4, 5, 6, 1);
        line("two", x, 0, 2, 3, 0, 2, 4, 5, 6, 1, 3);
        line("three", x, 0, 3, 6, 0, 2, 4, 6, 1, 3, 5);
        line("six", x, 0, 6, 21, 2, 0, 1, 3, 4, 5, 6);
        line("seven", x, 0, 7, 28, 0, 1, 2, 3, 4, 5, 6);
        line("nine", x, 0, 9, 28, 0, 1, 2, 3, 4, 5, 6);
        pile("it lies as it did", x, 0, 0, 1, 2, 3, 4, 5, 6);
    }

    private static void orderOfNone() {
        TopSheet x = officeOf(ALWAYS + "desk 9 0;desk 9 3;");
        for (int n = 0; n <= 9; n++) {
            line("empty", x, 0, n, 0);
            line("empty, stones", x, 1, n, 0);
        }
        line("one sheet", officeOf(ALWAYS + "desk 9 0;" + bills(1, 0)), 0, 1, 1, 0);
    }

    // of several the first by numbers

    private static void firstByNumbers() {
        TopSheet x = officeOf(ALWAYS + "desk 9 0;desk 9 0;" + bills(1, 1) + bills(3, 0));
        x.lift(1);
        pile("turned", x, 0, 2, 3, 1);
        line("all alike", x, 0, 2, 2, 1, 2, 3);
        line("not a gust", x, 0, 0, 0, 1, 2, 3);
        TopSheet y = officeOf(ALWAYS + "desk 9 0;sheet bill 0 2 1;sheet bill 0 1 1;sheet bill 0 1 1;");
        line("two of the least", y, 0, 1, 1, 0, 1, 2);
        TopSheet z = officeOf(ALWAYS + "desk 9 0;sheet bill 0 1 1;sheet bill 0 1 1;sheet bill 0 2 1;");
        line("the least ahead by numbers", z, 0, 1, 1, 0, 2, 1);
    }

    private static void orderAndStones() {
        for (int stones = 0; stones <= 3; stones++) {
            TopSheet x = officeOf(ALWAYS + "desk 9 " + stones + ";sheet bill 0 1 1;sheet bill 0 2 1;sheet bill 0 3 1;");
            line("as many gusts as do not reach further, stones " + stones, x, 0, 9,
                new int[] {6, 3, 1, 0}[stones], new int[][] {{0, 1, 2}, {2, 0, 1}, {1, 2, 0}, {0, 1, 2}}[stones]);
        }
        TopSheet y = officeOf(ALWAYS + "desk 9 3;sheet bill 0 9 1;");
        line("fewer than stones", y, 0, 9, 0, 0);
    }

    private static void orderAndSlates() {
        TopSheet x = officeOf(ALWAYS + "desk 9 0;sheet slate 0 9 1;sheet bill 0 5 1;sheet bill 0 0 1;");
        line("a slate on top", x, 0, 1, 0, 0, 1, 2);
        line("one of no worth above it", x, 0, 9, 0, 1, 0, 2);
        TopSheet y = officeOf(ALWAYS + "desk 9 0;sheet slate 0 9 1;sheet bill 0 5 1;sheet slate 0 9 1;");
        line("two slates", y, 0, 9, 0, 0, 1, 2);
        TopSheet z = officeOf(ALWAYS + "desk 9 2;sheet slate 0 9 1;sheet bill 0 5 1;sheet bill 0 4 1;");
        line("stones: one gust's worth", z, 0, 9, 0, 1, 2, 0);
        TopSheet w = officeOf(ALWAYS + "desk 9 0;sheet slate 0 0 1;");
        line("a slate alone", w, 0, 9, 0, 0);
    }

    // BAD: k below -1, too

    private static void orderRefused() {
        TopSheet x = officeOf(ALWAYS + "desk 9 0;" + bills(2, 0));
        for (int k : new int[] {-2, -3, MIN}) {
            due("order(0,1," + k + ")", x.order(0, 1, k), BAD);
        }
        due("order(0,1,-1)", x.order(0, 1, -1), 1);
        for (String n : NO_GUSTS) {
            due("order(0," + n + ",-1)", x.order(0, Integer.parseInt(n), -1), BAD);
            due("order(0," + n + ",9)", x.order(0, Integer.parseInt(n), 9), BAD);
        }
        for (int d : new int[] {-1, 1, 4, MIN, MAX}) {
            due("order(" + d + ",1,-1)", x.order(d, 1, -1), BAD);
            due("order(" + d + ",1,9)", x.order(d, 1, 9), BAD);
        }
        due("no office", new TopSheet().order(0, 1, -1), BAD);
        for (int k = 0; k < 6; k++) {
            x.blank(0);
        }
        due("bad ahead of eight", x.order(0, 1, -2), BAD);
        due("bad ahead of eight", x.order(0, 10, 0), BAD);
        due("eight", x.order(0, 1, 0), NONE);
    }

    // COVER: the fewest BLANKS uppermost on a DESK, within its ROOM; NONE

    private static void coverWithinItsRoom() {
        for (int room = 1; room <= 9; room++) {
            TopSheet x = officeOf(ALWAYS + "desk " + room + " 0;" + bills(1, 0));
            for (int n = 0; n <= 9; n++) {
                due("room " + room + ", cover of " + n, x.cover(0, n), n <= room - 1 ? n : NONE);
            }
            due("nothing is laid", x.count(2), 1);
        }
    }

    // with which n GUSTS take nothing of WORTH 1 or more from it

    private static void coverOfNothing() {
        TopSheet x = officeOf(ALWAYS + "desk 9 0;desk 1 0;sheet bill 1 0 1;");
        for (int n = 0; n <= 9; n++) {
            due("empty", x.cover(0, n), 0);
            due("of worth 0, and no room", x.cover(1, n), 0);
        }
        TopSheet y = officeOf(ALWAYS + "desk 1 0;sheet bill 0 1 1;");
        due("of worth 1, and no room", y.cover(0, 1), NONE);
        due("of worth 1, and no gust", y.cover(0, 0), 0);
    }

    private static void coverByBlanksThatLie() {
        TopSheet x = officeOf(ALWAYS + "desk 9 0;sheet bill 0 1 1;sheet will 0 0 1;sheet blank 0 0 1;");
        for (int n = 0; n <= 9; n++) {
            due("two of worth 0 above, " + n, x.cover(0, n), n <= 2 ? 0 : n <= 8 ? n - 2 : NONE);
        }
        TopSheet y = officeOf(ALWAYS + "desk 9 0;sheet blank 0 3 1;");
        due("a blank of worth 3 is to be covered", y.cover(0, 1), 1);
    }

    private static void coverAndStones() {
        for (int stones = 0; stones <= 3; stones++) {
            TopSheet x = officeOf(ALWAYS + "desk 6 " + stones + ";" + bills(2, 0));
            for (int n = 0; n <= 9; n++) {
                int due = stones >= 2 ? 0 : n <= 4 ? n : NONE;
                due(stones + " stones, " + n + " gusts", x.cover(0, n), due);
            }
        }
        TopSheet y = officeOf(ALWAYS + "desk 9 3;" + bills(1, 0));
        y.blank(0);
        due("as many as stones", y.cover(0, 9), 0);
        y.blank(0);
        y.blank(0);
        due("a blank above the stones", y.cover(0, 9), 0);
    }

    private static void coverAndSlates() {
        TopSheet x = officeOf(ALWAYS + "desk 4 0;" + bills(1, 0) + "sheet slate 0 9 1;" + bills(1, 0));
        due("one above a slate, one gust", x.cover(0, 1), 1);
        due("one above a slate, two gusts", x.cover(0, 2), NONE);
        x.lift(1);
        for (int n = 0; n <= 9; n++) {
            due("a slate uppermost", x.cover(0, n), 0);
        }
    }

    private static void coverRefused() {
        TopSheet x = officeOf(ALWAYS + "desk 1 0;" + bills(1, 0));
        for (String n : NO_GUSTS) {
            due("cover(0," + n + ")", x.cover(0, Integer.parseInt(n)), BAD);
        }
        for (int d : new int[] {-1, 1, 4, MIN, MAX}) {
            due("cover(" + d + ",1)", x.cover(d, 1), BAD);
        }
        due("none", x.cover(0, 9), NONE);
        due("no office", new TopSheet().cover(0, 0), BAD);
    }

    // LEND: NONE: one has no SHEETS

    private static void lendOfNone() {
        TopSheet x = officeOf(ALWAYS + "desk 9 0;desk 9 0;desk 9 0;" + bills(1, 0));
        due("b has none", x.lend(0, 1), NONE);
        due("a has none", x.lend(1, 0), NONE);
        due("both have none", x.lend(1, 2), NONE);
        due("alike, and none", x.lend(1, 1), BAD);
        x.lay(0, 1);
        x.blank(0);
        due("one on each", x.lend(0, 1), 0);
        x.quarter(1);
        due("all gone", x.lend(0, 1), NONE);
    }

    // the SHEET of least WORTH, of several the one that lies lowest, comes uppermost on the other

    private static void lendLeastAndLowest() {
        String other = "desk 9 0;desk 9 0;sheet bill 1 9 1;";
        TopSheet x = officeOf(ALWAYS + other + "sheet bill 0 5 1;sheet bill 0 2 1;sheet slate 0 2 1;sheet bill 0 4 1;");
        // Ahead 4 and 9; then 9 and the bill of 2 that lies below the slate.
        due("the lowest of two", x.lend(0, 1), 13 - 11);
        TopSheet y = officeOf(ALWAYS + other + "sheet bill 0 5 1;sheet slate 0 2 1;sheet bill 0 2 1;sheet bill 0 4 1;");
        due("the lowest of two, a slate", y.lend(0, 1), 13 - 9);
        y.lift(2);
        due("the slate lifted, it is the other", y.lend(0, 1), 9 - 11);
        TopSheet z = officeOf(ALWAYS + other + "sheet bill 0 2 1;sheet bill 0 1 1;");
        due("the least lies uppermost", z.lend(0, 1), 10 - 10);
    }

    // (below 0: more)

    private static void lendBelow0() {
        TopSheet x = officeOf(ALWAYS + "desk 9 0;desk 9 1;sheet slate 0 0 1;sheet bill 1 7 1;");
        due("a slate and a stone hold, till they are lent", x.lend(0, 1), -7);
        due("the other way", x.lend(1, 0), -7);
        TopSheet y = officeOf(ALWAYS + "desk 9 0;desk 9 0;sheet slate 0 0 1;sheet slate 1 0 1;");
        due("nothing at all", y.lend(0, 1), 0);
        TopSheet z = officeOf(ALWAYS + "desk 9 3;desk 9 3;sheet bill 0 99 1;sheet bill 1 99 1;");
        due("stones on both", z.lend(0, 1), 0);
        TopSheet w = officeOf(ALWAYS + "desk 9 0;desk 9 0;sheet slate 0 1 1;sheet bill 0 99 1;sheet slate 1 1 1;"
            + "sheet bill 1 99 1;");
        due("all that was lost", w.lend(0, 1), 198);
    }

    private static void lendWithoutRoom() {
        TopSheet x = officeOf(ALWAYS + "desk 1 0;desk 2 0;sheet bill 0 5 1;sheet bill 1 3 1;sheet bill 1 8 1;");
        due("each comes where the other lay", x.lend(0, 1), 13 - 8);
    }

    // BAD: alike, too

    private static void lendRefused() {
        TopSheet x = officeOf(ALWAYS + "desk 9 0;desk 9 0;" + bills(1, 0) + bills(1, 1));
        due("alike", x.lend(0, 0), BAD);
        due("alike", x.lend(1, 1), BAD);
        for (int d : new int[] {-1, 2, 4, MIN, MAX}) {
            due("lend(" + d + ",0)", x.lend(d, 0), BAD);
            due("lend(0," + d + ")", x.lend(0, d), BAD);
            due("lend(" + d + "," + d + ")", x.lend(d, d), BAD);
        }
        due("no office", new TopSheet().lend(0, 1), BAD);
    }

    // BEACH: m SHEETS (0 to 16)

    private static TopSheet withRow(String text, int... items) {
        TopSheet x = officeOf(text);
        x.row(0, 2, items.length);
        for (int i = 0; i < items.length; i++) {
            x.set(0, i, items[i]);
        }
        return x;
    }

    private static void beachOfNone() {
        TopSheet x = withRow(ALWAYS + "desk 9 0;desk 1 0;" + bills(1, 0));
        due("none of no gust", x.beach(0, 0, 0, 0), 1);
        due("none of one gust that takes one", x.beach(0, 0, 0, 1), 0);
        x.quarter(1);
        for (int n = 0; n <= 9; n++) {
            due("none of gusts that take none", x.beach(0, 0, 0, n), 1);
        }
        x.row(0, 0, 3);
        due("none, within a row", x.beach(0, 2, 0, 9), 1);
        due("one of no gust", x.beach(0, 0, 1, 0), 0);
    }

    private static void beachOfSixteen() {
        TopSheet x = withRow(NEVER + "desk 8 0;desk 8 0;", 0, 0, 15, 14, 12, 13, 11, 10, 9, 8, 7, 6, 4, 5, 2, 3, 1, 0, 0);
        for (int k = 0; k < 16; k++) {
            x.blank(k % 2);
        }
        due("sixteen", x.beach(0, 2, 16, 8), 1);
        due("sixteen, of one gust more", x.beach(0, 2, 16, 9), 1);
        due("sixteen, of one gust less", x.beach(0, 2, 16, 7), 0);
        due("fifteen", x.beach(0, 2, 15, 8), 0);
        due("another sixteen", x.beach(0, 1, 16, 8), 0);
        due("seventeen", x.beach(0, 2, 17, 8), BAD);
        due("less than none", x.beach(0, 2, -1, 8), BAD);
        x.set(0, 17, 1);
        due("the last one twice", x.beach(0, 2, 16, 8), 0);
    }

    // all of the first GUST ahead of all of the second, and so on (of one GUST in any order)

    private static void beachGustByGust() {
        String text = ALWAYS + "desk 9 0;desk 9 0;" + bills(2, 0) + bills(2, 1);
        int[][] fits = {{1, 3, 0, 2}, {3, 1, 0, 2}, {1, 3, 2, 0}, {3, 1, 2, 0}};
        for (int[] line : fits) {
            TopSheet x = withRow(text, line);
            due("two gusts", x.beach(0, 0, 4, 2), 1);
            due("nine gusts", x.beach(0, 0, 4, 9), 1);
            due("the first gust", x.beach(0, 0, 2, 1), 1);
            due("not the second one", x.beach(0, 2, 2, 1), 0);
        }
        int[][] doesNot = {{1, 0, 3, 2}, {3, 2, 1, 0}, {0, 2, 1, 3}, {0, 1, 2, 3}, {1, 3, 2, 2}, {1, 1, 0, 2}};
        for (int[] line : doesNot) {
            due("in another order", withRow(text, line).beach(0, 0, 4, 2), 0);
        }
    }

    // just what n GUSTS would take

    private static void beachJustThat() {
        String text = ALWAYS + "desk 9 0;desk 9 0;" + bills(2, 0) + "sheet slate 1 1 1;" + bills(1, 1);
        TopSheet x = withRow(text, 3, 1, 0, 2, 3, 1, 0);
        due("one of two", x.beach(0, 0, 1, 1), 0);
        due("both", x.beach(0, 0, 2, 1), 1);
        due("both, and one of the next gust", x.beach(0, 0, 3, 1), 0);
        due("all three", x.beach(0, 0, 3, 2), 1);
        due("all three and a slate", x.beach(0, 0, 4, 2), 0);
        due("all three and a slate", x.beach(0, 0, 4, 9), 0);
        due("from a place on", x.beach(0, 4, 3, 2), 1);
        x.quarter(1);
        due("what is gone", x.beach(0, 0, 2, 1), 0);
        due("what is left", x.beach(0, 2, 1, 1), 1);
    }

    // PLACE (no such place of a ROW): ITEMS of a ROW from i on

    private static void beachPlaces() {
        TopSheet x = withRow(ALWAYS + "desk 9 0;" + bills(1, 0), new int[20]);
        due("the last one", x.beach(0, 19, 1, 1), 1);
        due("one beyond", x.beach(0, 20, 1, 1), NO_PLACE);
        due("two from the last on", x.beach(0, 19, 2, 1), NO_PLACE);
        due("none, at the end", x.beach(0, 20, 0, 0), 1);
        due("none, beyond the end", x.beach(0, 21, 0, 0), NO_PLACE);
        due("sixteen, up to the end", x.beach(0, 4, 16, 1), 0);
        due("sixteen, one beyond", x.beach(0, 5, 16, 1), NO_PLACE);
        for (int i : new int[] {-1, -20, MIN, MAX, MAX - 15}) {
            due("beach at " + i, x.beach(0, i, 16, 1), NO_PLACE);
            due("none at " + i, x.beach(0, i, 0, 1), NO_PLACE);
            due("status", x.status(), 2);
        }
        x.row(2, 2, 40);
        due("the last of forty", x.beach(2, 39, 1, 9), 1);
        due("none, at the end of forty, of a gust that takes one", x.beach(2, 40, 0, 1), 0);
        due("the last of forty, of gusts that take none", x.beach(2, 39, 1, 0), 0);
        x.blank(0);
        x.set(2, 39, 1);
        due("the last of forty, of two", x.beach(2, 39, 1, 2), 0);
        x.row(1, 0, 0);
        due("a row of none", x.beach(1, 0, 0, 0), 1);
        due("one of a row of none", x.beach(1, 0, 1, 1), NO_PLACE);
    }

    // then BAD: an ITEM that is no SHEET

    private static void beachItems() {
        TopSheet x = withRow(ALWAYS + "desk 9 0;" + bills(2, 0), 1, 0, 2, -1, 0, 1);
        due("two sheets", x.beach(0, 0, 2, 2), 1);
        due("one beyond the sheets", x.beach(0, 0, 3, 2), BAD);
        due("though no gust comes", x.beach(0, 1, 2, 0), BAD);
        due("though the first does not fit", x.beach(0, 1, 2, 1), BAD);
        due("one below 0", x.beach(0, 3, 1, 1), BAD);
        due("at the last place", x.beach(0, 0, 4, 2), BAD);
        due("behind them", x.beach(0, 4, 2, 2), 0);
        due("of none nothing is asked", x.beach(0, 2, 0, 0), 1);
        for (int v : new int[] {2, 15, 16, 31, 32, 33, 64, MIN, MIN + 1, MAX}) {
            x.set(0, 2, v);
            due("item " + v, x.beach(0, 2, 1, 1), BAD);
        }
        x.blank(0);
        x.set(0, 2, 2);
        due("a sheet since then", x.beach(0, 2, 1, 1), 1);
        x.quarter(1);
        due("a sheet that is gone", x.beach(0, 2, 1, 1), 0);
    }

    // BAD: ROW, m, n; STATE: no OFFICE (ahead of BAD); NULL; PLACE; then BAD

    private static void beachRefused() {
        TopSheet none = new TopSheet();
        none.row(0, 0, 1);
        due("no office", none.beach(0, 0, 0, 0), STATE);
        due("no office ahead of a row", none.beach(8, 0, 0, 0), STATE);
        due("no office ahead of m", none.beach(0, 0, 17, 0), STATE);
        due("no office ahead of n", none.beach(0, 0, 0, 10), STATE);
        due("no office ahead of missing", none.beach(1, 0, 0, 0), STATE);
        due("no office ahead of a place", none.beach(0, -1, 0, 0), STATE);
        TopSheet x = withRow(ALWAYS + "desk 9 0;" + bills(1, 0), 0, -1);
        for (String n : NO_GUSTS) {
            due("n " + n, x.beach(0, 0, 1, Integer.parseInt(n)), BAD);
            due("n " + n + " ahead of missing", x.beach(1, 0, 1, Integer.parseInt(n)), BAD);
            due("n " + n + " ahead of a place", x.beach(0, -1, 1, Integer.parseInt(n)), BAD);
        }
        for (int m : new int[] {-1, 17, 18, 40, MIN, MAX}) {
            due("m " + m, x.beach(0, 0, m, 1), BAD);
            due("m " + m + " ahead of missing", x.beach(1, 0, m, 1), BAD);
            due("m " + m + " ahead of a place", x.beach(0, MAX, m, 1), BAD);
        }
        due("no such row ahead of a place", x.beach(8, -1, 1, 1), BAD);
        due("missing ahead of a place", x.beach(1, -1, 1, 1), NO_ROW);
        due("missing ahead of a place", x.beach(1, 0, 16, 1), NO_ROW);
        due("a place ahead of an item", x.beach(0, 1, 2, 1), NO_PLACE);
        due("an item", x.beach(0, 1, 1, 1), BAD);
    }

    // WINDOW: the third SHEET from above of each DESK, too, if .. more lie there than STONES and 2

    private static void windowThirdFromAbove() {
        String[] sheets = {"sheet bill 0 1 1;", "sheet bill 0 2 1;", "sheet bill 0 4 1;", "sheet bill 0 8 1;",
            "sheet bill 0 16 1;"};
        int[] due = {0, 1, 2, 4 + 1, 8 + 2, 16 + 4};
        StringBuilder text = new StringBuilder(NEVER + "desk 9 0;");
        for (int many = 0; many <= 5; many++) {
            due(many + " sheets", officeOf(text.toString()).window(), due[many]);
            if (many < 5) {
                text.append(sheets[many]);
            }
        }
        due("each desk", officeOf(NEVER + "desk 9 0;desk 9 0;desk 9 1;desk 9 3;sheet bill 0 1 1;sheet bill 1 2 1;"
            + "sheet bill 1 4 1;sheet bill 1 8 1;sheet bill 2 16 1;sheet bill 2 32 1;sheet bill 2 64 1;"
            + "sheet bill 3 99 1;").window(), 1 + (8 + 2) + 64);
    }

    private static void windowAndStones() {
        for (int stones = 0; stones <= 3; stones++) {
            for (int many = 0; many <= 7; many++) {
                int due = (many > stones ? 10 : 0) + (many > stones + 2 ? 10 : 0);
                due(stones + " stones, " + many + " sheets", officeOf(NEVER + "desk 9 " + stones + ";"
                    + ("sheet bill 0 10 1;").repeat(many)).window(), due);
            }
        }
    }

    private static void windowAndSlates() {
        String low = "desk 9 0;sheet bill 0 1 1;";
        due("the third", officeOf(NEVER + low + "sheet slate 0 2 1;sheet bill 0 4 1;sheet bill 0 8 1;").window(), 8);
        due("the second", officeOf(NEVER + low + "sheet bill 0 2 1;sheet slate 0 4 1;sheet bill 0 8 1;").window(), 10);
        due("the first", officeOf(NEVER + low + "sheet bill 0 2 1;sheet bill 0 4 1;sheet slate 0 8 1;").window(), 2);
        due("all", officeOf(NEVER + "desk 9 0;" + ("sheet slate 0 9 1;").repeat(3)).window(), 0);
    }

    // STATE: no OFFICE

    private static void windowRefused() {
        TopSheet x = new TopSheet();
        due("no office", x.window(), STATE);
        write(x, "wind");
        x.office();
        due("nor after a fault", x.window(), STATE);
        write(x, NEVER + "desk 1 0;");
        x.office();
        due("of an empty one", x.window(), 0);
    }
}
