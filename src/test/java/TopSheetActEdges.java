/** The boundaries of GUSTS and ACTS (section 2; promises 9 to 15, 23 to 25, 30): a test for each sentence. */
public final class TopSheetActEdges extends Check {
    private static final String BILL = "sheet bill 0 1 12;";

    public static void main(String[] args) {
        gustsAndStones();
        gustsAndSlates();
        gustsOfEmptyDesks();
        aGustTakesFromEach();
        liftedFromEachPlace();
        liftedFromAFullLastDesk();
        liftOfGone();
        metByTheQuarter();
        metStaysMet();
        need12();
        missedIfLate();
        missedIfGone();
        missedAtTheEnds();
        laidOnAnother();
        laidWithoutRoom();
        layInItsOrder();
        blankIsTold();
        blankAndRoom();
        sixteenSheets();
        blankAfterUndo();
        seedsAreTold();
        seedsWrapAroundNowhere();
        belowTheWind();
        windOfTheQuarter();
        upToQuarter12();
        quarterWithoutOffice();
        undoOfNone();
        twentyFourActs();
        manyMoreActs();
        actsByWhichNothingBecomesAnother();
        refusedIsNoAct();
        undoneAndDoneAnew();
        sheetsAsked();
        desksAsked();
        missedAsked();
        imagesAre0And1();
        imagesWithoutOffice();
        imageKeepsAll();
        restoreOfNone();
        restoreForgetsActs();
        countsAsked();
        end("the edges of acts hold");
    }

    private static String bills(int many) {
        return BILL.repeat(many);
    }

    private static int set(int many) {
        return (1 << many) - 1;
    }

    // A GUST takes the uppermost SHEET, if more SHEETS lie there than STONES

    private static void gustsAndStones() {
        for (int stones = 0; stones <= 3; stones++) {
            for (int many = 0; many <= 5; many++) {
                TopSheet x = officeOf(ALWAYS + "desk 5 " + stones + ";" + bills(many));
                String when = many + " sheets, " + stones + " stones";
                for (int left = many; left > stones; left--) {
                    due(when, x.quarter(1), 1 << left - 1);
                }
                due(when + ", as many as stones", x.quarter(1), 0);
                due(when + ", left", x.desk(0, 2), Math.min(many, stones));
                due(when + ", gone", x.count(5), Math.max(0, many - stones));
            }
        }
    }

    // if that is no slate

    private static void gustsAndSlates() {
        TopSheet x = officeOf(ALWAYS + "desk 9 0;" + bills(1) + "sheet slate 0 1 12;" + bills(2));
        due("above the slate", x.quarter(1), 8);
        due("above the slate", x.quarter(1), 4);
        due("the slate", x.quarter(1), 0);
        x.lift(0);
        due("one from below it", x.quarter(1), 1);
        due("the slate alone", x.quarter(1), 0);
        for (String sort : new String[] {"bill", "warrant", "will", "blank"}) {
            due(sort, officeOf(ALWAYS + "desk 9 0;sheet " + sort + " 0 1 12;").quarter(1), 1);
        }
        due("slate", officeOf(ALWAYS + "desk 9 0;sheet slate 0 1 12;").quarter(1), 0);
    }

    private static void gustsOfEmptyDesks() {
        TopSheet x = officeOf(ALWAYS + "desk 9 0;desk 9 3;");
        due("none lie", x.quarter(1), 0);
        due("gone", x.count(5), 0);
        x.blank(1);
        due("one of three stones", x.quarter(1), 0);
        x.blank(0);
        due("one of none", x.quarter(1), 2);
        due("and none anew", x.quarter(1), 0);
    }

    private static void aGustTakesFromEach() {
        TopSheet x = officeOf(ALWAYS + "desk 9 0;desk 9 0;desk 9 0;desk 9 0;sheet bill 0 1 12;sheet bill 1 1 12;"
            + "sheet bill 2 1 12;sheet bill 3 1 12;sheet bill 3 1 12;");
        due("one of each", x.quarter(1), 1 | 2 | 4 | 16);
        due("the last", x.quarter(1), 8);
        due("gone", x.count(5), 5);
        due("sheets", x.count(2), 5);
    }

    // LIFTED: comes to lie uppermost on it, the others as they did: how many lay above it

    private static void liftedFromEachPlace() {
        String nine = NEVER + "desk 9 0;" + bills(9);
        for (int s = 0; s < 9; s++) {
            TopSheet x = officeOf(nine);
            due("lift(" + s + ")", x.lift(s), 8 - s);
            int[] then = new int[9];
            for (int k = 0; k < 8; k++) {
                then[k] = k < s ? k : k + 1;
            }
            then[8] = s;
            pile("lift(" + s + ")", x, 0, then);
            due("lift(" + s + ") twice", x.lift(s), 0);
            pile("lift(" + s + ") twice", x, 0, then);
        }
        TopSheet alone = officeOf(NEVER + "desk 1 0;" + BILL);
        due("alone, without room", alone.lift(0), 0);
    }

    private static void liftedFromAFullLastDesk() {
        TopSheet x = officeOf(NEVER + "desk 9 0;desk 9 0;desk 9 0;desk 9 0;" + ("sheet bill 3 1 12;").repeat(9)
            + ("sheet bill 2 1 12;").repeat(3));
        for (int k = 12; k < 16; k++) {
            x.blank(2);
        }
        for (int s = 0; s < 9; s++) {
            due("the lowest of nine", x.lift(0), s == 0 ? 8 : 0);
            due("each of nine", x.lift(s), s == 0 ? 0 : 9 - s);
            x.undo();
            x.undo();
            x.lift(0);
        }
        pile("lifted and undone", x, 3, 1, 2, 3, 4, 5, 6, 7, 8, 0);
        pile("beside it", x, 2, 9, 10, 11, 12, 13, 14, 15);
        due("taken from it", x.lay(4, 0), 1);
        due("and from the other", x.lay(10, 0), 2);
        due("and laid there", x.lay(10, 3), 9);
        due("no room", x.lay(9, 3), FULL);
        pile("then", x, 3, 1, 2, 3, 5, 6, 7, 8, 0, 10);
        pile("then", x, 2, 9, 11, 12, 13, 14, 15);
    }

    // lift: BAD; STATE: it is GONE

    private static void liftOfGone() {
        TopSheet x = officeOf(ALWAYS + "desk 9 0;" + bills(2));
        for (int s : new int[] {-1, 2, 15, 16, 31, 32, MIN, MAX}) {
            due("lift(" + s + ")", x.lift(s), BAD);
        }
        quarters(x, 1);
        due("gone", x.lift(1), STATE);
        due("not gone", x.lift(0), 0);
        x.undo();
        x.undo();
        due("gone no more", x.lift(1), 0);
        due("no office", new TopSheet().lift(0), BAD);
    }

    // its NEED is MET, if the QUARTER is no later than that

    private static void metByTheQuarter() {
        for (int need = 0; need <= 11; need++) {
            TopSheet x = officeOf(NEVER + "desk 9 0;sheet bill 0 1 " + need + ";sheet bill 0 1 " + need + ";");
            quarters(x, need);
            due("not met before, need " + need, x.sheet(0, 4), 0);
            x.lift(0);
            due("in the quarter of need " + need, x.sheet(0, 4), 1);
            quarters(x, 1);
            x.lift(1);
            due("one later than need " + need, x.sheet(1, 4), 0);
            due("missed", x.sheet(1, 5), 1);
            due("not missed", x.sheet(0, 5), 0);
        }
        TopSheet y = officeOf(NEVER + "desk 9 0;desk 9 0;sheet bill 0 1 5;" + BILL);
        y.lay(0, 1);
        due("laid is not lifted", y.sheet(0, 4), 0);
        y.lift(1);
        due("another's lifting", y.sheet(0, 4), 0);
    }

    private static void metStaysMet() {
        TopSheet x = officeOf(ALWAYS + "desk 9 0;desk 9 0;sheet bill 0 1 0;");
        x.lift(0);
        x.lay(0, 1);
        due("laid", x.sheet(0, 4), 1);
        x.quarter(1);
        due("gone", x.sheet(0, 2), NONE);
        due("gone, and met", x.sheet(0, 4), 1);
        due("gone, late, and met: not missed", x.missed(0), 0);
    }

    // (of NEED 12, too); 12: none

    private static void need12() {
        TopSheet x = officeOf(NEVER + "desk 9 0;" + bills(3));
        x.lift(0);
        due("in quarter 0", x.sheet(0, 4), 1);
        quarters(x, 11);
        x.lift(1);
        due("in quarter 11", x.sheet(1, 4), 1);
        quarters(x, 1);
        x.lift(2);
        due("in quarter 12", x.sheet(2, 4), 1);
        TopSheet y = officeOf(ALWAYS + "desk 9 0;desk 9 0;" + BILL + "sheet bill 1 1 12;");
        quarters(y, 12);
        due("gone in quarter 12", y.count(5), 2);
        due("never missed", y.missed(0), 0);
        due("never missed", y.sheet(0, 5), 0);
    }

    // MISSED: NEED (not 12) is not MET, and .. the QUARTER is later than their NEED

    private static void missedIfLate() {
        for (int need = 0; need <= 12; need++) {
            TopSheet x = officeOf(NEVER + "desk 9 0;sheet bill 0 1 " + need + ";");
            for (int q = 0; q <= 12; q++) {
                due("need " + need + " in quarter " + q, x.sheet(0, 5), need < 12 && q > need ? 1 : 0);
                due("set of need " + need + " in quarter " + q, x.missed(0), need < 12 && q > need ? 1 : 0);
                x.quarter(1);
            }
        }
    }

    // .. that are GONE

    private static void missedIfGone() {
        for (int need = 0; need <= 12; need++) {
            TopSheet x = officeOf(ALWAYS + "desk 9 0;sheet bill 0 1 " + need + ";");
            x.quarter(1);
            due("gone, need " + need, x.sheet(0, 5), need < 12 ? 1 : 0);
            x.undo();
            due("not gone, need " + need, x.sheet(0, 5), 0);
            x.lift(0);
            x.quarter(1);
            due("met and gone, need " + need, x.sheet(0, 5), 0);
        }
    }

    private static void missedAtTheEnds() {
        TopSheet x = officeOf(NEVER + "desk 9 0;desk 9 0;" + ("sheet bill 0 99 0;").repeat(6)
            + ("sheet bill 1 99 0;").repeat(6));
        due("none", x.missed(0), 0);
        x.quarter(1);
        due("all of twelve", x.missed(0), set(12));
        due("none is gone", x.missed(1), 0);
        TopSheet y = officeOf(ALWAYS + "desk 3 0;desk 3 0;desk 3 0;desk 3 0;" + ("sheet bill 0 99 12;").repeat(3)
            + ("sheet bill 1 99 12;").repeat(3) + ("sheet bill 2 99 12;").repeat(3)
            + ("sheet bill 3 99 12;").repeat(3));
        quarters(y, 3);
        due("all are gone", y.missed(1), 12 * 99);
        due("gone", y.count(5), 12);
        due("none missed", y.missed(0), 0);
    }

    // one is LAID uppermost on another DESK: how many lie on that DESK then

    private static void laidOnAnother() {
        for (int s = 0; s < 3; s++) {
            TopSheet x = officeOf(NEVER + "desk 9 0;desk 9 0;" + bills(3) + "sheet bill 1 1 12;");
            due("lay(" + s + ",1)", x.lay(s, 1), 2);
            pile("lay(" + s + ",1)", x, 1, 3, s);
            pile("lay(" + s + ",1)", x, 0, s == 0 ? 1 : 0, s == 2 ? 1 : 2);
        }
        TopSheet y = officeOf(NEVER + "desk 1 0;desk 1 0;desk 1 3;desk 9 0;" + BILL);
        due("on an empty one", y.lay(0, 1), 1);
        pile("from which it came", y, 0);
        due("on stones", y.lay(0, 2), 1);
        due("on the last desk", y.lay(0, 3), 1);
        due("back", y.lay(0, 0), 1);
    }

    private static void laidWithoutRoom() {
        for (int room = 1; room <= 8; room++) {
            TopSheet x = officeOf(NEVER + "desk 9 0;desk " + room + " 0;" + bills(room + 1));
            for (int s = 0; s < room; s++) {
                due("lay(" + s + ",1) of room " + room, x.lay(s, 1), s + 1);
            }
            due("no room of " + room, x.lay(room, 1), FULL);
            x.lay(0, 0);
            due("room of " + room + " anew", x.lay(room, 1), room);
        }
    }

    // lay: BAD; STATE: it is GONE, or lies there; FULL: no ROOM

    private static void layInItsOrder() {
        TopSheet x = officeOf(ALWAYS + "desk 3 3;desk 2 0;desk 1 3;" + bills(3) + "sheet bill 1 1 12;"
            + "sheet bill 1 1 12;sheet bill 2 1 12;");
        x.quarter(1);
        for (int no : new int[] {-1, 6, 16, MIN, MAX}) {
            due("no such sheet", x.lay(no, 1), BAD);
            due("no such desk", x.lay(0, no == 6 ? 3 : no), BAD);
            due("no such desk of one that is gone", x.lay(4, no == 6 ? 3 : no), BAD);
        }
        due("gone", x.lay(4, 1), STATE);
        due("gone, and no room", x.lay(4, 0), STATE);
        due("lies there", x.lay(3, 1), STATE);
        due("lies there, and no room", x.lay(5, 2), STATE);
        due("lies there, and no room", x.lay(1, 0), STATE);
        due("no room", x.lay(3, 0), FULL);
        due("no room", x.lay(0, 2), FULL);
        due("acts", x.count(4), 1);
        due("room", x.lay(0, 1), 2);
        due("no office", new TopSheet().lay(0, 0), BAD);
    }

    // a BLANK: SORT blank, WORTH 0, NEED 12

    private static void blankIsTold() {
        TopSheet x = officeOf(ALWAYS + "desk 3 1;" + BILL);
        due("number", x.blank(0), 1);
        due("kind", x.kind(1), 4);
        due("worth", x.sheet(1, 0), 0);
        due("need", x.sheet(1, 1), 12);
        due("desk", x.sheet(1, 2), 0);
        due("uppermost", x.sheet(1, 3), 0);
        due("not met", x.sheet(1, 4), 0);
        due("not missed", x.sheet(1, 5), 0);
        pile("a blank", x, 0, 0, 1);
        due("taken as another", x.quarter(1), 2);
        due("gone, not missed", x.sheet(1, 5), 0);
    }

    // blank: BAD; FULL: no ROOM, or 16 SHEETS

    private static void blankAndRoom() {
        for (int room = 1; room <= 9; room++) {
            TopSheet x = officeOf(NEVER + "desk " + room + " 0;");
            for (int k = 0; k < room; k++) {
                due("blank " + k + " of room " + room, x.blank(0), k);
            }
            due("no room of " + room, x.blank(0), FULL);
            due("sheets", x.count(2), room);
            for (int d : new int[] {-1, 1, 4, MIN, MAX}) {
                due("blank(" + d + ")", x.blank(d), BAD);
            }
        }
        due("no office", new TopSheet().blank(0), BAD);
    }

    private static void sixteenSheets() {
        TopSheet x = officeOf(ALWAYS + "desk 9 0;desk 9 0;" + bills(6) + ("sheet bill 1 1 12;").repeat(6));
        due("the thirteenth", x.blank(0), 12);
        due("the fourteenth", x.blank(0), 13);
        due("the fifteenth", x.blank(1), 14);
        due("the sixteenth", x.blank(1), 15);
        due("there is room", x.desk(0, 2), 8);
        due("none more", x.blank(0), FULL);
        due("none more", x.blank(1), FULL);
        due("no such desk", x.blank(2), BAD);
        due("a gust takes the sixteenth", x.quarter(1), 1 << 13 | 1 << 15);
        due("gone ones count", x.blank(0), FULL);
        quarters(x, 7);
        due("all are gone", x.count(5), 16);
        due("all of sixteen", x.missed(1), 12);
        due("even then", x.blank(0), FULL);
        due("sheets", x.count(2), 16);
        due("sheet 15", x.sheet(15, 2), NONE);
        due("sheet 16", x.sheet(16, 2), BAD);
    }

    private static void blankAfterUndo() {
        TopSheet x = officeOf(NEVER + "desk 9 0;desk 9 0;");
        for (int k = 0; k < 16; k++) {
            x.blank(k % 2);
        }
        due("undone", x.undo(), 15);
        due("no such sheet", x.sheet(15, 0), BAD);
        due("its number anew", x.blank(0), 15);
        due("on the other desk", x.sheet(15, 2), 0);
        due("full anew", x.blank(0), FULL);
        for (int k = 15; k >= 0; k--) {
            due("undo", x.undo(), k);
            due("sheets", x.count(2), k);
        }
    }

    // (SEED 1 to 999999)

    private static void seedsAreTold() {
        TopSheet x = officeOf(ALWAYS + "desk 9 0;" + bills(5));
        for (int seed : new int[] {0, -1, 1000000, 1000001, MIN, MAX}) {
            due("quarter(" + seed + ")", x.quarter(seed), BAD);
        }
        due("quarter 0 yet", x.count(3), 0);
        due("quarter(1)", x.quarter(1), 16);
        due("quarter(999999)", x.quarter(999999), 8);
        due("quarter(999998)", x.quarter(999998), 4);
        due("quarter(2)", x.quarter(2), 2);
        due("quarter 4", x.count(3), 4);
    }

    /** The least wind by which a GUST comes is one more than the rest. */
    private static void rest(int seed, int rest) {
        due("seed " + seed + ", wind " + rest, windy(rest, seed), 0);
        due("seed " + seed + ", wind " + (rest + 1), windy(rest + 1, seed), 1);
    }

    private static int windy(int wind, int seed) {
        return officeOf("wind " + wind + " 0 0 0 0 0 0 0 0 0 0 0;desk 1 0;" + BILL).quarter(seed);
    }

    // the rest by 100 of the rest of (SEED times 16807) by 2147483647

    private static void seedsWrapAroundNowhere() {
        rest(1, 7);
        rest(2, 14);
        rest(100, 0);
        // 127773 * 16807 = 2147480811 is below 2147483647, 127774 * 16807 = 2147497618 is 13971 above it.
        rest(127773, 11);
        rest(127774, 71);
        // 255548 * 16807 = 4294995236, less 2 * 2147483647 is 27942.
        rest(255548, 42);
        // 255547 * 16807 = 4294978429, less 2 * 2147483647 is 11135.
        rest(255547, 35);
        // 999999 * 16807 = 16806983193, less 7 * 2147483647 is 1774597664.
        rest(999999, 64);
        // 500000 * 16807 = 8403500000, less 3 * 2147483647 is 1961049059.
        rest(500000, 59);
        // 57 * 16807 = 957999: a rest of 99.
        rest(57, 99);
    }

    // is below the wind of the QUARTER

    private static void belowTheWind() {
        for (int seed = 1; seed <= 100; seed++) {
            int rest = seed * 7 % 100;
            due("seed " + seed + ", wind 0", windy(0, seed), 0);
            due("seed " + seed + ", wind 100", windy(100, seed), 1);
            due("seed " + seed + ", wind 50", windy(50, seed), rest < 50 ? 1 : 0);
        }
    }

    private static void windOfTheQuarter() {
        for (int windy = 0; windy < 12; windy++) {
            StringBuilder wind = new StringBuilder("wind");
            for (int q = 0; q < 12; q++) {
                wind.append(q == windy ? " 8" : " 7");
            }
            TopSheet x = officeOf(wind + ";desk 1 0;" + BILL);
            for (int q = 0; q < 12; q++) {
                due("wind in " + windy + ", quarter " + q, x.quarter(1), q == windy ? 1 : 0);
            }
        }
    }

    // then it is the next QUARTER (up to 12); STATE: .. QUARTER 12

    private static void upToQuarter12() {
        TopSheet x = officeOf(NEVER + "desk 1 0;" + BILL);
        for (int q = 0; q < 12; q++) {
            due("quarter", x.count(3), q);
            due("no gust", x.quarter(1 + q), 0);
            due("acts", x.count(4), q + 1);
        }
        due("quarter", x.count(3), 12);
        due("no quarter after it", x.quarter(1), STATE);
        due("no quarter after it", x.quarter(999999), STATE);
        due("a bad one", x.quarter(0), BAD);
        due("a bad one", x.quarter(1000000), BAD);
        due("quarter", x.count(3), 12);
        due("acts", x.count(4), 12);
        due("undo", x.undo(), 11);
        due("quarter 11", x.count(3), 11);
        due("the last one anew", x.quarter(1), 0);
        due("quarter", x.count(3), 12);
    }

    // STATE: no OFFICE (ahead of BAD)

    private static void quarterWithoutOffice() {
        TopSheet x = new TopSheet();
        for (int seed : new int[] {1, 999999, 0, -1, 1000000, MIN, MAX}) {
            due("quarter(" + seed + ") without office", x.quarter(seed), STATE);
        }
        due("quarter", x.count(3), 0);
    }

    // undo: STATE: none

    private static void undoOfNone() {
        due("no office", new TopSheet().undo(), STATE);
        TopSheet x = officeOf(ALWAYS + "desk 9 0;" + bills(2));
        due("no act", x.undo(), STATE);
        x.lift(0);
        due("the only one", x.undo(), 0);
        due("none is left", x.undo(), STATE);
        due("none is left", x.undo(), STATE);
        due("acts", x.count(4), 0);
        pile("as at first", x, 0, 0, 1);
    }

    // 24 at most are kept, of more the oldest is forgotten; the latest first

    private static void twentyFourActs() {
        for (int many = 22; many <= 27; many++) {
            TopSheet x = officeOf(NEVER + "desk 9 0;" + bills(9));
            for (int k = 0; k < many; k++) {
                x.lift(k % 9);
                due("acts", x.count(4), Math.min(24, k + 1));
            }
            for (int left = Math.min(24, many) - 1; left >= 0; left--) {
                due("undo of " + many, x.undo(), left);
                int done = many - Math.min(24, many) + left;
                due("uppermost after " + done, x.desk(0, 18), done == 0 ? 8 : (done - 1) % 9);
            }
            due("no more of " + many, x.undo(), STATE);
        }
    }

    private static void manyMoreActs() {
        TopSheet x = officeOf(NEVER + "desk 9 0;" + bills(3));
        for (int k = 0; k < 100; k++) {
            x.lift(k % 2);
        }
        for (int left = 23; left >= 4; left--) {
            due("undo", x.undo(), left);
        }
        due("the latest of 80", x.desk(0, 12), 1);
        for (int k = 0; k < 30; k++) {
            x.lift(k % 3);
        }
        due("acts", x.count(4), 24);
        for (int left = 23; left >= 0; left--) {
            due("undo anew", x.undo(), left);
            due("uppermost", x.desk(0, 12), (left + 5) % 3);
        }
        due("no more", x.undo(), STATE);
    }

    // also such by which nothing becomes another

    private static void actsByWhichNothingBecomesAnother() {
        TopSheet x = officeOf(NEVER + "desk 9 0;sheet bill 0 1 0;sheet bill 0 1 0;");
        x.lift(1);
        due("acts", x.count(4), 1);
        x.lift(1);
        x.lift(1);
        due("lifted where it lay, its need met before", x.count(4), 3);
        due("undo", x.undo(), 2);
        due("undo", x.undo(), 1);
        due("met yet", x.sheet(1, 4), 1);
        due("undo", x.undo(), 0);
        due("not met", x.sheet(1, 4), 0);
        x.quarter(1);
        due("a quarter without a gust", x.count(4), 1);
        for (int k = 0; k < 24; k++) {
            x.lift(0);
        }
        for (int k = 0; k < 24; k++) {
            x.undo();
        }
        due("they push the oldest out", x.undo(), STATE);
        due("which stands", x.count(3), 1);
    }

    private static void refusedIsNoAct() {
        TopSheet x = officeOf(ALWAYS + "desk 2 0;desk 1 0;" + bills(2) + "sheet bill 1 1 12;");
        x.lift(9);
        x.lay(0, 1);
        x.lay(0, 0);
        x.lay(9, 0);
        x.blank(0);
        x.blank(9);
        x.quarter(0);
        due("refused ones are no acts", x.count(4), 0);
        due("and cannot be undone", x.undo(), STATE);
        x.quarter(1);
        x.lift(1);
        x.lay(1, 1);
        due("of one that is gone neither", x.count(4), 1);
        due("undo of the one before", x.undo(), 0);
        due("nothing is gone", x.count(5), 0);
    }

    private static void undoneAndDoneAnew() {
        TopSheet x = officeOf(ALWAYS + "desk 9 0;desk 9 0;" + bills(3));
        x.lift(0);
        x.lay(1, 1);
        x.undo();
        due("another in its place", x.lay(2, 1), 1);
        due("acts", x.count(4), 2);
        x.quarter(1);
        due("undo", x.undo(), 2);
        pile("the gust undone", x, 0, 1, 0);
        pile("the gust undone", x, 1, 2);
        due("undo", x.undo(), 1);
        pile("the laying undone", x, 0, 1, 2, 0);
        due("undo", x.undo(), 0);
        pile("the lifting undone", x, 0, 0, 1, 2);
        due("met no more", x.sheet(0, 4), 0);
    }

    // sheet: BAD; 2 NONE: it is GONE; 3 (NONE)

    private static void sheetsAsked() {
        TopSheet x = officeOf(ALWAYS + "desk 9 0;sheet bill 0 99 0;sheet will 0 0 11;");
        for (int what : new int[] {-1, 6, 7, 10, MIN, MAX}) {
            due("what " + what, x.sheet(0, what), BAD);
        }
        for (int s : new int[] {-1, 2, 16, 32, MIN, MAX}) {
            for (int what = 0; what <= 5; what++) {
                due("sheet " + s, x.sheet(s, what), BAD);
            }
        }
        x.quarter(1);
        int[] gone = {0, 11, NONE, NONE, 0, 1};
        int[] lies = {99, 0, 0, 0, 0, 1};
        for (int what = 0; what <= 5; what++) {
            due("gone, " + what, x.sheet(1, what), gone[what]);
            due("lies, " + what, x.sheet(0, what), lies[what]);
        }
        due("a gone one, what 6", x.sheet(1, 6), BAD);
        due("no office", new TopSheet().sheet(0, 0), BAD);
    }

    // desk: 10 and on: that at a place from below (NONE); BAD

    private static void desksAsked() {
        TopSheet x = officeOf(NEVER + "desk 9 3;desk 1 0;" + bills(9));
        for (int place = 0; place < 9; place++) {
            due("place " + place, x.desk(0, 10 + place), place);
        }
        for (int what : new int[] {19, 20, 100, 1000, MAX}) {
            due("none at " + what, x.desk(0, what), NONE);
        }
        due("none of an empty one", x.desk(1, 10), NONE);
        due("how many of an empty one", x.desk(1, 2), 0);
        for (int what : new int[] {-1, -10, 3, 4, 5, 6, 7, 8, 9, MIN}) {
            due("what " + what, x.desk(0, what), BAD);
        }
        for (int d : new int[] {-1, 2, 3, 4, MIN, MAX}) {
            for (int what : new int[] {0, 1, 2, 10, 3}) {
                due("desk " + d, x.desk(d, what), BAD);
            }
        }
        due("no office", new TopSheet().desk(0, 0), BAD);
    }

    // missed: BAD; STATE: no OFFICE (ahead of BAD)

    private static void missedAsked() {
        TopSheet x = new TopSheet();
        for (int what : new int[] {0, 1, -1, 2, MIN, MAX}) {
            due("missed(" + what + ") without office", x.missed(what), STATE);
        }
        TopSheet y = officeOf(NEVER + "desk 1 0;");
        for (int what : new int[] {-1, 2, 3, MIN, MAX}) {
            due("missed(" + what + ")", y.missed(what), BAD);
        }
        due("of no sheets", y.missed(0), 0);
        due("of no sheets", y.missed(1), 0);
    }

    // image, restore: (0, 1)

    private static void imagesAre0And1() {
        TopSheet x = officeOf(NEVER + "desk 1 0;");
        for (int k : new int[] {-1, 2, 3, MIN, MAX}) {
            due("image(" + k + ")", x.image(k), BAD);
            due("restore(" + k + ")", x.restore(k), BAD);
        }
        due("image(0)", x.image(0), 1);
        due("image(1)", x.image(1), 1);
        due("restore(0)", x.restore(0), 1);
        due("restore(1)", x.restore(1), 1);
    }

    // image: BAD; STATE: no OFFICE

    private static void imagesWithoutOffice() {
        TopSheet x = new TopSheet();
        due("image(0)", x.image(0), STATE);
        due("image(1)", x.image(1), STATE);
        due("bad ahead of no office", x.image(2), BAD);
        due("bad ahead of no office", x.image(-1), BAD);
        due("nothing was kept", x.restore(0), STATE);
        due("nothing was kept", x.restore(1), STATE);
        due("bad ahead of nothing kept", x.restore(2), BAD);
        due("bad ahead of nothing kept", x.restore(-1), BAD);
    }

    private static void imageKeepsAll() {
        TopSheet x = officeOf("wind 0 100 100 0 0 0 0 0 0 0 0 0;desk 9 0;desk 5 2;" + bills(3) + "sheet bill 1 1 12;");
        x.lift(0);
        x.blank(1);
        quarters(x, 2);
        due("gone", x.count(5), 1);
        due("image", x.image(1), 1);
        due("acts stay", x.count(4), 4);
        x.lay(1, 1);
        quarters(x, 1);
        x.blank(0);
        write(x, NEVER + "desk 1 0;");
        x.office();
        due("restore", x.restore(1), 1);
        due("quarter", x.count(3), 2);
        due("desks", x.count(1), 2);
        due("sheets", x.count(2), 5);
        due("gone", x.count(5), 1);
        due("stones", x.desk(1, 1), 2);
        due("room", x.desk(1, 0), 5);
        due("met", x.sheet(0, 4), 1);
        due("not met", x.sheet(1, 4), 0);
        pile("as kept", x, 0, 1, 2);
        pile("as kept", x, 1, 3, 4);
        due("its wind", x.quarter(1), 4);
        due("restored twice", x.restore(1), 1);
        pile("as kept", x, 0, 1, 2);
        x.lay(1, 1);
        due("kept anew", x.image(1), 1);
        x.undo();
        due("restored, that in place of the one before", x.restore(1), 1);
        pile("as kept anew", x, 1, 3, 4, 1);
    }

    // restore: STATE: none was kept

    private static void restoreOfNone() {
        TopSheet x = officeOf(NEVER + "desk 1 0;" + BILL);
        due("none", x.restore(0), STATE);
        due("none", x.restore(1), STATE);
        x.image(1);
        due("the other", x.restore(0), STATE);
        due("this", x.restore(1), 1);
        write(x, "x");
        x.office();
        due("after a fault", x.restore(0), STATE);
        due("after a fault", x.restore(1), 1);
    }

    // (no ACT can be undone then)

    private static void restoreForgetsActs() {
        TopSheet x = officeOf(NEVER + "desk 9 0;" + bills(3));
        for (int k = 0; k < 30; k++) {
            x.lift(k % 3);
        }
        x.image(0);
        due("acts", x.count(4), 24);
        due("refused: they stay", x.restore(1), STATE);
        due("acts", x.count(4), 24);
        x.restore(0);
        due("acts", x.count(4), 0);
        due("undo", x.undo(), STATE);
        pile("as kept", x, 0, 0, 1, 2);
        x.lift(0);
        due("acts from then on", x.count(4), 1);
        due("undo", x.undo(), 0);
        due("no further", x.undo(), STATE);
        pile("undone", x, 0, 0, 1, 2);
    }

    // count: BAD

    private static void countsAsked() {
        TopSheet x = new TopSheet();
        for (int what = 0; what <= 6; what++) {
            due("count(" + what + ") of a new object", x.count(what), 0);
        }
        for (int what : new int[] {-1, 7, 8, MIN, MAX}) {
            due("count(" + what + ")", x.count(what), BAD);
        }
        for (int r = 0; r < 8; r++) {
            x.row(r, 0, 0);
        }
        due("all rows", x.count(0), 8);
        x.row(0, 1, 1);
        due("one in place of one", x.count(0), 8);
    }
}
