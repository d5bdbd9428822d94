/** The boundaries of THE TAPE, of TEXTS and FAULTS (section 1; promises 6 to 8): a test for each sentence. */
public final class TopSheetTextEdges extends Check {
    /** Where NEVER ends, and the first desk of an office with that wind begins. */
    private static final int DESK = NEVER.length();
    private static final String ONE_DESK = NEVER + "desk 9 0;";
    private static final int SHEET = ONE_DESK.length();
    private static final String BLANKS = "        ";

    public static void main(String[] args) {
        wordsOf1To8Bytes();
        lowestBytesHighestFirst();
        tapeOf500Bytes();
        officeOf500Bytes();
        fullNotAheadOfBad();
        fullTapeReadAndFedAnew();
        tapeIsEmptyThen();
        namesAreLettersAToZ();
        numbersHave3FiguresAtMost();
        bytes32And10();
        noOtherBlanks();
        noOtherSigns();
        noneIsNeeded();
        windFirst();
        twelveWinds();
        windsAre0To100();
        oneDeskAtLeast();
        roomsAre1To9();
        stonesAre0To3();
        fourDesksAtMost();
        fiveSorts();
        desksOfSheets();
        aDeskThatHasRoomYet();
        worthsAre0To99();
        needsAre0To12();
        twelveSheetsAtMost();
        desksAheadOfSheets();
        fourFiguresAtTheirFirst();
        theEnd();
        theFirstTokenThatHasOne();
        ofOneTokenTheLeast();
        placesOfFaults();
        officeInPlaceOfTheOneBefore();
        whatAFaultLeaves();
        faultBeforeOne();
        latestFault();
        end("the edges of texts hold");
    }

    private static String sheets(int many, int desk) {
        StringBuilder s = new StringBuilder();
        for (int i = 0; i < many; i++) {
            s.append("sheet bill ").append(desk).append(" 1 1;");
        }
        return s.toString();
    }

    private static String desks(int many) {
        StringBuilder s = new StringBuilder();
        for (int i = 0; i < many; i++) {
            s.append("desk 9 0;");
        }
        return s.toString();
    }

    // feed: the lowest n bytes of w (1 to 8), the highest of them first

    private static void wordsOf1To8Bytes() {
        TopSheet x = new TopSheet();
        int sum = 0;
        for (int n = 1; n <= 8; n++) {
            sum += n;
            due("feed of " + n, x.feed(0L, n), sum);
        }
        for (int n : new int[] {0, -1, 9, 10, 64, MIN, MAX}) {
            due("feed of " + n, x.feed(0L, n), BAD);
        }
        due("bytes on the tape", x.count(6), sum);
    }

    private static void lowestBytesHighestFirst() {
        String word = "wind 0 0";
        for (int n = 1; n <= 8; n++) {
            TopSheet x = new TopSheet();
            for (int from = 0; from < 8; from += n) {
                int many = Math.min(n, 8 - from);
                // All that is above the lowest bytes is of no use: here it is all ones.
                long w = -1L;
                for (int k = 0; k < many; k++) {
                    w = w << 8 | word.charAt(from + k);
                }
                due("feed", x.feed(w, many), from + many);
            }
            due("the words of " + n + " bytes are read", x.office(), FAULTY - 8);
            due("up to the end", x.fault(), 1);
        }
        TopSheet y = new TopSheet();
        y.feed(0x646E6977L, 4);
        due("'dniw'", y.office(), FAULTY);
        y.feed(Long.MIN_VALUE, 8);
        due("the highest bit", y.office(), FAULTY);
        y.feed(Long.MIN_VALUE | 0x2020202020202020L, 7);
        due("the highest bit not fed", y.office(), FAULTY - 7);
    }

    // THE TAPE has at most 500 bytes; FULL: none comes

    private static void tapeOf500Bytes() {
        for (int n = 1; n <= 8; n++) {
            TopSheet x = new TopSheet();
            for (int i = 0; i < 62; i++) {
                x.feed(0x2020202020202020L, 8);
            }
            due("496 and " + n, x.feed(0x2020202020202020L, n), n <= 4 ? 496 + n : FULL);
            due("then", x.count(6), n <= 4 ? 496 + n : 496);
            due("a blank more", x.feed(0x20L, 1), n < 4 ? 497 + n : n == 4 ? FULL : 497);
        }
    }

    private static void officeOf500Bytes() {
        StringBuilder text = new StringBuilder(NEVER + "desk 9");
        while (text.length() < 498) {
            text.append(text.length() % 3 == 0 ? '\n' : ' ');
        }
        text.append("3;");
        TopSheet x = new TopSheet();
        write(x, text.toString());
        due("500 bytes", x.count(6), 500);
        due("a byte more", x.feed('x', 1), FULL);
        due("all are read, and no more", x.office(), 1);
        due("up to the last", x.desk(0, 1), 3);
        write(x, text.substring(0, 499) + "x");
        due("the last is none", x.office(), FAULTY - 499);
        write(x, text.substring(0, 499) + " ");
        due("the end of 500", x.office(), FAULTY - 500);
    }

    private static void fullNotAheadOfBad() {
        TopSheet x = new TopSheet();
        for (int i = 0; i < 125; i++) {
            x.feed(0x20202020L, 4);
        }
        due("bytes", x.count(6), 500);
        due("9 bytes", x.feed(0L, 9), BAD);
        due("no bytes", x.feed(0L, 0), BAD);
        due("1 byte", x.feed(0L, 1), FULL);
        due("8 bytes", x.feed(0L, 8), FULL);
    }

    private static void fullTapeReadAndFedAnew() {
        TopSheet x = new TopSheet();
        for (int i = 0; i < 125; i++) {
            x.feed(0x20202020L, 4);
        }
        due("blanks alone", x.office(), FAULTY - 500);
        due("empty", x.count(6), 0);
        due("from the start", x.feed(0x2020202020202020L, 8), 8);
        for (int i = 0; i < 123; i++) {
            x.feed(0x20202020L, 4);
        }
        due("full anew", x.feed(0x20L, 1), FULL);
    }

    // office: the tape, empty then

    private static void tapeIsEmptyThen() {
        TopSheet x = new TopSheet();
        write(x, ONE_DESK);
        due("an office", x.office(), 1);
        due("bytes", x.count(6), 0);
        due("read twice: an empty tape", x.office(), FAULTY);
        write(x, "wind 7 ");
        due("a fault", x.office(), FAULTY - 7);
        due("bytes", x.count(6), 0);
        write(x, ONE_DESK);
        due("nothing of it is left", x.office(), 1);
    }

    // NAMES (letters a to z)

    private static void namesAreLettersAToZ() {
        for (char c : new char[] {'a', 'm', 'z'}) {
            faultOf("wind" + c + NEVER.substring(4), 0, 1);
            faultOf(c + NEVER, 0, 1);
        }
        for (char c : new char[] {'`', '{', 'A', 'Z', '@', '[', (char) ('a' - 32), (char) ('z' + 128)}) {
            faultOf("wind" + c + NEVER.substring(4), 4, 1);
            faultOf(c + NEVER, 0, 1);
        }
        faultOf("Wind 0", 0, 1);
        faultOf("wi nd 0", 0, 1);
        faultOf("win", 0, 1);
        faultOf("windwind 0", 0, 1);
        faultOf("", 0, 1);
    }

    // NUMBERS (figures, 3 at most)

    private static void numbersHave3FiguresAtMost() {
        TopSheet x = officeOf("wind 0 00 000 100 010 001 7 07 007 10 099 99;desk 009 003;sheet will 000 099 012;");
        due("009", x.desk(0, 0), 9);
        due("003", x.desk(0, 1), 3);
        due("000", x.sheet(0, 2), 0);
        due("099", x.sheet(0, 0), 99);
        due("012", x.sheet(0, 1), 12);
        faultOf("wind 0000 0", 5, 1);
        faultOf("wind 0100 0", 5, 1);
        faultOf("wind 100 0099 0", 9, 1);
        faultOf(NEVER + "desk 0009 0;", DESK + 5, 1);
        faultOf(NEVER + "desk 9 0000;", DESK + 7, 1);
        faultOf(ONE_DESK + "sheet bill 0000 0 0;", SHEET + 11, 1);
        faultOf(ONE_DESK + "sheet bill 0 0001 0;", SHEET + 13, 1);
        faultOf(ONE_DESK + "sheet bill 0 1 0012;", SHEET + 15, 1);
        for (char c : new char[] {'/', ':'}) {
            faultOf("wind " + c, 5, 1);
            faultOf("wind 9" + c, 6, 1);
        }
    }

    // bytes 32 and 10 ahead of, between, behind these, as many as wanted

    private static void bytes32And10() {
        for (String gap : new String[] {" ", "\n", "\n\n", " \n ", BLANKS}) {
            String text = gap + "wind" + gap + "0" + (gap + "0").repeat(11) + gap + ";" + gap + "desk" + gap + "1"
                + gap + "0" + gap + ";" + gap + "sheet" + gap + "will" + gap + "0" + gap + "1" + gap + "2" + gap
                + ";" + gap;
            desksOf(text, 1);
            faultOf(text + "x", text.length(), 1);
        }
        desksOf(BLANKS.repeat(20) + ONE_DESK + BLANKS.repeat(20), 1);
    }

    private static void noOtherBlanks() {
        for (int c : new int[] {0, 1, 8, 9, 11, 12, 13, 31, 33, 127, 128, 138, 160, 255}) {
            faultOf((char) c + ONE_DESK, 0, 1);
            faultOf("wind" + (char) c + "0", 4, 1);
            faultOf("wind 0" + (char) c + "0", 6, 1);
            faultOf(ONE_DESK + (char) c, SHEET, 1);
            faultOf(ONE_DESK + " \n" + (char) c, SHEET + 2, 1);
        }
    }

    // SIGNS ;

    private static void noOtherSigns() {
        for (char c : ":,.-+_#'\"/<>=".toCharArray()) {
            faultOf("wind 0 0 0 0 0 0 0 0 0 0 0 0" + c, 28, 1);
            faultOf("wind " + c + "1 0", 5, 1);
            faultOf(ONE_DESK + c, SHEET, 1);
        }
    }

    // (none is needed where one ends without)

    private static void noneIsNeeded() {
        desksOf("wind0 0 0 0 0 0 0 0 0 0 0 0;desk9 0;desk1 3;sheet will0 0 0;sheet bill1 0 0;", 2);
        faultOf("wind0 0 0 0 0 0 0 0 0 0 0 0;desk90 0;", 32, 2);
        faultOf("wind0 0 0 0 0 0 0 0 0 0 0 0;desk9 0;sheetwill0 0 0;", 36, 1);
        faultOf("wind0desk", 5, 1);
        faultOf("wind0 0 0 0 0 0 0 0 0 0 0 0;;", 28, 1);
    }

    // office: wind desk { desk } { sheet }

    private static void windFirst() {
        faultOf(NEVER.substring(5), 0, 1);
        faultOf("desk 9 0;" + NEVER, 0, 1);
        faultOf("sheet bill 0 0 0;" + NEVER, 0, 1);
        faultOf(";" + NEVER, 0, 1);
        faultOf("0" + NEVER, 0, 1);
        faultOf(NEVER + NEVER, DESK, 1);
        faultOf(ONE_DESK + NEVER, SHEET, 1);
    }

    // wind: 'wind' and 12 NUMBERS ';'

    private static void twelveWinds() {
        faultOf("wind;", 4, 1);
        faultOf("wind 1;", 6, 1);
        faultOf("wind 0 0 0 0 0 0 0 0 0 0 0;desk 1 0;", 26, 1);
        desksOf("wind 0 0 0 0 0 0 0 0 0 0 0 0;desk 1 0;", 1);
        faultOf("wind 0 0 0 0 0 0 0 0 0 0 0 0 0;desk 1 0;", 29, 1);
        faultOf("wind 0 0 0 0 0 0 0 0 0 0 0 0 desk 1 0;", 29, 1);
        TopSheet x = officeOf("wind 0 0 0 0 0 0 0 0 0 0 0 100;desk 1 0;sheet bill 0 1 12;");
        for (int q = 0; q < 11; q++) {
            due("quarter " + q, x.quarter(1), 0);
        }
        due("the twelfth is of QUARTER 11", x.quarter(1), 1);
    }

    // (0 to 100)

    private static void windsAre0To100() {
        for (int place = 0; place < 12; place++) {
            String ahead = "wind" + " 0".repeat(place) + " ";
            String behind = " 0".repeat(11 - place) + ";desk 1 0;";
            desksOf(ahead + "0" + behind, 1);
            desksOf(ahead + "100" + behind, 1);
            faultOf(ahead + "101" + behind, ahead.length(), 2);
            faultOf(ahead + "999" + behind, ahead.length(), 2);
        }
    }

    // desk { desk } (DESKS 0 .. 3, 4 at most): one at least

    private static void oneDeskAtLeast() {
        faultOf(NEVER, DESK, 1);
        faultOf(NEVER + " \n ", DESK + 3, 1);
        faultOf(NEVER + "sheet bill 0 0 0;", DESK, 1);
        faultOf(NEVER + "desk", DESK + 4, 1);
        faultOf(NEVER + "desk 1 1", DESK + 8, 1);
        faultOf(NEVER + ";", DESK, 1);
        faultOf(NEVER + "4", DESK, 1);
        desksOf(NEVER + "desk 1 1;", 1);
    }

    // 'desk' ROOM STONES ';' (1 to 9; 0 to 3)

    private static void roomsAre1To9() {
        for (int room = 1; room <= 9; room++) {
            due("room", officeOf(NEVER + "desk " + room + " 0;").desk(0, 0), room);
        }
        for (int room : new int[] {0, 10, 99, 100, 999}) {
            faultOf(NEVER + "desk " + room + " 0;", DESK + 5, 2);
            faultOf(NEVER + "desk 9 0;desk " + room + " 0;", DESK + 14, 2);
        }
        faultOf(NEVER + "desk;", DESK + 4, 1);
        faultOf(NEVER + "desk bill", DESK + 5, 1);
    }

    private static void stonesAre0To3() {
        for (int stones = 0; stones <= 3; stones++) {
            due("stones", officeOf(NEVER + "desk 1 " + stones + ";").desk(0, 1), stones);
        }
        for (int stones : new int[] {4, 5, 10, 100, 999}) {
            faultOf(NEVER + "desk 9 " + stones + ";", DESK + 7, 2);
            faultOf(NEVER + "desk 9 0;desk 9 " + stones + ";", DESK + 16, 2);
        }
        faultOf(NEVER + "desk 9;", DESK + 6, 1);
        faultOf(NEVER + "desk 9 3 3;", DESK + 9, 1);
    }

    private static void fourDesksAtMost() {
        for (int many = 1; many <= 4; many++) {
            TopSheet x = officeOf(NEVER + desks(many));
            due("desks", x.count(1), many);
            due("the last", x.desk(many - 1, 0), 9);
            due("no other", x.desk(many, 0), BAD);
        }
        faultOf(NEVER + desks(5), DESK + 36, 3);
        faultOf(NEVER + desks(4) + "desk", DESK + 36, 3);
        faultOf(NEVER + desks(4) + "desk 0 9;", DESK + 36, 3);
        faultOf(NEVER + desks(4) + "\n desk 9 0;", DESK + 38, 3);
        faultOf(NEVER + desks(6), DESK + 36, 3);
        faultOf(NEVER + desks(4) + "desks", DESK + 36, 1);
    }

    // SORT: 'warrant' | 'will' | 'bill' | 'blank' | 'slate'

    private static void fiveSorts() {
        String[] sorts = {"bill", "warrant", "will", "blank", "slate"};
        for (int k = 0; k < 5; k++) {
            String sort = sorts[k];
            due(sort, officeOf(ONE_DESK + "sheet " + sort + " 0 0 0;").kind(0), k + 1);
            faultOf(ONE_DESK + "sheet " + sort + "s 0 0 0;", SHEET + 6, 1);
            faultOf(ONE_DESK + "sheet " + sort.substring(1) + " 0 0 0;", SHEET + 6, 1);
            faultOf(ONE_DESK + "sheet " + sort.substring(0, sort.length() - 1) + " 0 0 0;", SHEET + 6, 1);
        }
        for (String none : new String[] {"sheet", "paper", "desk", "wind", "0", "4", ";", "BILL", "1000", "-"}) {
            faultOf(ONE_DESK + "sheet " + none + " 0 0 0;", SHEET + 6, 1);
        }
        faultOf(ONE_DESK + "sheet", SHEET + 5, 1);
        faultOf(ONE_DESK + "sheet bill bill 0 0 0;", SHEET + 11, 1);
    }

    // DESK: one that there is

    private static void desksOfSheets() {
        for (int many = 1; many <= 4; many++) {
            String text = NEVER + desks(many);
            for (int desk : new int[] {0, many - 1}) {
                due("desk", officeOf(text + sheets(1, desk)).sheet(0, 2), desk);
            }
            for (int desk : new int[] {many, many + 1, 9, 100, 999}) {
                faultOf(text + sheets(1, desk), text.length() + 11, 2);
            }
        }
        faultOf(ONE_DESK + "sheet bill;", SHEET + 10, 1);
        faultOf(ONE_DESK + "sheet bill bill", SHEET + 11, 1);
    }

    // a DESK that has ROOM yet, it comes on top there; (a DESK without ROOM, too)

    private static void aDeskThatHasRoomYet() {
        for (int room = 1; room <= 9; room++) {
            String text = NEVER + "desk " + room + " 0;desk 9 0;" + sheets(room, 0);
            TopSheet x = officeOf(text);
            due("as many as there is room for", x.desk(0, 2), room);
            due("the last on top", x.desk(0, 9 + room), room - 1);
            due("the first below", x.desk(0, 10), 0);
            faultOf(text + sheets(1, 0), text.length() + 11, 2);
            due("the other has room", officeOf(text + sheets(1, 1)).count(2), room + 1);
        }
        TopSheet x = officeOf(NEVER + "desk 2 0;desk 2 0;" + sheets(1, 0) + sheets(2, 1) + sheets(1, 0));
        pile("in turns", x, 0, 0, 3);
        pile("in turns", x, 1, 1, 2);
    }

    // 0 to 99; 0 to 12, 12: none

    private static void worthsAre0To99() {
        for (int worth : new int[] {0, 1, 98, 99}) {
            due("worth", officeOf(ONE_DESK + "sheet bill 0 " + worth + " 0;").sheet(0, 0), worth);
        }
        for (int worth : new int[] {100, 101, 999}) {
            faultOf(ONE_DESK + "sheet bill 0 " + worth + " 0;", SHEET + 13, 2);
        }
        faultOf(ONE_DESK + "sheet bill 0;", SHEET + 12, 1);
        faultOf(ONE_DESK + "sheet bill 0 -1 0;", SHEET + 13, 1);
    }

    private static void needsAre0To12() {
        for (int need = 0; need <= 12; need++) {
            due("need", officeOf(ONE_DESK + "sheet bill 0 0 " + need + ";").sheet(0, 1), need);
        }
        for (int need : new int[] {13, 14, 99, 100, 999}) {
            faultOf(ONE_DESK + "sheet bill 0 0 " + need + ";", SHEET + 15, 2);
        }
        faultOf(ONE_DESK + "sheet bill 0 0;", SHEET + 14, 1);
        faultOf(ONE_DESK + "sheet bill 0 0 0 0;", SHEET + 17, 1);
        faultOf(ONE_DESK + "sheet bill 0 0 0", SHEET + 16, 1);
    }

    // SHEETS 0 .. 11, 12 at most

    private static void twelveSheetsAtMost() {
        String two = NEVER + "desk 9 0;desk 9 0;";
        for (int many = 0; many <= 12; many++) {
            TopSheet x = officeOf(two + sheets(many / 2, 0) + sheets(many - many / 2, 1));
            due("sheets", x.count(2), many);
            due("no other", x.sheet(many, 0), BAD);
            due("the last", many == 0 ? 1 : x.sheet(many - 1, 0), 1);
        }
        String twelve = two + sheets(6, 0) + sheets(6, 1);
        faultOf(twelve + sheets(1, 0), twelve.length(), 3);
        faultOf(twelve + "sheet", twelve.length(), 3);
        faultOf(twelve + "\n\nsheet 1000", twelve.length() + 2, 3);
        faultOf(twelve + "sheets", twelve.length(), 1);
        faultOf(twelve + "bill", twelve.length(), 1);
        desksOf(twelve + " \n ", 2);
    }

    private static void desksAheadOfSheets() {
        faultOf(ONE_DESK + sheets(1, 0) + "desk 9 0;", SHEET + 17, 1);
        faultOf(ONE_DESK + sheets(1, 0) + "wind", SHEET + 17, 1);
        String full = NEVER + desks(4) + sheets(1, 3);
        faultOf(full + "desk 9 0;", full.length(), 1);
    }

    // 1 .. is none (a run of four figures or more, at its first; ..)

    private static void fourFiguresAtTheirFirst() {
        faultOf("1234", 0, 1);
        faultOf("wind 1234", 5, 1);
        faultOf("wind 12345678901234567890", 5, 1);
        faultOf("wind 4294967296 0", 5, 1);
        faultOf("wind 4294967396 0", 5, 1);
        faultOf("wind 0 " + "9".repeat(400), 7, 1);
        faultOf("wind 0 0 0 0 0 0 0 0 0 0 0 0 0000;", 29, 1);
        faultOf("wind 0 0 0 0 0 0 0 0 0 0 0 0;0000", 29, 1);
        faultOf(ONE_DESK + "0000", SHEET, 1);
        faultOf(NEVER + "desk 9 0000", DESK + 7, 1);
    }

    // 1 .. the end: how many bytes there are

    private static void theEnd() {
        String whole = NEVER + "desk 9 0;sheet will 0 5 5;";
        for (int length = 0; length < whole.length(); length++) {
            String text = whole.substring(0, length);
            boolean within = length > 0 && Character.isLetter(whole.charAt(length))
                && Character.isLetter(whole.charAt(length - 1));
            if (within) {
                int first = text.length();
                while (first > 0 && Character.isLetter(text.charAt(first - 1))) {
                    first--;
                }
                faultOf(text, first, 1);
            } else if (length == SHEET) {
                desksOf(text, 1);
            } else {
                faultOf(text, length, 1);
                faultOf(text + " \n", length + 2, 1);
            }
        }
        desksOf(whole, 1);
    }

    // FAULTS, the first TOKEN that has one

    private static void theFirstTokenThatHasOne() {
        faultOf("wind 101 1000 x", 5, 2);
        faultOf("wind 0 1000 101", 7, 1);
        faultOf(NEVER + "desk 0 4;", DESK + 5, 2);
        faultOf(NEVER + "desk 10 x", DESK + 5, 2);
        faultOf(NEVER + "desk 9 4 x", DESK + 7, 2);
        faultOf(NEVER + desks(4) + "desk 0 4 x", DESK + 36, 3);
        faultOf(ONE_DESK + "sheet x 9 100 13", SHEET + 6, 1);
        faultOf(ONE_DESK + "sheet bill 1 100 13", SHEET + 11, 2);
        faultOf(ONE_DESK + "sheet bill 0 100 13", SHEET + 13, 2);
        faultOf(ONE_DESK + "sheet bill 0 99 13 x", SHEET + 16, 2);
        faultOf(ONE_DESK + "sheet bill 0 99 12 x", SHEET + 19, 1);
    }

    // of one TOKEN the least

    private static void ofOneTokenTheLeast() {
        faultOf("wind 9999", 5, 1);
        faultOf("wind 0 0 0 0 0 0 0 0 0 0 0 0 101;", 29, 1);
        faultOf("101", 0, 1);
        faultOf(NEVER + "desk 1000 0;", DESK + 5, 1);
        faultOf(NEVER + "desk 9 0 999;", DESK + 9, 1);
        faultOf(ONE_DESK + "sheet bill 1000 0 0;", SHEET + 11, 1);
        String full = NEVER + "desk 1 0;" + sheets(1, 0);
        faultOf(full + "sheet bill 0000 0 0;", full.length() + 11, 1);
        faultOf(full + "sheet bill x 0 0;", full.length() + 11, 1);
        String four = NEVER + desks(4) + sheets(1, 0);
        faultOf(four + "desk 9 0;", four.length(), 1);
        String twelve = NEVER + desks(4) + sheets(6, 0) + sheets(6, 1);
        faultOf(twelve + "desk 9 0;", twelve.length(), 1);
    }

    // office: -1000100 less the place of a FAULT (its first byte)

    private static void placesOfFaults() {
        for (int ahead = 0; ahead <= 40; ahead++) {
            faultOf(" ".repeat(ahead) + "winds", ahead, 1);
        }
        faultOf("\n\n  wind\n 101", 10, 2);
        faultOf(" ".repeat(499) + "x", 499, 1);
        faultOf(" ".repeat(498) + "xx", 498, 1);
        faultOf(" ".repeat(500), 500, 1);
    }

    // QUARTER 0, nothing is GONE or MET, no ACT can be undone; IMAGES and ROWS stay

    private static void officeInPlaceOfTheOneBefore() {
        String text = ALWAYS + "desk 9 0;desk 9 1;" + sheets(2, 0) + sheets(2, 1);
        TopSheet x = officeOf(text);
        x.lift(0);
        x.image(0);
        x.row(7, 2, 5);
        x.blank(1);
        quarters(x, 5);
        write(x, text);
        due("the same anew", x.office(), 2);
        due("quarter", x.count(3), 0);
        due("gone", x.count(5), 0);
        due("acts", x.count(4), 0);
        due("undo", x.undo(), STATE);
        due("sheets, without the blank", x.count(2), 4);
        due("not met", x.sheet(0, 4), 0);
        pile("anew", x, 0, 0, 1);
        pile("anew", x, 1, 2, 3);
        due("rows", x.count(0), 1);
        write(x, NEVER + "desk 1 3;");
        due("a smaller one", x.office(), 1);
        due("its sheets", x.count(2), 0);
        pile("a smaller one", x, 0);
        due("its wind", x.blank(0) + x.quarter(1), 0);
        due("the row has its items", x.drop(7), 5);
        due("an image", x.restore(0), 1);
        due("of the first one", x.count(1), 2);
        due("in which one was met", x.sheet(0, 4), 1);
        due("the other image", x.restore(1), STATE);
    }

    // all but the tape, and what fault() tells, stays

    private static void whatAFaultLeaves() {
        TopSheet x = officeOf(ALWAYS + "desk 9 0;" + sheets(3, 0));
        x.quarter(1);
        x.lift(0);
        write(x, NEVER + desks(4) + sheets(12, 0));
        due("a fault late in the text", x.office(), FAULTY - DESK - 36 - 9 * 17 - 11);
        due("desks", x.count(1), 1);
        due("sheets", x.count(2), 3);
        due("quarter", x.count(3), 1);
        due("gone", x.count(5), 1);
        due("acts", x.count(4), 2);
        due("wind", x.quarter(1), 1);
        due("undo", x.undo() + x.undo(), 1 + 2);
        pile("undone", x, 0, 0, 1);
        TopSheet y = new TopSheet();
        write(y, ONE_DESK + "x");
        due("a fault, and none before", y.office(), FAULTY - SHEET);
        due("no office", y.taken(0, 0), STATE);
        due("no desk", y.desk(0, 0), BAD);
    }

    // fault: the number of the latest FAULT; 0 before one

    private static void faultBeforeOne() {
        TopSheet x = new TopSheet();
        due("of a new object", x.fault(), 0);
        write(x, ONE_DESK);
        due("fed", x.fault(), 0);
        x.office();
        due("after an office", x.fault(), 0);
        x.lift(9);
        x.row(0, 0, -1);
        due("other refusals and findings are none", x.fault(), 0);
    }

    private static void latestFault() {
        TopSheet x = new TopSheet();
        write(x, NEVER + desks(5));
        x.office();
        due("3", x.fault(), 3);
        write(x, ONE_DESK);
        x.office();
        due("3, after an office", x.fault(), 3);
        write(x, "wind 101");
        due("3, before it is read", x.fault(), 3);
        x.office();
        due("2", x.fault(), 2);
        x.office();
        due("1, of an empty tape", x.fault(), 1);
    }
}
