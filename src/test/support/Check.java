/** What the tests share: answers beside those that are due, texts fed, offices read. */
abstract class Check {
    static final int NONE = -1000000, BAD = -1000001, STATE = -1000002, FULL = -1000003;
    static final int NO_ROW = -1000011, NO_PLACE = -1000012, NO_KIND = -1000013;
    static final int NO_SIZE = -1000014, NO_STORE = -1000015;
    static final int FAULTY = -1000100;
    static final int MIN = Integer.MIN_VALUE, MAX = Integer.MAX_VALUE;

    static final String ALWAYS = "wind 100 100 100 100 100 100 100 100 100 100 100 100;";
    static final String NEVER = "wind 0 0 0 0 0 0 0 0 0 0 0 0;";

    private static int wrong = 0;

    static void due(String call, int got, int want) {
        if (got != want) {
            wrong++;
            System.out.println(call + " answered " + got + ", due is " + want);
        }
    }

    static void write(TopSheet x, String text) {
        for (int i = 0; i < text.length(); i += 8) {
            long w = 0;
            int n = Math.min(8, text.length() - i);
            for (int k = 0; k < n; k++) {
                w = w << 8 | text.charAt(i + k) & 255;
            }
            x.feed(w, n);
        }
    }

    static TopSheet officeOf(String text) {
        TopSheet x = new TopSheet();
        write(x, text);
        int desks = x.office();
        if (desks < 1) {
            wrong++;
            System.out.println("not read: " + text + " " + desks + ", fault " + x.fault());
        }
        return x;
    }

    /** A new object reads the text and finds that FAULT at that place. */
    static void faultOf(String text, int place, int number) {
        TopSheet x = new TopSheet();
        write(x, text);
        due("office() of '" + text + "'", x.office(), FAULTY - place);
        due("fault() of '" + text + "'", x.fault(), number);
        due("tape after '" + text + "'", x.count(6), 0);
        due("desks after '" + text + "'", x.count(1), 0);
    }

    static void desksOf(String text, int desks) {
        TopSheet x = new TopSheet();
        write(x, text);
        due("office() of '" + text + "'", x.office(), desks);
    }

    static void quarters(TopSheet x, int many) {
        for (int i = 0; i < many; i++) {
            x.quarter(1);
        }
    }

    /** The pile of a desk from below, sheet by sheet, and no more. */
    static void pile(String when, TopSheet x, int desk, int... sheets) {
        due(when + ": how many on desk " + desk, x.desk(desk, 2), sheets.length);
        for (int i = 0; i < sheets.length; i++) {
            due(when + ": desk " + desk + " from below " + i, x.desk(desk, 10 + i), sheets[i]);
        }
        due(when + ": desk " + desk + " above all", x.desk(desk, 10 + sheets.length), NONE);
    }

    static void end(String well) {
        System.out.println(wrong == 0 ? well : wrong + " answers are not as due");
        if (wrong != 0) {
            System.exit(1);
        }
    }
}
