/** Promises 20 to 23: what is seen, forgotten, felt, and of which kind one would be. */
public final class SeenTest {
    private static final Due DUE = new Due("SeenTest");

    public static void main(String[] args) {
        see();
        seeRefused();
        forget();
        feltByKind();
        feltOfTwoAlone();
        feltAsItStandsNow();
        feltRefused();
        kinds();
        kindsAsItStandsNow();
        kindsRefused();
        DUE.end();
    }

    private static void unchanged(TrialFunerals x, String before, String call) {
        DUE.is(call + " changes nothing", before.equals(Villages.look(x)) ? 1 : 0, 1);
    }

    private static void see() {
        TrialFunerals x = Villages.laid("p0,1,1;p0,1,1;p0,1,1;");
        x.die(2);
        DUE.is("20: one", x.see(0, 1, 0, 0, true), 1);
        DUE.is("20: the same again", x.see(0, 1, 0, 0, true), 2);
        DUE.is("20: of a dead one's trial", x.see(0, 2, 3, 3, false), 3);
        DUE.is("20: of a dead one", x.see(2, 0, 3, 3, false), 4);
        DUE.is("20: what is not so", x.see(1, 0, 0, 0, true), 5);
        DUE.is("20: the opposite", x.see(1, 0, 0, 0, false), 6);
        DUE.is("20: count", x.count(7), 6);
        String before = Villages.look(x);
        DUE.is("20: full", x.see(0, 1, 0, 0, true), -3);
        DUE.is("20: bad ahead of full", x.see(0, 0, 0, 0, true), -1);
        unchanged(x, before, "20: full");
        DUE.is("20: not undone", x.undo(), 0);
        DUE.is("20: still seen", x.count(7), 6);
    }

    private static void seeRefused() {
        TrialFunerals x = Villages.laid("p0,1,1;p0,1,1;");
        String before = Villages.look(x);
        int[][] bad = {{-1, 0, 0, 0}, {0, -1, 0, 0}, {0, 0, 0, 0}, {2, 0, 0, 0}, {0, 2, 0, 0}, {0, 1, -1, 0}, {0, 1, 4, 0},
            {0, 1, 0, -1}, {0, 1, 0, 4}, {Integer.MIN_VALUE, 1, 0, 0}};
        for (int[] call : bad) {
            DUE.is("20: a bad one", x.see(call[0], call[1], call[2], call[3], true), -1);
            DUE.is("20: a bad one", x.see(call[0], call[1], call[2], call[3], false), -1);
        }
        unchanged(x, before, "20: bad");
    }

    private static void forget() {
        TrialFunerals x = new TrialFunerals();
        DUE.is("21: nothing", x.forget(), 0);
        x.see(1, 0, 0, 0, true);
        x.see(1, 0, 3, 0, false);
        DUE.is("21: two", x.forget(), 2);
        DUE.is("21: none left", x.forget(), 0);
        DUE.is("21: count", x.count(7), 0);
        DUE.is("21: felt", x.felt(1, 0), 1023);
        DUE.is("21: kinds", x.kinds(1), 31);
        for (int k = 1; k <= 6; k++) {
            DUE.is("21: room again", x.see(1, 0, 0, 0, true), k);
        }
    }

    /** The least tie (0 to 9) with which each kind comes, by bells. */
    private static final int[][] LEAST = {{6, 5, 4, 3}, {8, 7, 6, 5}, {6, 5, 4, 3}, {6, 5, 4, 3}, {5, 4, 3, 2}};

    private static int from(int least) {
        return 1023 & ~((1 << least) - 1);
    }

    private static void feltByKind() {
        for (int kind = 0; kind <= 4; kind++) {
            for (int fare = 0; fare < 16; fare++) {
                int b = fare / 4;
                int c = fare % 4;
                int bits = from(LEAST[kind][b]);
                if (kind == 1) bits |= 15;
                if (kind == 2 && c > 0) bits = 1023;
                TrialFunerals x = Villages.laid("p0,1,1;p" + kind + ",1,1;");
                x.see(1, 0, b, c, true);
                DUE.is("22: kind " + kind + " comes by " + b + " " + c, x.felt(1, 0), bits);
                x.forget();
                x.see(1, 0, b, c, false);
                DUE.is("22: kind " + kind + " does not by " + b + " " + c, x.felt(1, 0), 1023 & ~bits);
            }
        }
        TrialFunerals y = Villages.laid("p0,1,1;p0,1,1;t1,0,0;");
        y.see(1, 0, 1, 0, true);
        y.see(1, 0, 0, 3, false);
        DUE.is("22: both", y.felt(1, 0), 1 << 5);
        y.see(1, 0, 2, 0, false);
        DUE.is("22: none", y.felt(1, 0), 0);
    }

    private static void feltOfTwoAlone() {
        TrialFunerals x = Villages.laid("p0,1,1;p0,1,1;p0,1,1;");
        DUE.is("22: nothing seen", x.felt(0, 1), 1023);
        x.see(0, 1, 0, 0, true);
        DUE.is("22: for him", x.felt(0, 1), 960);
        DUE.is("22: for another one", x.felt(0, 2), 1023);
        DUE.is("22: the other way", x.felt(1, 0), 1023);
        DUE.is("22: of another one", x.felt(2, 1), 1023);
    }

    private static void feltAsItStandsNow() {
        TrialFunerals x = Villages.laid("p4,60,9;p0,60,9;p3,60,9;o0,1,5;");
        x.see(0, 1, 0, 0, true);
        DUE.is("22: who owes comes by none", x.felt(0, 1), 0);
        x.pay(0, 1);
        DUE.is("22: who has paid", x.felt(0, 1), from(5));
        x.undo();
        DUE.is("22: undone", x.felt(0, 1), 0);
        x.see(2, 1, 0, 0, true);
        DUE.is("22: no trial on this day", x.felt(2, 1), from(6));
        x.trial(0, 0, 0);
        DUE.is("22: one on this day", x.felt(2, 1), 0);
        x.pass(1);
        DUE.is("22: on the next day", x.felt(2, 1), from(6));
        x.die(1);
        DUE.is("22: for a dead one", x.felt(2, 1), from(6));
        DUE.is("22: what is owed is gone", x.felt(0, 1), from(5));
        x.die(2);
        DUE.is("22: of a dead one", x.felt(2, 1), 0);
        x.forget();
        x.see(2, 1, 0, 0, false);
        DUE.is("22: a dead one does not come", x.felt(2, 1), 1023);
    }

    private static void feltRefused() {
        TrialFunerals x = Villages.laid("p0,1,1;p0,1,1;");
        int[][] bad = {{-1, 0}, {0, -1}, {0, 0}, {2, 0}, {0, 2}, {Integer.MAX_VALUE, 0}, {0, Integer.MIN_VALUE}};
        for (int[] two : bad) {
            DUE.is("22: felt(" + two[0] + ", " + two[1] + ")", x.felt(two[0], two[1]), -1);
        }
    }

    private static void kinds() {
        TrialFunerals x = Villages.laid("p0,1,1;p0,1,1;p0,1,1;t0,1,6;t0,2,3;");
        DUE.is("23: nothing seen", x.kinds(0), 31);
        x.see(0, 1, 0, 0, true);
        DUE.is("23: tie 2, comes", x.kinds(0), 1 + 4 + 8 + 16);
        DUE.is("23: of another one", x.kinds(1), 31);
        x.see(0, 2, 3, 0, true);
        DUE.is("23: tie -1 by 3, comes", x.kinds(0), 1 + 4 + 8 + 16);
        x.see(0, 2, 2, 0, false);
        DUE.is("23: tie -1 by 2, does not", x.kinds(0), 1 + 4 + 8);
        x.see(0, 2, 0, 1, true);
        DUE.is("23: tie -1 by cake, comes", x.kinds(0), 4);
        x.see(0, 2, 0, 0, true);
        DUE.is("23: tie -1, comes", x.kinds(0), 0);
        x.forget();
        x.see(0, 2, 0, 0, true);
        DUE.is("23: the spiteful alone", x.kinds(0), 2);
    }

    private static void kindsAsItStandsNow() {
        TrialFunerals x = Villages.laid("p0,60,9;p0,60,9;p0,60,9;t0,1,6;o0,1,4;");
        x.see(0, 1, 0, 0, true);
        DUE.is("23: who owes is no debtor", x.kinds(0), 1 + 4 + 8);
        x.pay(0, 1);
        DUE.is("23: who has paid may be", x.kinds(0), 1 + 4 + 8 + 16);
        x.gift(1, 0);
        x.gift(1, 0);
        DUE.is("23: by another tie", x.kinds(0), 31);
        x.trial(2, 0, 0);
        DUE.is("23: a trial on this day", x.kinds(0), 31 - 8);
        x.pass(1);
        DUE.is("23: on the next day", x.kinds(0), 31);
        x.die(0);
        DUE.is("23: a dead one comes as none", x.kinds(0), 0);
        x.forget();
        x.see(0, 1, 0, 0, false);
        DUE.is("23: a dead one does not come", x.kinds(0), 31);
    }

    private static void kindsRefused() {
        TrialFunerals x = Villages.laid("p0,1,1;p0,1,1;");
        int[] bad = {-1, 2, 6, Integer.MAX_VALUE, Integer.MIN_VALUE};
        for (int i : bad) {
            DUE.is("23: kinds(" + i + ")", x.kinds(i), -1);
        }
    }
}
