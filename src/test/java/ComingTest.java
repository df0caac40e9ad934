/** Promises 15 to 19: who would come, the cheapest, gifts, orders, what two would do. */
public final class ComingTest {
    private static final Due DUE = new Due("ComingTest");

    public static void main(String[] args) {
        comeByKind();
        comeOfBusyOnes();
        comeAsItStands();
        comeRefused();
        cheapest();
        cheapestOfSeveral();
        cheapestRefused();
        gifts();
        giftsRefused();
        order();
        orderOfAFew();
        orderByCoins();
        orderAgainWhenItChanges();
        orderOfLikeVillages();
        orderOfSix();
        orderRefused();
        mutualOfPlainOnes();
        mutualOfSpitefulOnes();
        mutualByDebts();
        mutualAtTheEnds();
        mutualRefused();
        DUE.end();
    }

    private static void unchanged(TrialFunerals x, String before, String call) {
        DUE.is(call + " changes nothing", before.equals(Villages.look(x)) ? 1 : 0, 1);
    }

    /** The least tie (0 to 9) with which each kind comes, by bells; without cake, nothing owed. */
    private static final int[][] LEAST = {{6, 5, 4, 3}, {8, 7, 6, 5}, {6, 5, 4, 3}, {6, 5, 4, 3}, {5, 4, 3, 2}};

    private static void comeByKind() {
        for (int kind = 0; kind <= 4; kind++) {
            for (int tie = 0; tie <= 9; tie++) {
                for (int owed = 0; owed <= 1; owed++) {
                    TrialFunerals x = Villages.laid("p0,1,0;p" + kind + ",1,0;t1,0," + tie + ";o1,0," + owed + ";");
                    for (int fare = 0; fare < 16; fare++) {
                        comeOf(x, kind, tie, owed, fare);
                    }
                }
            }
        }
    }

    private static void comeOf(TrialFunerals x, int kind, int tie, int owed, int fare) {
        int b = fare / 4;
        int c = fare % 4;
        boolean comes = tie >= LEAST[kind][b];
        if (kind == 1 && tie <= 3) comes = true;
        if (kind == 2 && c > 0) comes = true;
        if (kind == 4 && owed > 0) comes = false;
        String call = "15: kind " + kind + " tie " + tie + " owed " + owed + " by " + b + " " + c;
        DUE.is(call, x.come(0, b, c, 0), comes ? 1 : 0);
        DUE.is(call + " who", x.come(0, b, c, 1), comes ? 2 : 0);
    }

    private static void comeOfBusyOnes() {
        TrialFunerals x = Villages.laid("p0,60,9;p3,1,9;p0,60,9;t1,0,9;t1,2,9;t0,2,9;");
        DUE.is("15: no trial yet", x.come(2, 0, 0, 1), 3);
        x.trial(0, 0, 0);
        DUE.is("15: one on this day", x.come(2, 3, 3, 1), 1);
        x.pass(1);
        DUE.is("15: none on this day", x.come(2, 0, 0, 1), 3);
    }

    private static void comeAsItStands() {
        TrialFunerals x = new TrialFunerals();
        DUE.is("15: come(0, 0, 0, 1)", x.come(0, 0, 0, 1), 10);
        DUE.is("15: come(0, 1, 1, 1)", x.come(0, 1, 1, 1), 14);
        DUE.is("15: come(4, 2, 0, 0)", x.come(4, 2, 0, 0), 3);
        DUE.is("15: one too young", x.come(3, 3, 3, 1), 21);
        x.pay(4, 0);
        DUE.is("15: the debtor paid", x.come(0, 0, 0, 1), 26);
        x.die(3);
        DUE.is("15: a dead one does not", x.come(0, 0, 0, 1), 18);
        x.trial(0, 0, 0);
        DUE.is("15: had it already", x.come(0, 0, 0, 1), 18);
        TrialFunerals y = Villages.laid("p0,60,0;p0,1,1;t1,0,9;");
        DUE.is("15: could not pay", y.come(0, 3, 3, 1), 2);
        DUE.is("15: alone", Villages.laid("p0,60,0;").come(0, 3, 3, 0), 0);
    }

    private static void comeRefused() {
        TrialFunerals x = Villages.laid("p0,60,9;p0,60,9;");
        x.die(1);
        String before = Villages.look(x);
        int[][] bad = {{-1, 0, 0, 0}, {2, 0, 0, 0}, {0, -1, 0, 0}, {0, 4, 0, 0}, {0, 0, -1, 0}, {0, 0, 4, 0},
            {0, 0, 0, -1}, {0, 0, 0, 2}, {1, 4, 0, 0}, {1, 0, 0, 2}, {1, 0, 9, 0}, {Integer.MAX_VALUE, 0, 0, 0}};
        for (int[] call : bad) {
            DUE.is("15: a bad one", x.come(call[0], call[1], call[2], call[3]), -1);
        }
        DUE.is("15: dead", x.come(1, 0, 0, 0), -2);
        unchanged(x, before, "15: come");
    }

    private static void cheapest(TrialFunerals x, int p, int set, int coins, int fare) {
        DUE.is("16: cheapest(" + p + ", " + set + ", 0)", x.cheapest(p, set, 0), coins);
        DUE.is("16: cheapest(" + p + ", " + set + ", 1)", x.cheapest(p, set, 1), fare);
    }

    private static void cheapest() {
        TrialFunerals x = new TrialFunerals();
        cheapest(x, 0, 2, 0, 0);
        cheapest(x, 0, 8, 0, 0);
        cheapest(x, 0, 4, 2, 10);
        cheapest(x, 0, 14, 2, 10);
        cheapest(x, 0, 16, -4, -4);
        cheapest(x, 0, 30, -4, -4);
        cheapest(x, 4, 15, -4, -4);
        cheapest(x, 4, 4, 3, 1);
        cheapest(x, 4, 5, 4, 20);
        x.trial(1, 0, 0);
        cheapest(x, 0, 8, -4, -4);
        x.pass(1);
        cheapest(x, 0, 8, 0, 0);
        x.die(3);
        cheapest(x, 0, 8, -4, -4);
        cheapest(x, 0, 10, -4, -4);
    }

    private static void cheapestOfSeveral() {
        // 1 (plain) wants so many bells as told, 2 (poor) wants cake or as many.
        cheapest(Villages.laid("p0,1,0;p0,1,0;p2,1,0;t1,0,3;t2,0,0;"), 0, 6, 9, 31);
        cheapest(Villages.laid("p0,1,0;p0,1,0;p2,1,0;t1,0,3;t2,0,3;"), 0, 6, 6, 30);
        cheapest(Villages.laid("p0,1,0;p0,1,0;p2,1,0;t1,0,4;t2,0,4;"), 0, 6, 4, 20);
        cheapest(Villages.laid("p0,1,0;p0,1,0;p2,1,0;t1,0,5;t2,0,4;"), 0, 6, 4, 20);
        cheapest(Villages.laid("p0,1,0;p0,1,0;p2,1,0;t1,0,5;t2,0,4;"), 0, 4, 3, 1);
        cheapest(Villages.laid("p0,1,0;p0,1,0;p2,1,0;t1,0,5;t2,0,0;"), 0, 6, 5, 11);
        cheapest(Villages.laid("p0,1,0;p0,1,0;p2,1,0;t1,0,2;t2,0,0;"), 0, 2, -4, -4);
        cheapest(Villages.laid("p0,1,0;p1,1,0;p1,1,0;t1,0,3;t2,0,5;"), 0, 6, 6, 30);
    }

    private static void cheapestRefused() {
        TrialFunerals x = Villages.laid("p0,60,9;p0,60,9;p0,60,9;");
        x.die(1);
        String before = Villages.look(x);
        int[][] bad = {{-1, 1, 0}, {3, 1, 0}, {0, 0, 0}, {0, 1, 0}, {0, 3, 0}, {0, 8, 0}, {0, 10, 0}, {0, -2, 0},
            {0, 6, -1}, {0, 6, 2}, {1, 2, 0}, {1, 0, 0}, {1, 1, 2}, {0, Integer.MAX_VALUE - 1, 0}, {0, Integer.MIN_VALUE, 0}};
        for (int[] call : bad) {
            DUE.is("16: cheapest(" + call[0] + ", " + call[1] + ", " + call[2] + ")",
                x.cheapest(call[0], call[1], call[2]), -1);
        }
        DUE.is("16: dead", x.cheapest(1, 1, 0), -2);
        DUE.is("16: dead, another question", x.cheapest(1, 5, 1), -2);
        DUE.is("16: a set with a dead one", x.cheapest(0, 2, 0), -4);
        unchanged(x, before, "16: cheapest");
        TrialFunerals six = Villages.laid("p0,1,1;p0,1,1;p0,1,1;p0,1,1;p0,1,1;p0,1,1;");
        DUE.is("16: five others", six.cheapest(5, 31, 0), 4);
        DUE.is("16: beyond six", six.cheapest(5, 64, 0), -1);
        DUE.is("16: himself", six.cheapest(5, 63, 0), -1);
    }

    private static void gifts() {
        TrialFunerals x = new TrialFunerals();
        DUE.is("17: of the first village", x.gifts(4, 15, 0, 0), 10);
        DUE.is("17: with bells and cake", x.gifts(4, 15, 1, 1), 5);
        DUE.is("17: who owes", x.gifts(0, 16, 3, 3), -4);
        DUE.is("17: who comes", x.gifts(0, 2, 0, 0), 0);
        int[][] least = {{6, 5, 4, 3}, {8, 7, 6, 5}, {6, 5, 4, 3}, {6, 5, 4, 3}, {5, 4, 3, 2}};
        for (int kind = 0; kind <= 4; kind++) {
            for (int tie = 0; tie <= 9; tie++) {
                TrialFunerals y = Villages.laid("p0,1,0;p" + kind + ",1,0;t1,0," + tie + ";");
                for (int b = 0; b <= 3; b++) {
                    int few = Math.max(0, least[kind][b] - tie);
                    if (kind == 1 && tie <= 3) few = 0;
                    DUE.is("17: kind " + kind + " tie " + tie + " by " + b, y.gifts(0, 2, b, 0), few);
                    DUE.is("17: with cake", y.gifts(0, 2, b, 1), kind == 2 ? 0 : few);
                }
            }
        }
        x.trial(1, 0, 0);
        DUE.is("17: a busy one on a day with a trial", x.gifts(0, 8, 3, 3), -4);
        x.pass(1);
        DUE.is("17: on the next day", x.gifts(0, 8, 0, 0), 0);
        x.die(3);
        DUE.is("17: a dead one", x.gifts(0, 8, 3, 3), -4);
        DUE.is("17: a dead one among them", x.gifts(0, 12, 3, 3), -4);
    }

    private static void giftsRefused() {
        TrialFunerals x = Villages.laid("p0,60,9;p0,60,9;p0,60,9;");
        x.die(1);
        String before = Villages.look(x);
        int[][] bad = {{-1, 1, 0, 0}, {3, 1, 0, 0}, {0, 0, 0, 0}, {0, 1, 0, 0}, {0, 3, 0, 0}, {0, 8, 0, 0}, {0, -2, 0, 0},
            {0, 6, -1, 0}, {0, 6, 4, 0}, {0, 6, 0, -1}, {0, 6, 0, 4}, {1, 2, 0, 0}, {1, 1, 4, 0}, {0, Integer.MIN_VALUE, 0, 0}};
        for (int[] call : bad) {
            DUE.is("17: gifts(" + call[0] + ", " + call[1] + ", ..)", x.gifts(call[0], call[1], call[2], call[3]), -1);
        }
        DUE.is("17: dead", x.gifts(1, 1, 0, 0), -2);
        unchanged(x, before, "17: gifts");
    }

    private static void orderIs(String what, TrialFunerals x, int b, int c, int... want) {
        for (int k = 0; k <= 6; k++) {
            DUE.is("18: " + what + ", place " + k, x.order(b, c, k), k < want.length ? want[k] : -4);
        }
    }

    private static void order() {
        TrialFunerals x = new TrialFunerals();
        String before = Villages.look(x);
        orderIs("the first village", x, 1, 1, 7, 0, 1, 2, 4);
        unchanged(x, before, "18: order");
        for (int p = 0; p < 5; p++) {
            x.die(p);
        }
        orderIs("nobody lives", x, 0, 0, 0);
    }

    private static void orderOfAFew() {
        orderIs("too young, all of them", Villages.laid("p0,1,1;p0,1,1;"), 0, 0, 0);
        orderIs("nobody comes", Villages.laid("p0,60,1;p0,1,1;p0,60,1;"), 0, 0, 0, 0, 2);
        orderIs("one alone", Villages.laid("p0,60,1;"), 0, 0, 0, 0);
        // The busy one comes to the first trial alone, and to 1's only if he is the first one.
        orderIs("a busy one", Villages.laid("p0,60,1;p0,60,1;p3,1,1;t2,1,9;"), 0, 0, 1, 1, 0);
        orderIs("a busy one for both", Villages.laid("p0,60,1;p0,60,1;p3,1,1;t2,0,9;t2,1,9;"), 0, 0, 1, 0, 1);
        // 0 has the tie 1 to 1: he comes to 1's, if 1 came to his before.
        orderIs("who came has him come", Villages.laid("p0,60,1;p0,60,1;t1,0,9;t0,1,5;"), 0, 0, 2, 0, 1);
        orderIs("who came has him come, turned", Villages.laid("p0,60,1;p0,60,1;t0,1,9;t1,0,5;"), 0, 0, 2, 1, 0);
        TrialFunerals x = Villages.laid("p0,60,1;p0,60,1;p0,60,1;");
        x.trial(1, 0, 0);
        orderIs("without one who had it", x, 0, 0, 0, 0, 2);
        x.die(0);
        orderIs("without a dead one", x, 0, 0, 0, 2);
    }

    private static void orderByCoins() {
        // 0 can pay the trial but by the flowers of his guests; 1 must have the coins for it.
        orderIs("who can not pay has none", Villages.laid("p0,60,1;p0,60,9;t1,0,9;"), 1, 0, 0, 0, 1);
        // 1 owes 0 and comes: by the flowers 1 has too few coins then for his own, to which 2 comes.
        orderIs("by flowers he can not pay", Villages.laid("p0,60,2;p0,60,2;p0,1,1;t1,0,9;t2,1,9;t2,0,0;o1,0,4;"),
            1, 0, 2, 1, 0);
        // 0 has too few coins, but for the flowers of 2 to 1; 1's trial pays nothing to 0.
        orderIs("flowers pay the next trial", Villages.laid("p0,60,0;p0,60,2;p0,60,2;t0,1,9;t1,2,9;t2,1,9;o0,1,2;t1,0,9;"),
            1, 0, 3, 0, 1, 2);
    }

    private static void orderAgainWhenItChanges() {
        TrialFunerals x = Villages.laid("p0,60,9;p0,60,9;p0,49,9;");
        orderIs("at first", x, 0, 0, 0, 0, 1);
        orderIs("by three bells", x, 3, 0, 4, 0, 1);
        orderIs("by none again", x, 0, 0, 0, 0, 1);
        x.gift(0, 1);
        x.gift(0, 1);
        orderIs("by gifts", x, 0, 0, 1, 0, 1);
        x.undo();
        orderIs("undone", x, 0, 0, 0, 0, 1);
        x.pass(30);
        orderIs("older", x, 0, 0, 0, 0, 1, 2);
        x.die(0);
        orderIs("without a dead one", x, 0, 0, 0, 1, 2);
    }

    /** Villages laid one behind the other, most unlike the last one in one thing told: no answer may be the last one's. */
    private static void orderOfLikeVillages() {
        TrialFunerals x = new TrialFunerals();
        String[] texts = {"p0,60,9;p0,60,9;", "p2,60,9;p0,60,9;", "p2,60,1;p0,60,9;", "p2,60,1;p0,60,1;", "p2,49,9;p0,60,9;",
            "p4,60,9;p0,60,9;t0,1,5;", "p4,60,9;p0,60,9;t0,1,5;o0,1,1;", "p0,60,9;p0,60,9;p0,60,9;", "p0,60,9;p0,60,9;g61;"};
        int[][] want = {{0, 0, 1}, {1, 0, 1}, {1, 0, 1}, {0, 0, 1}, {1, 1}, {1, 1, 0}, {0, 0, 1}, {0, 0, 1, 2}, {0}};
        for (int k = 0; k < texts.length; k++) {
            x.wipe();
            Villages.write(x, texts[k]);
            x.lay();
            orderIs(texts[k], x, 0, 1, want[k]);
        }
    }

    private static void orderOfSix() {
        TrialFunerals x = Villages.laid("p0,60,0;p0,60,0;p0,60,0;p0,60,0;p0,60,0;p0,60,0;");
        orderIs("six of no tie", x, 0, 0, 0, 0, 1, 2, 3, 4, 5);
        // Each comes to the next lower one's, by tie 2, and each to the next higher one's, by tie 1, if that one came.
        TrialFunerals y = Villages.laid("p0,60,0;p0,60,0;p0,60,0;p0,60,0;p0,60,0;p0,60,0;"
            + "t0,1,6;t1,2,6;t2,3,6;t3,4,6;t4,5,6;t1,0,5;t2,1,5;t3,2,5;t4,3,5;t5,4,5;");
        orderIs("six in a row", y, 0, 0, 10, 5, 4, 3, 2, 1, 0);
    }

    private static void orderRefused() {
        TrialFunerals x = Villages.laid("p0,60,9;p0,60,9;");
        String before = Villages.look(x);
        int[][] bad = {{-1, 0, 0}, {4, 0, 0}, {0, -1, 0}, {0, 4, 0}, {0, 0, -1}, {0, 0, 7}, {Integer.MAX_VALUE, 0, 0},
            {0, 0, Integer.MIN_VALUE}, {4, 0, 6}};
        for (int[] call : bad) {
            DUE.is("18: order(" + call[0] + ", " + call[1] + ", " + call[2] + ")", x.order(call[0], call[1], call[2]), -1);
        }
        DUE.is("18: no third", x.order(0, 0, 3), -4);
        unchanged(x, before, "18: order");
    }

    private static void mutualIs(String what, TrialFunerals x, int i, int j, int resting, int first) {
        DUE.is("19: " + what + ", how many", x.mutual(i, j, 0), resting);
        DUE.is("19: " + what + ", the first", x.mutual(i, j, 1), first);
    }

    private static void mutualOfPlainOnes() {
        TrialFunerals x = new TrialFunerals();
        String before = Villages.look(x);
        mutualIs("0 and the spiteful 1", x, 0, 1, 2, 2);
        mutualIs("0 and 4 who owes him", x, 0, 4, 1, 3);
        mutualIs("2 and 3", x, 2, 3, 1, 3);
        unchanged(x, before, "19: mutual");
    }

    private static void mutualOfSpitefulOnes() {
        mutualIs("two spiteful ones", Villages.laid("p1,1,0;p1,1,0;"), 0, 1, 4, 0);
        mutualIs("the first one spiteful", Villages.laid("p1,1,0;p0,1,0;"), 0, 1, 2, 1);
        mutualIs("the other one spiteful", Villages.laid("p0,1,0;p1,1,0;"), 0, 1, 2, 2);
        // A spiteful one loses his flowers if he comes, and gains no tie.
        mutualIs("spiteful ones who owe", Villages.laid("p1,1,9;p1,1,9;o0,1,8;o1,0,8;"), 0, 1, 1, 0);
    }

    private static void mutualByDebts() {
        // To come is worth 3 times 2: flowers of 6 cost as much, those of 7 more, those of 5 less.
        mutualIs("flowers of 5", Villages.laid("p0,1,20;p0,1,20;o0,1,10;"), 0, 1, 1, 3);
        mutualIs("flowers of 6", Villages.laid("p0,1,20;p0,1,20;o0,1,12;"), 0, 1, 2, 1);
        mutualIs("flowers of 6, cut", Villages.laid("p0,1,20;p0,1,20;o0,1,13;"), 0, 1, 2, 1);
        mutualIs("flowers of 7", Villages.laid("p0,1,20;p0,1,20;o0,1,14;"), 0, 1, 1, 1);
        mutualIs("flowers of 7, but 5 coins", Villages.laid("p0,1,5;p0,1,20;o0,1,14;"), 0, 1, 1, 3);
        mutualIs("both owe", Villages.laid("p0,1,20;p0,1,20;o0,1,14;o1,0,14;"), 0, 1, 1, 0);
        // The first one's trial is the first: its flowers are his for the other one's.
        mutualIs("flowers for flowers", Villages.laid("p0,1,0;p1,1,20;o0,1,30;o1,0,40;t0,1,9;"), 0, 1, 1, 2);
        mutualIs("turned", Villages.laid("p1,1,20;p0,1,0;o1,0,30;o0,1,40;t1,0,9;"), 1, 0, 1, 2);
        // None rests, by the gains (first one's, other one's): 00: -3, 5; 01: 4, 4; 10: 3, 5; 11: 3, 11.
        mutualIs("none rests", Villages.laid("p0,1,0;p0,1,8;o0,1,14;o1,0,14;"), 0, 1, 0, -4);
    }

    private static void mutualAtTheEnds() {
        // At 5 and at -4 a tie does not go on: from 5 it is 5 or 4, from -4 it is -3 or -4.
        mutualIs("ties of 5, flowers of 3", Villages.laid("p0,1,20;p0,1,20;t1,0,9;o0,1,6;"), 0, 1, 2, 1);
        mutualIs("ties of 5, flowers of 4", Villages.laid("p0,1,20;p0,1,20;t1,0,9;o0,1,8;"), 0, 1, 1, 1);
        mutualIs("ties of -4, flowers of 3", Villages.laid("p0,1,20;p0,1,20;t1,0,0;o0,1,6;"), 0, 1, 2, 1);
        mutualIs("ties of -4, flowers of 2", Villages.laid("p0,1,20;p0,1,20;t1,0,0;o0,1,4;"), 0, 1, 1, 3);
        TrialFunerals x = Villages.laid("p0,60,0;p3,1,0;p0,60,9;");
        x.trial(0, 0, 0);
        mutualIs("had it, too young, no coins, busy", x, 0, 1, 1, 3);
    }

    private static void mutualRefused() {
        TrialFunerals x = Villages.laid("p0,60,9;p0,60,9;p0,60,9;");
        x.die(1);
        String before = Villages.look(x);
        int[][] bad = {{-1, 0, 0}, {0, -1, 0}, {0, 0, 0}, {3, 0, 0}, {0, 3, 0}, {0, 2, -1}, {0, 2, 2}, {1, 1, 0}, {1, 0, 2},
            {Integer.MIN_VALUE, 0, 0}};
        for (int[] call : bad) {
            DUE.is("19: mutual(" + call[0] + ", " + call[1] + ", " + call[2] + ")", x.mutual(call[0], call[1], call[2]), -1);
        }
        DUE.is("19: the first is dead", x.mutual(1, 0, 0), -2);
        DUE.is("19: the other is dead", x.mutual(0, 1, 1), -2);
        DUE.is("19: both live", x.mutual(0, 2, 0), 1);
        unchanged(x, before, "19: mutual");
    }
}
