/** Promises 9 to 14: trials, gifts, debts paid, deaths, days, all of it undone. */
public final class DaysTest {
    private static final Due DUE = new Due("DaysTest");

    public static void main(String[] args) {
        trialOfTheFirstVillage();
        trialRefused();
        trialByAge();
        trialByCoins();
        tiesByTrial();
        flowers();
        busyOnes();
        deadOnes();
        gift();
        giftRefused();
        pay();
        payRefused();
        die();
        dieOfLast();
        dieRefused();
        pass();
        undoOfEach();
        undoAtMostEight();
        DUE.end();
    }

    private static void unchanged(TrialFunerals x, String before, String call) {
        DUE.is(call + " changes nothing", before.equals(Villages.look(x)) ? 1 : 0, 1);
    }

    private static void trialOfTheFirstVillage() {
        TrialFunerals x = new TrialFunerals();
        DUE.is("9: who came", x.trial(0, 1, 1), 14);
        DUE.is("9: coins less 5, by flowers 1", x.person(0, 2), 16);
        DUE.is("9: flowers", x.person(2, 2), 2);
        DUE.is("9: owed still", x.owes(2, 0), 2);
        DUE.is("9: who did not come pays nothing", x.owes(4, 0), 10);
        int[] ties = {-1, 6, 7, 5, 3};
        for (int j = 1; j < 5; j++) {
            DUE.is("9: tie(0, " + j + ")", x.tie(0, j), ties[j]);
        }
        DUE.is("9: theirs stay", x.tie(1, 0), 2);
        DUE.is("9: had", x.count(2), 1);
        DUE.is("9: on this day", x.count(4), 1);
        DUE.is("9: can be undone", x.count(8), 1);
        DUE.is("9: a second one", x.trial(1, 0, 1), 5);
        DUE.is("9: had", x.count(2), 2);
        DUE.is("9: on this day", x.count(4), 2);
    }

    private static void trialRefused() {
        TrialFunerals x = Villages.laid("p0,60,9;p0,60,9;p0,49,9;");
        x.trial(0, 0, 0);
        x.die(1);
        String before = Villages.look(x);
        int[][] bad = {{-1, 0, 0}, {3, 0, 0}, {0, -1, 0}, {0, 4, 0}, {0, 0, -1}, {0, 0, 4}, {1, 4, 0}, {2, 0, 4},
            {Integer.MAX_VALUE, 0, 0}, {0, Integer.MIN_VALUE, 0}};
        for (int[] call : bad) {
            DUE.is("9: trial(" + call[0] + ", " + call[1] + ", " + call[2] + ")", x.trial(call[0], call[1], call[2]), -1);
        }
        DUE.is("9: had", x.trial(0, 0, 0), -2);
        DUE.is("9: dead", x.trial(1, 0, 0), -2);
        DUE.is("9: too young", x.trial(2, 0, 0), -2);
        unchanged(x, before, "9: a trial refused");
    }

    private static void trialByAge() {
        TrialFunerals x = Villages.laid("g21;p0,20,9;p0,20,9;");
        DUE.is("9: 20 of 21", x.trial(0, 0, 0), -2);
        x.pass(29);
        DUE.is("9: 29 days", x.trial(0, 0, 0), -2);
        x.pass(1);
        DUE.is("9: 30 days", x.trial(0, 0, 0), 0);
    }

    private static void trialByCoins() {
        for (int b = 0; b <= 3; b++) {
            for (int c = 0; c <= 3; c++) {
                int cost = 2 * b + 3 * c;
                TrialFunerals x = Villages.laid("p0,60," + cost + ";");
                DUE.is("9: just enough for " + b + " " + c, x.trial(0, b, c), 0);
                DUE.is("9: none left", x.person(0, 2), 0);
                if (cost == 0) continue;
                TrialFunerals y = Villages.laid("p0,60," + (cost - 1) + ";");
                DUE.is("9: too few for " + b + " " + c, y.trial(0, b, c), -2);
                DUE.is("9: all left", y.person(0, 2), cost - 1);
            }
        }
    }

    private static void tiesByTrial() {
        // 1 and 2 come (the tie to 2 is 5 already), 3 (spiteful) comes, 4 and 5 (spiteful, the tie -4 already) do not.
        TrialFunerals x = Villages.laid("p0,60,9;p0,1,1;p0,1,1;p1,1,1;p0,1,1;p1,1,1;"
            + "t1,0,6;t2,0,7;t3,0,3;t4,0,5;t5,0,4;t0,1,4;t0,2,9;t0,3,4;t0,4,1;t0,5,0;");
        DUE.is("9: who came", x.trial(0, 0, 0), 2 + 4 + 8);
        int[] ties = {-1, 5, 9, 3, 0, 0};
        for (int j = 1; j < 6; j++) {
            DUE.is("9: tie to " + j, x.tie(0, j), ties[j]);
        }
        TrialFunerals y = Villages.laid("p0,60,9;p1,1,1;t1,0,0;t0,1,0;");
        DUE.is("9: a spiteful one came", y.trial(0, 0, 0), 2);
        DUE.is("9: -4 is the least", y.tie(0, 1), 0);
    }

    private static void flowers() {
        TrialFunerals x = Villages.laid("p0,60,0;p0,1,60;p0,1,3;p0,1,9;p0,1,0;p0,1,9;"
            + "t1,0,9;t2,0,9;t3,0,9;t4,0,9;o1,0,60;o2,0,9;o3,0,1;o4,0,8;o5,0,8;o0,1,20;");
        DUE.is("9: who came", x.trial(0, 0, 0), 30);
        int[] coins = {33, 30, 0, 9, 0, 9};
        int[] owed = {0, 30, 6, 1, 8, 8};
        for (int p = 0; p < 6; p++) {
            DUE.is("9: flowers, coins of " + p, x.person(p, 2), coins[p]);
            if (p > 0) DUE.is("9: flowers, owed by " + p, x.owes(p, 0), owed[p]);
        }
        DUE.is("9: what he owes stays", x.owes(0, 1), 20);
        TrialFunerals y = Villages.laid("p0,60,2;p0,1,5;t1,0,9;o1,0,5;");
        y.trial(0, 1, 0);
        DUE.is("9: half of 5, cut", y.person(0, 2), 2);
        DUE.is("9: 3 left", y.owes(1, 0), 3);
        TrialFunerals z = Villages.laid("p0,60,2;p0,1,60;t1,0,9;o1,0,50;");
        DUE.is("9: flowers do not pay the trial", z.trial(0, 0, 1), -2);
    }

    private static void busyOnes() {
        TrialFunerals x = Villages.laid("p0,60,9;p0,60,9;p3,60,9;t2,0,9;t2,1,9;");
        DUE.is("9: the first on this day", x.trial(0, 0, 0), 4);
        DUE.is("9: the second on this day", x.trial(1, 0, 0), 0);
        DUE.is("9: the tie is less", x.tie(1, 2), 3);
        x.undo();
        x.pass(1);
        DUE.is("9: on the next day", x.trial(1, 0, 0), 4);
    }

    private static void deadOnes() {
        TrialFunerals x = Villages.laid("p0,60,9;p0,60,9;p2,60,9;t1,0,9;t2,0,9;t0,1,6;");
        x.die(1);
        DUE.is("9: a dead one does not come", x.trial(0, 0, 1), 4);
        DUE.is("9: the tie to a dead one stays", x.tie(0, 1), 6);
    }

    private static void gift() {
        TrialFunerals x = Villages.laid("p0,1,5;p1,99,60;t0,1,2;t1,0,8;");
        DUE.is("10: the tie of the other one", x.gift(0, 1), 9);
        DUE.is("10: costs 2", x.person(0, 2), 3);
        DUE.is("10: to nobody", x.person(1, 2), 60);
        DUE.is("10: his own tie stays", x.tie(0, 1), 2);
        DUE.is("10: it is so", x.tie(1, 0), 9);
        DUE.is("10: can be undone", x.count(8), 1);
        DUE.is("10: back", x.gift(1, 0), 3);
        DUE.is("10: back costs 2", x.person(1, 2), 58);
    }

    private static void giftRefused() {
        TrialFunerals x = Villages.laid("p0,1,2;p0,1,1;p0,1,9;p0,1,9;t2,0,9;t1,0,8;");
        x.die(3);
        String before = Villages.look(x);
        int[][] bad = {{-1, 0}, {0, -1}, {0, 0}, {4, 0}, {0, 4}, {3, 3}, {Integer.MIN_VALUE, 0}};
        for (int[] two : bad) {
            DUE.is("10: gift(" + two[0] + ", " + two[1] + ")", x.gift(two[0], two[1]), -1);
        }
        DUE.is("10: the tie is 5", x.gift(0, 2), -2);
        DUE.is("10: 1 coin", x.gift(1, 2), -2);
        DUE.is("10: to a dead one", x.gift(2, 3), -2);
        DUE.is("10: of a dead one", x.gift(3, 2), -2);
        unchanged(x, before, "10: a gift refused");
        DUE.is("10: 2 coins", x.gift(0, 1), 9);
        DUE.is("10: no coins", x.gift(0, 1), -2);
    }

    private static void pay() {
        TrialFunerals x = Villages.laid("p0,1,20;p0,1,0;p0,1,5;o0,1,12;o0,2,12;o2,0,9;");
        DUE.is("11: all of it", x.pay(0, 1), 12);
        DUE.is("11: paid", x.person(0, 2), 8);
        DUE.is("11: got", x.person(1, 2), 12);
        DUE.is("11: owes nothing", x.owes(0, 1), 0);
        DUE.is("11: as far as coins go", x.pay(0, 2), 8);
        DUE.is("11: owes the rest", x.owes(0, 2), 4);
        DUE.is("11: none left", x.person(0, 2), 0);
        DUE.is("11: the other way", x.pay(2, 0), 9);
        DUE.is("11: the rest", x.pay(0, 2), 4);
        DUE.is("11: ties stay", x.tie(2, 0), 4);
        DUE.is("11: can be undone", x.count(8), 4);
    }

    private static void payRefused() {
        TrialFunerals x = Villages.laid("p0,1,20;p0,1,0;p0,1,5;o1,0,12;o2,0,5;o0,2,3;");
        x.die(2);
        String before = Villages.look(x);
        int[][] bad = {{-1, 0}, {0, -1}, {0, 0}, {3, 0}, {0, 3}, {Integer.MAX_VALUE, Integer.MAX_VALUE}};
        for (int[] two : bad) {
            DUE.is("11: pay(" + two[0] + ", " + two[1] + ")", x.pay(two[0], two[1]), -1);
        }
        DUE.is("11: owes nothing", x.pay(0, 1), -2);
        DUE.is("11: no coins", x.pay(1, 0), -2);
        DUE.is("11: a dead one owes nothing", x.pay(2, 0), -2);
        DUE.is("11: nothing owed to a dead one", x.pay(0, 2), -2);
        unchanged(x, before, "11: a debt not paid");
    }

    private static void die() {
        // The heir of 0 is 2; 1 and 3 owe him, 2 owes him, he owes 1.
        TrialFunerals x = Villages.laid("p0,1,20;p0,1,1;p0,1,2;p0,1,3;t0,2,8;t0,3,8;t0,1,7;"
            + "o1,0,10;o3,0,20;o2,0,30;o0,1,40;o0,2,7;o1,2,5;o2,1,6;o1,3,11;");
        DUE.is("12: the heir", x.die(0), 2);
        int[] coins = {0, 1, 22, 3};
        for (int p = 0; p < 4; p++) {
            DUE.is("12: coins of " + p, x.person(p, 2), coins[p]);
            DUE.is("12: dead " + p, x.person(p, 3), p == 0 ? 1 : 0);
        }
        int[][] debts = {{0, 0, 0, 0}, {0, 0, 15, 11}, {0, 6, 0, 0}, {0, 0, 20, 0}};
        for (int i = 0; i < 4; i++) {
            for (int j = 0; j < 4; j++) {
                if (i != j) DUE.is("12: owes " + i + " " + j, x.owes(i, j), debts[i][j]);
            }
        }
        DUE.is("12: live", x.count(1), 3);
        DUE.is("12: can be undone", x.count(8), 1);
        TrialFunerals z = Villages.laid("p0,1,1;p0,1,1;p0,1,1;t1,2,9;o0,1,9;o0,2,3;");
        z.die(1);
        DUE.is("12: 0 owes the heir", z.owes(0, 2), 12);
        TrialFunerals y = Villages.laid("p0,1,1;p0,1,1;p0,1,1;o2,0,60;o2,1,60;");
        y.die(0);
        DUE.is("12: debts beyond 60", y.owes(2, 1), 120);
    }

    private static void dieOfLast() {
        TrialFunerals x = Villages.laid("p0,1,20;p0,1,1;o0,1,3;o1,0,4;");
        DUE.is("12: one is left", x.die(1), 0);
        DUE.is("12: no debts", x.count(6), 0);
        DUE.is("12: coins of all", x.count(5), 21);
        DUE.is("12: none is left", x.die(0), -4);
        DUE.is("12: coins gone", x.count(5), 0);
        DUE.is("12: nobody lives", x.count(1), 0);
        DUE.is("12: it can be undone", x.undo(), 1);
        DUE.is("12: coins again", x.person(0, 2), 21);
    }

    private static void dieRefused() {
        TrialFunerals x = Villages.laid("p0,1,20;p0,1,1;");
        x.die(1);
        String before = Villages.look(x);
        DUE.is("12: dead already", x.die(1), -2);
        DUE.is("12: die(-1)", x.die(-1), -1);
        DUE.is("12: die(2)", x.die(2), -1);
        DUE.is("12: die(largest)", x.die(Integer.MAX_VALUE), -1);
        unchanged(x, before, "12: no death");
    }

    private static void pass() {
        TrialFunerals x = Villages.laid("p0,60,9;p0,60,9;");
        DUE.is("13: one", x.pass(1), 1);
        x.trial(0, 0, 0);
        DUE.is("13: a trial on this day", x.count(4), 1);
        String before = Villages.look(x);
        int[] bad = {0, 31, -1, Integer.MAX_VALUE, Integer.MIN_VALUE};
        for (int n : bad) {
            DUE.is("13: pass(" + n + ")", x.pass(n), -1);
        }
        unchanged(x, before, "13: days that do not go by");
        DUE.is("13: thirty", x.pass(30), 31);
        DUE.is("13: no trial on this day", x.count(4), 0);
        DUE.is("13: had still", x.count(2), 1);
        DUE.is("13: days", x.count(3), 31);
        DUE.is("13: older", x.person(0, 1), 61);
    }

    private static void undoOfEach() {
        TrialFunerals x = Villages.laid("p0,60,9;p0,60,9;p1,49,30;t1,0,9;o1,0,7;o2,1,3;");
        String[] stands = new String[6];
        stands[0] = Villages.lookWithoutUndo(x);
        x.trial(0, 1, 0);
        stands[1] = Villages.lookWithoutUndo(x);
        x.gift(0, 1);
        x.gift(0, 2);
        stands[2] = Villages.lookWithoutUndo(x);
        x.pay(2, 1);
        stands[3] = Villages.lookWithoutUndo(x);
        x.pass(30);
        stands[4] = Villages.lookWithoutUndo(x);
        x.die(1);
        x.see(0, 2, 1, 1, true);
        x.write('p');
        x.keep();
        for (int k = 4; k >= 0; k--) {
            DUE.is("14: undo to " + k, x.undo(), k);
            DUE.is("14: as it was at " + k, stands[k].equals(Villages.lookWithoutUndo(x)) ? 1 : 0, 1);
        }
        DUE.is("14: none left", x.undo(), -2);
        DUE.is("14: what is seen stays", x.count(7), 1);
        DUE.is("14: what is kept stays", x.count(9), 1);
        DUE.is("14: the text stays", x.count(10), 1);
    }

    private static void undoAtMostEight() {
        TrialFunerals x = Villages.laid("p0,60,9;p0,60,9;");
        DUE.is("14: nothing yet", x.undo(), -2);
        for (int k = 1; k <= 11; k++) {
            x.pass(k);
            DUE.is("14: can be undone", x.count(8), Math.min(8, k));
        }
        x.pass(31);
        x.trial(0, 3, 3);
        x.gift(0, 0);
        DUE.is("14: a call that is refused is none", x.count(8), 8);
        int days = 66;
        for (int k = 11; k >= 4; k--) {
            DUE.is("14: undo", x.undo(), k - 4);
            days -= k;
            DUE.is("14: days", x.count(3), days);
        }
        DUE.is("14: the first three can not be", x.undo(), -2);
        DUE.is("14: days of them", x.count(3), 6);
        x.pass(2);
        DUE.is("14: one again", x.undo(), 0);
        DUE.is("14: days", x.count(3), 6);
    }
}
