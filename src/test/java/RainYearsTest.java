/** Promises 24 to 28: rain, years, villages kept, counts. */
public final class RainYearsTest {
    private static final Due DUE = new Due("RainYearsTest");

    public static void main(String[] args) {
        rain();
        rainOfFive();
        rainRefused();
        yearOfTheFirstVillage();
        yearOfOne();
        yearOfTwo();
        yearFromNowOn();
        yearRefused();
        keepAndBack();
        keptAllButSeenAndText();
        backEndsUndo();
        countOfEach();
        DUE.end();
    }

    private static void unchanged(TrialFunerals x, String before, String call) {
        DUE.is(call + " changes nothing", before.equals(Villages.look(x)) ? 1 : 0, 1);
    }

    private static void rainIs(TrialFunerals x, int n, int tenths, int above, int below) {
        DUE.is("24: " + n + " or more by " + tenths + ", above", x.rain(0, 1, 0, n, tenths, 0), above);
        DUE.is("24: " + n + " or more by " + tenths + ", below", x.rain(0, 1, 0, n, tenths, 1), below);
    }

    private static void rain() {
        TrialFunerals first = new TrialFunerals();
        DUE.is("24: the first village, above", first.rain(0, 1, 1, 1, 5, 0), 7);
        DUE.is("24: the first village, below", first.rain(0, 1, 1, 1, 5, 1), 8);
        // Three come by one bell, a fourth does not.
        TrialFunerals x = Villages.laid("p0,1,0;p0,1,0;p0,1,0;p0,1,0;p0,1,0;t1,0,5;t2,0,5;t3,0,5;t4,0,4;");
        String before = Villages.look(x);
        rainIs(x, 0, 0, 1, 1);
        rainIs(x, 1, 0, 0, 1);
        rainIs(x, 6, 0, 0, 1);
        rainIs(x, 0, 10, 1, 1);
        rainIs(x, 3, 10, 1, 1);
        rainIs(x, 4, 10, 0, 1);
        rainIs(x, 0, 3, 1, 1);
        rainIs(x, 1, 3, 657, 1000);
        rainIs(x, 2, 3, 27, 125);
        rainIs(x, 3, 3, 27, 1000);
        rainIs(x, 4, 3, 0, 1);
        rainIs(x, 3, 5, 1, 8);
        rainIs(x, 2, 5, 1, 2);
        rainIs(x, 3, 8, 64, 125);
        unchanged(x, before, "24: rain");
        DUE.is("24: none would come", Villages.laid("p0,1,0;").rain(0, 0, 0, 0, 5, 0), 1);
        DUE.is("24: none would come, one", Villages.laid("p0,1,0;").rain(0, 0, 0, 1, 5, 0), 0);
        DUE.is("24: none would come, below", Villages.laid("p0,1,0;").rain(0, 0, 0, 1, 5, 1), 1);
    }

    private static void rainOfFive() {
        TrialFunerals x = Villages.laid("p0,1,0;p0,1,0;p0,1,0;p0,1,0;p0,1,0;p0,1,0;t1,0,9;t2,0,9;t3,0,9;t4,0,9;t5,0,9;");
        rainIs(x, 5, 1, 1, 100000);
        rainIs(x, 4, 1, 23, 50000);
        rainIs(x, 1, 1, 40951, 100000);
        rainIs(x, 5, 9, 59049, 100000);
        rainIs(x, 2, 5, 13, 16);
        rainIs(x, 6, 10, 0, 1);
        x.die(5);
        rainIs(x, 4, 1, 1, 10000);
    }

    private static void rainRefused() {
        TrialFunerals x = Villages.laid("p0,60,9;p0,60,9;");
        x.die(1);
        String before = Villages.look(x);
        int[][] bad = {{-1, 0, 0, 0, 0, 0}, {2, 0, 0, 0, 0, 0}, {0, -1, 0, 0, 0, 0}, {0, 4, 0, 0, 0, 0}, {0, 0, -1, 0, 0, 0},
            {0, 0, 4, 0, 0, 0}, {0, 0, 0, -1, 0, 0}, {0, 0, 0, 7, 0, 0}, {0, 0, 0, 0, -1, 0}, {0, 0, 0, 0, 11, 0},
            {0, 0, 0, 0, 0, -1}, {0, 0, 0, 0, 0, 2}, {1, 0, 0, 7, 0, 0}, {1, 0, 0, 0, 11, 0}, {1, 0, 0, 0, 0, 2},
            {0, 0, 0, Integer.MIN_VALUE, 0, 0}};
        for (int[] c : bad) {
            DUE.is("24: a bad one", x.rain(c[0], c[1], c[2], c[3], c[4], c[5]), -1);
        }
        DUE.is("24: dead", x.rain(1, 0, 0, 0, 0, 0), -2);
        DUE.is("24: dead, below", x.rain(1, 0, 0, 0, 0, 1), -2);
        unchanged(x, before, "24: rain");
    }

    private static void yearIs(String what, TrialFunerals x, int z, int n, int came, int coins) {
        DUE.is("25: " + what + ", how many came", x.year(z, n, 0), came);
        DUE.is("25: " + what + ", coins", x.year(z, n, 1), coins);
    }

    private static void yearOfTheFirstVillage() {
        TrialFunerals x = new TrialFunerals();
        String before = Villages.look(x);
        yearIs("the first village", x, 5, 60, 12, 21);
        unchanged(x, before, "25: year");
    }

    private static void yearOfOne() {
        // The draws are 1 by z = 0, 22803 by z = 1: 2 bells and no cake.
        yearIs("no bells", Villages.laid("p0,60,60;"), 0, 1, 0, 60);
        yearIs("two bells", Villages.laid("p0,60,60;"), 1, 1, 0, 56);
        yearIs("too young", Villages.laid("p0,49,60;"), 1, 1, 0, 60);
        yearIs("too few coins", Villages.laid("p0,60,3;"), 1, 1, 0, 3);
        yearIs("just enough coins", Villages.laid("p0,60,4;"), 1, 1, 0, 0);
        // By z = 9999 the x is 79182082, whose square is beyond an int; the draw is 51303: no bells, 3 of cake.
        yearIs("the last z", Villages.laid("p0,60,60;"), 9999, 1, 0, 51);
    }

    private static void yearOfTwo() {
        // z = 1: 22803 is 1 modulo 2; 22803 by 128, cut, is 178: 1 has a trial with 2 bells, or gives a gift to 0.
        yearIs("a trial", Villages.laid("p0,1,9;p0,60,9;"), 1, 1, 1, 14);
        yearIs("a trial to which none comes", Villages.laid("p0,1,9;p0,60,9;t0,1,3;"), 1, 1, 0, 14);
        yearIs("by flowers", Villages.laid("p0,1,9;p0,60,9;o0,1,6;"), 1, 1, 1, 14);
        yearIs("a gift", Villages.laid("p0,1,9;p0,49,9;"), 1, 1, 0, 16);
        yearIs("a gift of too few coins", Villages.laid("p0,1,9;p0,49,1;"), 1, 1, 0, 10);
        yearIs("a gift for a tie of 5", Villages.laid("p0,1,9;p0,49,9;t0,1,9;"), 1, 1, 0, 18);
        TrialFunerals x = Villages.laid("p0,1,9;p0,49,9;");
        x.die(0);
        yearIs("a gift to a dead one", x, 1, 1, 0, 18);
        // z = 0: the draws are 1 (1 has a trial by no bells, no cake) and 41487 (1 had it: a gift to 324 modulo 2, that is 0).
        yearIs("the second day", Villages.laid("p0,1,60;p0,60,60;"), 0, 2, 0, 118);
        // The tie to 1 is 1: by that gift it is 2, but nobody has a trial any more.
        yearIs("one day", Villages.laid("p0,1,60;p0,60,60;t0,1,6;"), 0, 1, 1, 120);
    }

    private static void yearFromNowOn() {
        // z = 1 draws 0 of 3, by 2 bells: the busy 1 comes, but not on a day with a trial; 2 comes too, unless his tie has become less.
        TrialFunerals x = Villages.laid("p0,60,60;p3,1,9;p0,60,9;t1,0,9;");
        yearIs("a busy one", x, 1, 1, 2, 65 + 9);
        x.trial(2, 0, 0);
        yearIs("a busy one after a trial on this day", x, 1, 1, 0, 65 + 9);
        x.pass(1);
        yearIs("a busy one on the next day", x, 1, 1, 1, 65 + 9);
        TrialFunerals y = Villages.laid("p0,49,60;");
        y.pass(29);
        yearIs("too young on the last day", y, 1, 1, 0, 60);
        // The draw of the second day is 54100: 2 bells, 2 of cake.
        yearIs("old enough on the second day", y, 1, 2, 0, 50);
        yearIs("and then no more", y, 1, 60, 0, 50);
        y.pass(1);
        yearIs("old enough", y, 1, 1, 0, 56);
        TrialFunerals z = new TrialFunerals();
        String before = Villages.look(z);
        for (int n = 1; n <= 60; n++) {
            z.year(9999 - n, n, n % 2);
        }
        unchanged(z, before, "25: many years");
    }

    private static void yearRefused() {
        TrialFunerals x = Villages.laid("p0,60,9;p0,60,9;");
        String before = Villages.look(x);
        int[][] bad = {{-1, 1, 0}, {10000, 1, 0}, {0, 0, 0}, {0, 61, 0}, {0, -1, 0}, {0, 1, -1}, {0, 1, 2},
            {Integer.MAX_VALUE, 1, 0}, {0, Integer.MIN_VALUE, 0}};
        for (int[] c : bad) {
            DUE.is("25: year(" + c[0] + ", " + c[1] + ", " + c[2] + ")", x.year(c[0], c[1], c[2]), -1);
        }
        unchanged(x, before, "25: year");
        x.die(0);
        x.die(1);
        yearIs("all are dead", x, 7, 60, 0, 0);
    }

    private static void keepAndBack() {
        TrialFunerals x = Villages.laid("p0,60,9;p1,60,9;t1,0,9;o1,0,6;");
        DUE.is("27: nothing kept", x.back(), -2);
        String first = Villages.lookWithoutUndo(x);
        DUE.is("26: one", x.keep(), 1);
        unchanged(x, Villages.look(x), "26: looking");
        x.trial(0, 1, 0);
        x.pass(30);
        String second = Villages.lookWithoutUndo(x);
        DUE.is("26: two", x.keep(), 2);
        x.die(0);
        String before = Villages.look(x);
        DUE.is("26: full", x.keep(), -3);
        unchanged(x, before, "26: full");
        DUE.is("27: the last one", x.back(), 1);
        DUE.is("27: as kept last", second.equals(Villages.lookWithoutUndo(x)) ? 1 : 0, 1);
        DUE.is("27: the first one", x.back(), 0);
        DUE.is("27: as kept first", first.equals(Villages.lookWithoutUndo(x)) ? 1 : 0, 1);
        DUE.is("27: none left", x.back(), -2);
        DUE.is("27: stays", first.equals(Villages.lookWithoutUndo(x)) ? 1 : 0, 1);
        x.pass(1);
        DUE.is("26: room again", x.keep(), 1);
        DUE.is("26: a gift", x.gift(1, 0), 5);
        DUE.is("26: room again", x.keep(), 2);
        DUE.is("27: back", x.back(), 1);
        DUE.is("26: the second anew", x.keep(), 2);
        DUE.is("27: the second", x.back(), 1);
        DUE.is("27: with the gift", x.person(1, 2), 7);
        DUE.is("27: the first", x.back(), 0);
        DUE.is("27: without it", x.person(1, 2), 9);
    }

    private static void keptAllButSeenAndText() {
        TrialFunerals x = Villages.laid("p0,60,9;p0,60,9;");
        x.see(0, 1, 0, 0, true);
        x.write('p');
        x.keep();
        x.see(0, 1, 1, 0, false);
        x.write('0');
        x.back();
        DUE.is("27: what is seen stays", x.count(7), 2);
        DUE.is("27: felt by both", x.felt(0, 1), 0);
        DUE.is("27: the text stays", x.count(10), 2);
        x.keep();
        x.forget();
        x.wipe();
        x.back();
        DUE.is("27: what is forgotten stays so", x.count(7), 0);
        DUE.is("27: wiped", x.count(10), 0);
    }

    private static void backEndsUndo() {
        TrialFunerals x = Villages.laid("p0,60,9;p0,60,9;");
        x.pass(1);
        x.keep();
        DUE.is("26: what can be undone stays", x.count(8), 1);
        x.pass(2);
        DUE.is("26: what is kept stays by undo", x.undo() * 10 + x.count(9), 11);
        x.pass(3);
        x.back();
        DUE.is("27: nothing can be undone", x.count(8), 0);
        DUE.is("27: undo", x.undo(), -2);
        DUE.is("27: days", x.count(3), 1);
        x.pass(4);
        DUE.is("27: undo again", x.undo(), 0);
        DUE.is("27: days again", x.count(3), 1);
    }

    private static void countOfEach() {
        TrialFunerals x = Villages.laid("p0,60,20;p0,60,9;p0,60,30;o0,1,8;o1,2,7;o2,0,6;");
        counts(x, 3, 3, 0, 0, 0, 59, 21, 0, 0, 0, 0);
        x.trial(0, 1, 1);
        counts(x, 3, 3, 1, 0, 1, 54, 21, 0, 1, 0, 0);
        x.trial(1, 0, 0);
        counts(x, 3, 3, 2, 0, 2, 54, 21, 0, 2, 0, 0);
        x.pass(7);
        counts(x, 3, 3, 2, 7, 0, 54, 21, 0, 3, 0, 0);
        x.pay(0, 1);
        counts(x, 3, 3, 2, 7, 0, 54, 13, 0, 4, 0, 0);
        x.gift(2, 0);
        counts(x, 3, 3, 2, 7, 0, 52, 13, 0, 5, 0, 0);
        x.die(2);
        // The heir is 0: 1 owes him now, what he owed is gone.
        counts(x, 3, 2, 2, 7, 0, 52, 7, 0, 6, 0, 0);
        x.see(0, 1, 0, 0, true);
        x.keep();
        x.write('p');
        x.write('p');
        counts(x, 3, 2, 2, 7, 0, 52, 7, 1, 6, 1, 2);
        x.die(0);
        counts(x, 3, 1, 2, 7, 0, 52, 0, 1, 7, 1, 2);
        int[] bad = {-1, 11, 12, Integer.MAX_VALUE, Integer.MIN_VALUE};
        for (int what : bad) {
            DUE.is("28: count(" + what + ")", x.count(what), -1);
        }
    }

    private static void counts(TrialFunerals x, int... want) {
        for (int what = 0; what < want.length; what++) {
            DUE.is("28: count(" + what + ")", x.count(what), want[what]);
        }
    }
}
