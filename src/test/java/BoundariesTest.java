/** The ends of what the terms of the document tell, in its order, as far as no other test holds them. */
public final class BoundariesTest {
    private static final Due DUE = new Due("BoundariesTest");

    public static void main(String[] args) {
        textOf200();
        tooLongText();
        toldAhead();
        layAfterWhatIsOnlyAsked();
        noneComesToHisOwn();
        coinsBeyond60();
        debtsBeyond60();
        agesBeyond99();
        tiesAtBothEnds();
        giftsToTheEnd();
        undoneOfTenUnlikeOnes();
        refusedOnesAreNotUndone();
        giftsOfOneWhoNeverComes();
        orderOfWhoIsJustOldEnough();
        orderOnADayWithATrial();
        orderByOneChangeAlone();
        orderFoundLate();
        mutualOnADayWithATrial();
        sixAreWeighed();
        theLastDayOfAYear();
        yearWithADeadOne();
        keptUnderneathUndo();
        DUE.end();
    }

    private static String repeated(String part, int times) {
        StringBuilder text = new StringBuilder();
        for (int k = 0; k < times; k++) {
            text.append(part);
        }
        return text.toString();
    }

    /** A TEXT is letters (200 at most): the 200th is read, too. */
    private static void textOf200() {
        String text = "p0,50,9;p0,51,9;" + repeated("g50;", 45) + "g51;";
        DUE.is("text: as long as can be", text.length(), 200);
        TrialFunerals x = new TrialFunerals();
        Villages.write(x, text);
        DUE.is("text: all written", x.count(10), 200);
        DUE.is("text: without fault", x.fault(), -4);
        DUE.is("text: laid", x.lay(), 2);
        DUE.is("text: the last item counts", x.trial(0, 0, 0), -2);
        DUE.is("text: 51 is enough", x.trial(1, 0, 0), 0);
    }

    /** FULL: what is refused stands nowhere, so an item whose end is the 201st letter is a fault. */
    private static void tooLongText() {
        TrialFunerals x = new TrialFunerals();
        Villages.write(x, "p0,50,9;" + repeated("g50;", 47) + "g501;");
        DUE.is("text: 200 of 201", x.count(10), 200);
        DUE.is("text: no number of three figures", x.fault(), 196);
        x.wipe();
        Villages.write(x, "p0,50,9;p" + repeated("0", 191) + ";");
        DUE.is("text: a number without end", x.fault(), 8);
        x.wipe();
        Villages.write(x, repeated(";", 200));
        DUE.is("text: many items of none", x.fault(), 0);
        DUE.is("text: not laid", x.lay(), -2);
        DUE.is("text: as at first", x.count(0), 5);
    }

    /** TIES and debts are told of PERSONS told ahead, though they come behind. */
    private static void toldAhead() {
        String[] behind = {"t0,1,5;p0,1,1;p0,1,1;", "p0,1,1;t0,1,5;p0,1,1;", "p0,1,1;t1,0,5;p0,1,1;", "p0,1,1;o0,1,5;p0,1,1;",
            "p0,1,1;o1,0,5;p0,1,1;"};
        for (String text : behind) {
            TrialFunerals x = new TrialFunerals();
            Villages.write(x, text);
            DUE.is("text: fault of " + text, x.fault(), text.startsWith("t") ? 0 : 7);
            DUE.is("text: not laid " + text, x.lay(), -2);
        }
        DUE.is("text: told just ahead", Villages.laid("p0,1,1;p0,1,1;t0,1,5;p0,1,1;t1,2,9;").tie(1, 2), 9);
    }

    /** LAID is as told: no TRIAL on this day, though one was while MUTUAL and A YEAR were asked for. */
    private static void layAfterWhatIsOnlyAsked() {
        TrialFunerals x = new TrialFunerals();
        Villages.write(x, "p0,60,9;p3,60,9;p0,60,9;t1,0,9;t1,2,9;");
        x.lay();
        x.trial(2, 0, 0);
        x.mutual(0, 1, 0);
        x.lay();
        DUE.is("laid: no trial on this day", x.count(4), 0);
        DUE.is("laid: the busy one comes", x.come(0, 0, 0, 1), 2);
        x.trial(2, 0, 0);
        x.fault();
        DUE.is("fault: the trial on this day stays", x.count(4), 1);
        x.year(1, 1, 0);
        DUE.is("year: it stays, too", x.count(4), 1);
    }

    /** To a TRIAL of another one COMES who lives: not to his own one. */
    private static void noneComesToHisOwn() {
        String[] each = {"p0,60,15;", "p1,60,15;", "p2,60,15;", "p3,60,15;", "p4,60,15;"};
        for (String one : each) {
            TrialFunerals x = Villages.laid(one + "p2,60,0;" + one);
            DUE.is("own: come", x.come(0, 3, 3, 1) & 1, 0);
            DUE.is("own: of the last", x.come(2, 3, 3, 1) & 4, 0);
            DUE.is("own: the other one", x.come(2, 3, 3, 1) & 2, 2);
            DUE.is("own: trial", x.trial(2, 3, 3) & 4, 0);
        }
    }

    /** M is 60 at most as told; by deaths one has more, and all of it is counted. */
    private static void coinsBeyond60() {
        TrialFunerals x = Villages.laid(repeated("p0,60,60;", 6));
        DUE.is("coins: of six", x.count(5), 360);
        for (int p = 0; p < 5; p++) {
            DUE.is("coins: the heir", x.die(p), p + 1);
            DUE.is("coins: of the heir", x.person(p + 1, 2), 60 * (p + 2));
            DUE.is("coins: of all", x.count(5), 360);
        }
        DUE.is("coins: the last one's trial", x.trial(5, 3, 3), 0);
        DUE.is("coins: for 15", x.person(5, 2), 345);
        DUE.is("coins: no heir", x.die(5), -4);
        DUE.is("coins: gone", x.count(5), 0);
    }

    /** D is 60 at most as told; by deaths one owes more, FLOWERS are half of that as far as COINS go. */
    private static void debtsBeyond60() {
        String text = repeated("p0,60,60;", 6) + "o5,0,60;o5,1,60;o5,2,60;o5,3,60;o5,4,60;";
        TrialFunerals x = Villages.laid(text);
        for (int p = 0; p < 4; p++) {
            x.die(p);
            DUE.is("debts: to the heir", x.owes(5, p + 1), 60 * (p + 2));
            DUE.is("debts: of all", x.count(6), 300);
        }
        DUE.is("debts: he comes", x.trial(4, 2, 0), 32);
        DUE.is("debts: all his coins of 150", x.person(5, 2), 0);
        DUE.is("debts: the rest", x.owes(5, 4), 240);
        DUE.is("debts: 300 less 4, and 60", x.person(4, 2), 356);
        DUE.is("debts: no coins to pay", x.pay(5, 4), -2);
        DUE.is("debts: he is the heir", x.die(4), 5);
        DUE.is("debts: what the heir owed is gone", x.count(6), 0);
        DUE.is("debts: what he inherits", x.person(5, 2), 356);
    }

    /** A is 99 at most as told; by days one is older. */
    private static void agesBeyond99() {
        TrialFunerals x = Villages.laid("g99;p0,98,0;p0,99,0;");
        DUE.is("ages: 98 of 99", x.trial(0, 0, 0), -2);
        DUE.is("ages: 99 of 99", x.trial(1, 0, 0), 0);
        for (int k = 1; k <= 300; k++) {
            DUE.is("ages: days", x.pass(30), 30 * k);
        }
        DUE.is("ages: 300 years", x.person(1, 1), 399);
        DUE.is("ages: count", x.count(3), 9000);
        DUE.is("ages: the younger one", x.person(0, 1), 398);
        DUE.is("ages: old enough now", x.trial(0, 0, 0), 0);
    }

    /** TIES are -4 at least and 5 at most: of a TRIAL each way from the ends, and one ahead of them. */
    private static void tiesAtBothEnds() {
        int[] told = {0, 1, 8, 9};
        int[] more = {1, 2, 9, 9};
        int[] less = {0, 0, 7, 8};
        for (int k = 0; k < told.length; k++) {
            String tie = "t0,1," + told[k] + ";";
            TrialFunerals came = Villages.laid("p0,60,0;p0,1,0;t1,0,9;" + tie);
            came.trial(0, 0, 0);
            DUE.is("ties: came, from " + told[k], came.tie(0, 1), more[k]);
            TrialFunerals not = Villages.laid("p0,60,0;p0,1,0;" + tie);
            not.trial(0, 0, 0);
            DUE.is("ties: did not, from " + told[k], not.tie(0, 1), less[k]);
            TrialFunerals spiteful = Villages.laid("p0,60,0;p1,1,0;t1,0,9;" + tie);
            DUE.is("ties: a spiteful one comes", spiteful.trial(0, 0, 0), 2);
            DUE.is("ties: a spiteful one came, from " + told[k], spiteful.tie(0, 1), less[k]);
        }
    }

    /** A GIFT makes a TIE more up to 5 alone, a spiteful one's, too. */
    private static void giftsToTheEnd() {
        TrialFunerals x = Villages.laid("p0,1,60;p1,1,0;t1,0,0;");
        for (int tie = 1; tie <= 9; tie++) {
            DUE.is("gift: to tie " + tie, x.gift(0, 1), tie);
        }
        DUE.is("gift: at 5", x.gift(0, 1), -2);
        DUE.is("gift: coins", x.person(0, 2), 42);
        DUE.is("gift: tie", x.tie(1, 0), 9);
        DUE.is("gift: the other way it is none", x.tie(0, 1), 4);
    }

    /** UNDONE: the last 8 of ten unlike ones, each as it stood, thrice from there on. */
    private static void undoneOfTenUnlikeOnes() {
        TrialFunerals x = Villages.laid("p0,60,30;p0,60,30;p1,60,30;t1,0,9;o1,0,20;o2,1,9;");
        String[] stands = new String[10];
        for (int round = 1; round <= 3; round++) {
            for (int k = 0; k < 10; k++) {
                stands[k] = Villages.lookWithoutUndo(x);
                DUE.is("undo: it can be done, " + k, doOne(x, k) >= 0 ? 1 : 0, 1);
                DUE.is("undo: it changes something, " + k, stands[k].equals(Villages.lookWithoutUndo(x)) ? 1 : 0, 0);
                DUE.is("undo: so many can be", x.count(8), Math.min(8, k + 1));
            }
            for (int k = 9; k >= 2; k--) {
                DUE.is("undo: so many more", x.undo(), k - 2);
                DUE.is("undo: as it stood ahead of " + k, stands[k].equals(Villages.lookWithoutUndo(x)) ? 1 : 0, 1);
            }
            DUE.is("undo: no more", x.undo(), -2);
            DUE.is("undo: two of each ten stay", x.count(3), 31 * round);
        }
    }

    private static int doOne(TrialFunerals x, int k) {
        switch (k) {
            case 0: return x.pass(1);
            case 1: return x.pass(30);
            case 2: return x.trial(0, 1, 0);
            case 3: return x.gift(1, 2);
            case 4: return x.pay(1, 0);
            case 5: return x.pass(30);
            case 6: return x.trial(1, 0, 1);
            case 7: return x.pay(2, 1);
            case 8: return x.gift(0, 2);
            default: return x.die(1);
        }
    }

    /** What is refused, what is only asked, what is written, SEEN and KEPT is none that can be UNDONE. */
    private static void refusedOnesAreNotUndone() {
        TrialFunerals x = Villages.laid("p0,60,9;p0,60,0;p0,49,9;o1,0,5;");
        x.pass(7);
        x.die(2);
        String before = Villages.lookWithoutUndo(x);
        x.trial(2, 0, 0);
        x.trial(1, 1, 0);
        x.gift(1, 0);
        x.gift(0, 2);
        x.pay(1, 0);
        x.pay(0, 1);
        x.die(2);
        x.die(3);
        x.pass(0);
        x.order(0, 0, 0);
        x.mutual(0, 1, 0);
        x.year(7, 60, 0);
        x.write('p');
        x.see(0, 1, 0, 0, true);
        x.forget();
        x.keep();
        x.lay();
        DUE.is("undo: two can be", x.count(8), 2);
        DUE.is("undo: as before", before.equals(Villages.lookWithoutUndo(x)) ? 1 : 0, 1);
        DUE.is("undo: the death", x.undo(), 1);
        DUE.is("undo: he lives", x.person(2, 3), 0);
        DUE.is("undo: the days", x.undo(), 0);
        DUE.is("undo: no days", x.count(3), 0);
    }

    /** GIFTS: none, if one of the set never comes, however few the others want, wherever he stands. */
    private static void giftsOfOneWhoNeverComes() {
        DUE.is("gifts: the first one never", Villages.laid("p0,1,0;p4,1,0;p0,1,0;o1,0,1;").gifts(0, 6, 0, 0), -4);
        DUE.is("gifts: the last one never", Villages.laid("p0,1,0;p0,1,0;p4,1,0;o2,0,1;").gifts(0, 6, 0, 0), -4);
        TrialFunerals x = Villages.laid("p0,1,0;p0,1,0;p4,1,0;t1,0,0;t2,0,0;");
        DUE.is("gifts: both, without coins", x.gifts(0, 6, 0, 0), 6 + 5);
        DUE.is("gifts: the coins stay", x.person(0, 2), 0);
        DUE.is("gifts: the ties stay", x.tie(1, 0), 0);
        TrialFunerals y = Villages.laid("p0,1,0;p1,1,0;t1,0,4;");
        DUE.is("gifts: a spiteful one up to 4", y.gifts(0, 2, 0, 0), 4);
        DUE.is("gifts: by three bells", y.gifts(0, 2, 3, 0), 1);
    }

    private static void orderIs(String what, TrialFunerals x, int b, int c, int... want) {
        for (int k = 0; k <= 6; k++) {
            DUE.is("order: " + what + ", place " + k, x.order(b, c, k), k < want.length ? want[k] : -4);
        }
    }

    /** ORDER: of those who are G years old or more. */
    private static void orderOfWhoIsJustOldEnough() {
        TrialFunerals x = Villages.laid("p0,50,9;p0,49,9;p0,48,9;");
        orderIs("50 alone", x, 0, 0, 0, 0);
        x.pass(29);
        orderIs("29 days", x, 0, 0, 0, 0);
        x.pass(1);
        orderIs("30 days", x, 0, 0, 0, 0, 1);
        x.pass(30);
        orderIs("60 days", x, 0, 0, 0, 0, 1, 2);
        x.undo();
        orderIs("undone", x, 0, 0, 0, 0, 1);
    }

    /** ORDER: on this day, so a BUSY one comes to none behind a TRIAL that was on it. */
    private static void orderOnADayWithATrial() {
        TrialFunerals x = Villages.laid("p0,60,0;p0,60,0;p3,60,0;t2,1,9;");
        orderIs("the busy one comes first", x, 0, 0, 1, 1, 0, 2);
        x.trial(0, 0, 0);
        orderIs("the busy one comes no more", x, 0, 0, 0, 1, 2);
        x.pass(1);
        orderIs("on the next day", x, 0, 0, 1, 1, 2);
        // The last one of the last order tried: how it stood behind his trial is no answer of now.
        x.trial(2, 0, 0);
        orderIs("without the last one", x, 0, 0, 0, 1);
        x.trial(1, 0, 0);
        orderIs("without any", x, 0, 0, 0);
    }

    /** ORDER, asked again behind a change of one thing alone. */
    private static void orderByOneChangeAlone() {
        TrialFunerals x = new TrialFunerals();
        String[] texts = {"p0,60,9;", "p0,60,9;p0,0,0;", "p0,60,9;p0,59,0;g60;", "p0,60,9;p0,59,0;g59;", "p0,60,9;p0,59,0;g61;"};
        int[][] want = {{0, 0}, {1, 0}, {1, 0}, {1, 0, 1}, {0}};
        for (int k = 0; k < texts.length; k++) {
            x.wipe();
            Villages.write(x, texts[k]);
            x.lay();
            orderIs(texts[k], x, 2, 0, want[k]);
        }
        TrialFunerals y = Villages.laid("p0,60,9;p2,0,0;");
        orderIs("by two bells", y, 2, 0, 1, 0);
        orderIs("by none", y, 0, 0, 0, 0);
        orderIs("by cake", y, 0, 1, 1, 0);
        orderIs("by none again", y, 0, 0, 0, 0);
        orderIs("by cake again", y, 0, 1, 1, 0);
        y.die(1);
        orderIs("who came is dead", y, 0, 1, 0, 0);
        // The trial of 0 changes no tie, as none comes and all his are -4: he had it, and it is on this day.
        TrialFunerals z = Villages.laid("p0,60,0;p0,60,0;p3,1,0;t0,1,0;t0,2,0;t2,1,9;");
        z.keep();
        z.keep();
        z.pass(1);
        orderIs("none had, none on this day", z, 0, 0, 1, 1, 0);
        z.back();
        z.trial(0, 0, 0);
        z.pass(1);
        orderIs("one had, none on this day", z, 0, 0, 1, 1);
        z.back();
        z.pass(1);
        z.trial(0, 0, 0);
        orderIs("one had, one on this day", z, 0, 0, 0, 1);
    }

    /** ORDER: by the first order 20 come, as each loses the tie to 5, who did not; 5 comes to the first one alone, if it is 1. */
    private static void orderFoundLate() {
        TrialFunerals x = Villages.laid(repeated("p0,60,4;", 5) + "p3,60,4;t5,0,3;t5,2,3;t5,3,3;t5,4,3;");
        orderIs("found late", x, 2, 0, 26, 1, 5, 0, 2, 3, 4);
    }

    /** MUTUAL: whatever TRIALS were on this day and whoever would come, each comes or not as he likes. */
    private static void mutualOnADayWithATrial() {
        TrialFunerals x = Villages.laid("p3,60,0;p4,60,0;p0,60,0;o1,0,1;t0,1,0;t1,0,0;");
        x.trial(2, 0, 0);
        DUE.is("mutual: neither would come", x.come(0, 3, 3, 1) + x.come(1, 3, 3, 1), 4 + 4);
        DUE.is("mutual: both come", x.mutual(0, 1, 1), 3);
        DUE.is("mutual: no other pair rests", x.mutual(0, 1, 0), 1);
        DUE.is("mutual: had still", x.count(2), 1);
        DUE.is("mutual: on this day still", x.count(4), 1);
        DUE.is("mutual: the tie stays", x.tie(0, 1), 0);
    }

    /** SEEN (6 at most): the first and the sixth are weighed by FELT and by KINDS. */
    private static void sixAreWeighed() {
        for (int place = 0; place < 6; place++) {
            TrialFunerals x = Villages.laid("p0,1,0;p0,1,0;p0,1,0;");
            for (int k = 0; k < 6; k++) {
                if (k == place) {
                    x.see(0, 1, 0, 0, true);
                } else {
                    x.see(2, 1, 0, 0, false);
                }
            }
            DUE.is("seen: felt, place " + place, x.felt(0, 1), 960);
            DUE.is("seen: kinds, place " + place, x.kinds(0), 0);
            DUE.is("seen: felt of the other one", x.felt(2, 1), 63);
            DUE.is("seen: kinds of the other one", x.kinds(2), 31);
        }
    }

    /** A YEAR of n (1 to 60) days, the k-th (0 first): by 59 days he is 50 on the last one alone. */
    private static void theLastDayOfAYear() {
        TrialFunerals x = Villages.laid("p0,48,60;");
        x.pass(1);
        // The draws of the 60th day: 10514 by z = 9999 (2 bells), 48382 by z = 1 (3 bells, 3 of cake), 44676 by z = 9998 (none).
        DUE.is("year: 59 days", x.year(9999, 59, 1), 60);
        DUE.is("year: 60 days", x.year(9999, 60, 1), 56);
        DUE.is("year: 60 others", x.year(1, 60, 1), 45);
        DUE.is("year: 60 for nothing", x.year(9998, 60, 1), 60);
        x.pass(1);
        DUE.is("year: a day later by 58", x.year(9999, 58, 1), 60);
        // The draw of the 59th day by z = 9999 is 50953: a bell.
        DUE.is("year: a day later by 59", x.year(9999, 59, 1), 58);
        DUE.is("year: a day later by 60", x.year(9999, 60, 1), 58);
        DUE.is("year: the days stay", x.count(3), 2);
    }

    /** A YEAR draws among as many as there are: 22803, the first draw by z = 1, is 0 modulo 3 and 1 modulo 2. */
    private static void yearWithADeadOne() {
        TrialFunerals x = Villages.laid("p0,60,60;p0,60,0;p0,60,3;");
        x.die(1);
        DUE.is("year: who came to the first one's", x.year(1, 1, 0), 1);
        DUE.is("year: for 4 of his coins", x.year(1, 1, 1), 59);
        x.die(0);
        DUE.is("year: the first one is dead", x.year(1, 1, 0), 0);
        DUE.is("year: nothing is paid", x.year(1, 1, 1), 63);
    }

    /** KEPT stays as it was by what is done and UNDONE behind it. */
    private static void keptUnderneathUndo() {
        TrialFunerals x = Villages.laid("p0,60,9;p0,60,9;t1,0,9;o1,0,4;");
        x.pass(3);
        x.keep();
        String before = Villages.lookWithoutUndo(x);
        x.undo();
        DUE.is("kept: undone below it", x.count(3), 0);
        for (int k = 0; k < 9; k++) {
            x.pass(30);
        }
        x.trial(0, 1, 0);
        x.die(1);
        DUE.is("kept: back", x.back(), 0);
        DUE.is("kept: as it was", before.equals(Villages.lookWithoutUndo(x)) ? 1 : 0, 1);
        DUE.is("kept: nothing can be undone", x.undo(), -2);
        DUE.is("kept: none left", x.back(), -2);
        DUE.is("kept: it stays", before.equals(Villages.lookWithoutUndo(x)) ? 1 : 0, 1);
    }
}
