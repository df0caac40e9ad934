/** Promises 1 to 8: a new object, texts, what they tell. */
public final class VillagesTest {
    private static final Due DUE = new Due("VillagesTest");

    public static void main(String[] args) {
        aNewObject();
        write();
        wipe();
        faultOfGoodTexts();
        faultOfBadTexts();
        lay();
        layRefused();
        layBeginsAnew();
        person();
        personByDays();
        heir();
        tie();
        owes();
        DUE.end();
    }

    private static void aNewObject() {
        TrialFunerals x = new TrialFunerals();
        int[] counts = {5, 5, 0, 0, 0, 76, 21, 0, 0, 0, 0};
        for (int what = 0; what < counts.length; what++) {
            DUE.is("1: count(" + what + ")", x.count(what), counts[what]);
        }
        int[][] persons = {{0, 52, 20}, {1, 50, 9}, {2, 60, 3}, {3, 49, 30}, {4, 55, 14}};
        int[] heirs = {1, 2, 0, 0, 3};
        for (int p = 0; p < 5; p++) {
            for (int what = 0; what < 3; what++) {
                DUE.is("1: person(" + p + ", " + what + ")", x.person(p, what), persons[p][what]);
            }
            DUE.is("1: dead " + p, x.person(p, 3), 0);
            DUE.is("1: had " + p, x.person(p, 4), 0);
            DUE.is("1: heir of " + p, x.person(p, 5), heirs[p]);
        }
        int[][] ties = {{0, 7, 6, 4, 4}, {2, 0, 9, 4, 4}, {5, 4, 0, 4, 4}, {8, 3, 4, 0, 4}, {6, 4, 4, 8, 0}};
        int[][] debts = {{0, 0, 0, 0, 0}, {0, 0, 0, 0, 0}, {3, 0, 0, 0, 0}, {0, 0, 0, 0, 8}, {10, 0, 0, 0, 0}};
        for (int i = 0; i < 5; i++) {
            for (int j = 0; j < 5; j++) {
                DUE.is("1: tie " + i + " " + j, x.tie(i, j), i == j ? -1 : ties[i][j]);
                DUE.is("1: owes " + i + " " + j, x.owes(i, j), i == j ? -1 : debts[i][j]);
            }
        }
        DUE.is("1: from 50 years on: one of 49", x.trial(3, 0, 0), -2);
        DUE.is("1: one of 50, to whom 0 comes", x.trial(1, 0, 0), 1);
        TrialFunerals fresh = new TrialFunerals();
        DUE.is("1: the text is empty", fresh.fault(), -4);
        DUE.is("1: nothing to lay", fresh.lay(), -2);
        DUE.is("1: nothing to undo", fresh.undo(), -2);
        DUE.is("1: nothing kept", fresh.back(), -2);
    }

    private static void write() {
        TrialFunerals x = new TrialFunerals();
        DUE.is("2: the first sign", x.write(32), 1);
        DUE.is("2: the last sign", x.write(126), 2);
        int[] bad = {31, 127, 0, -1, 10, 1000, Integer.MAX_VALUE, Integer.MIN_VALUE, 256 + 65};
        for (int letter : bad) {
            DUE.is("2: write(" + letter + ")", x.write(letter), -1);
        }
        DUE.is("2: a bad letter is not written", x.count(10), 2);
        for (int k = 3; k <= 200; k++) {
            DUE.is("2: letter " + k, x.write('a'), k);
        }
        DUE.is("2: full", x.write('a'), -3);
        DUE.is("2: bad ahead of full", x.write(31), -1);
        DUE.is("2: full changes nothing", x.count(10), 200);
        DUE.is("2: wiped", x.wipe(), 200);
        DUE.is("2: no longer full", x.write('p'), 1);

        TrialFunerals y = new TrialFunerals();
        Villages.write(y, "p4,7,9;");
        DUE.is("2: in the order of writing", y.lay(), 1);
        DUE.is("2: kind", y.person(0, 0), 4);
        DUE.is("2: age", y.person(0, 1), 7);
        DUE.is("2: coins", y.person(0, 2), 9);
    }

    private static void wipe() {
        TrialFunerals x = new TrialFunerals();
        DUE.is("3: empty already", x.wipe(), 0);
        Villages.write(x, "p0,1,1;x");
        DUE.is("3: eight", x.wipe(), 8);
        DUE.is("3: none left", x.wipe(), 0);
        DUE.is("3: count", x.count(10), 0);
        DUE.is("3: no fault of old letters", x.fault(), -4);
        DUE.is("3: the village stays", x.count(0), 5);
        Villages.write(x, "p1,2,3;");
        DUE.is("3: written anew", x.lay(), 1);
        DUE.is("3: kind", x.person(0, 0), 1);
    }

    private static void fault(String text, int want) {
        TrialFunerals x = new TrialFunerals();
        Villages.write(x, text);
        DUE.is("4: fault of " + text, x.fault(), want);
        DUE.is("4: again", x.fault(), want);
        DUE.is("4: the text stays", x.count(10), text.length());
        DUE.is("4: the village stays", x.count(0), 5);
    }

    private static void faultOfGoodTexts() {
        fault("", -4);
        fault("g50;", -4);
        fault("g1;g99;g01;", -4);
        fault("p0,0,0;", -4);
        fault("p4,99,60;", -4);
        fault("p00,05,09;", -4);
        fault("p0,1,1;p0,1,1;p0,1,1;p0,1,1;p0,1,1;p0,1,1;", -4);
        fault("p0,1,1;p0,1,1;t0,1,0;t1,0,9;t0,1,09;t01,00,4;o0,1,0;o1,0,60;", -4);
        fault(Villages.FIRST, -4);
        fault("p0,1,1;g3;p0,1,1;t1,0,3;p0,1,1;o2,1,7;", -4);
    }

    private static void faultOfBadTexts() {
        String[] first = {"x", ";", " ", "p", "p0", "p0,", "p0,1", "p0,1,", "p0,1,1", "p0,1,1,", "p0,1,1,1;", "p0,1;",
            "p;", "p0;", "p,1,1;", "p0,,1;", "p0,1,;", "p5,1,1;", "p05,1,1;", "p10,1,1;", "p0,100,1;", "p0,001,1;",
            "p000,1,1;", "p0,1,61;", "p0,1,060;", "p0,1,99;", "P0,1,1;", "p 0,1,1;", "p0, 1,1;", "p0,1,1 ;", "p-1,1,1;",
            "p0;1;1;", "p0,1,1:", "p0.1,1;", "p0,1/1;", "p0,1,1p0,1,1;", " p0,1,1;", "g0;", "g00;", "g;", "g100;", "g50",
            "g5,;", "g5,5;", "g5,5,5;", "G5;", "t0,1,4;", "o0,1,4;", "p0:1,1;", "x0,1,1;", "q1;", "pp0,1,1;", "0,1,1;"};
        for (String text : first) {
            fault(text, 0);
            fault("p0,1,1;" + text, 7);
            fault("p0,1,1;g20;" + text + "p0,1,1;", 11);
        }
        String two = "p0,1,1;p1,2,3;";
        String[] third = {"t0,0,4;", "t1,1,4;", "t0,2,4;", "t2,0,4;", "t0,1,10;", "t0,1;", "t0,1,4,4;", "t0,1,004;",
            "o0,0,4;", "o1,1,1;", "o0,2,4;", "o2,0,4;", "o0,1,61;", "o0,1;", "o0,1,4,4;", "o0,1,100;", "t0,99,1;", "o99,1,1;"};
        for (String text : third) {
            fault(two + text, 14);
            fault(two + "t0,1,5;" + text, 21);
            fault(two + text + "x", 14);
        }
        fault("p0,1,1;t0,1,4;p0,1,1;", 7);
        fault("p0,1,1;o1,0,4;p0,1,1;", 7);
        fault("p0,1,1;p0,1,1;p0,1,1;p0,1,1;p0,1,1;p0,1,1;p0,1,1;", 42);
        fault("p0,1,1;p0,1,1;p0,1,1;p0,1,1;p0,1,1;p0,1,1;t5,6,1;", 42);
        StringBuilder full = new StringBuilder();
        for (int k = 0; k < 66; k++) {
            full.append("g5;");
        }
        fault(full + "g5", 198);
        fault(full.substring(3) + "gg50;", 195);
        fault(full.substring(3) + "g50;g", 199);
    }

    private static void lay() {
        TrialFunerals x = new TrialFunerals();
        Villages.write(x, "p0,1,1;p4,99,60;p2,30,0;t0,1,0;t0,1,8;o2,1,5;o2,1,44;t2,0,9;t2,0,4;o1,2,9;o1,2,0;g20;g30;");
        DUE.is("5: how many", x.lay(), 3);
        DUE.is("5: persons", x.count(0), 3);
        DUE.is("5: the last tie counts", x.tie(0, 1), 8);
        DUE.is("5: the other way it is none", x.tie(1, 0), 4);
        DUE.is("5: the last tie of none counts", x.tie(2, 0), 4);
        DUE.is("5: the last debt counts", x.owes(2, 1), 44);
        DUE.is("5: the last debt of none counts", x.owes(1, 2), 0);
        DUE.is("5: kind", x.person(1, 0), 4);
        DUE.is("5: age", x.person(1, 1), 99);
        DUE.is("5: coins", x.person(1, 2), 60);
        DUE.is("5: the text stays", x.count(10) > 0 ? 1 : 0, 1);
        DUE.is("5: the last age for trials counts", x.trial(2, 0, 0), 0);
        DUE.is("5: one of 1 is too young for 30", x.trial(0, 0, 0), -2);
        DUE.is("5: it can be laid again", x.lay(), 3);
        DUE.is("5: anew", x.count(2), 0);
        x.wipe();
        Villages.write(x, "p0,49,1;p0,50,1;");
        DUE.is("5: another one", x.lay(), 2);
        DUE.is("5: no debts of the last one", x.count(6), 0);
        DUE.is("5: no ties of the last one", x.tie(0, 1), 4);
        DUE.is("5: 50 where none is told", x.trial(0, 0, 0), -2);
        DUE.is("5: 50 is enough", x.trial(1, 0, 0), 0);
        x.wipe();
        Villages.write(x, "p0,1,1;p0,1,1;p0,1,1;p0,1,1;p0,1,1;p0,1,1;g1;");
        DUE.is("5: six", x.lay(), 6);
        DUE.is("5: 1 is enough", x.trial(5, 0, 0), 0);
    }

    private static void layRefused() {
        TrialFunerals x = Villages.laid("p0,60,9;p1,60,9;");
        x.trial(0, 1, 0);
        x.pass(3);
        x.keep();
        x.see(0, 1, 1, 1, true);
        String[] refused = {"", "g30;", "g30;g0;", "p0,1,1", "x", "p0,1,1;x", "p0,1,1;p5,1,1;"};
        for (String text : refused) {
            x.wipe();
            Villages.write(x, text);
            String before = Villages.look(x);
            DUE.is("5: lay of " + text, x.lay(), -2);
            DUE.is("5: nothing changes by " + text, before.equals(Villages.look(x)) ? 1 : 0, 1);
        }
        x.wipe();
        DUE.is("5: still undone", x.undo(), 1);
    }

    private static void layBeginsAnew() {
        TrialFunerals x = new TrialFunerals();
        Villages.write(x, "p0,60,9;p1,60,9;p0,3,3;");
        x.lay();
        x.trial(0, 0, 0);
        x.pass(30);
        x.die(2);
        x.trial(1, 0, 0);
        x.keep();
        x.keep();
        x.see(0, 1, 1, 1, true);
        x.year(5, 60, 0);
        DUE.is("5: anew", x.lay(), 3);
        int[] counts = {3, 3, 0, 0, 0, 21, 0, 0, 0, 0, 23};
        for (int what = 0; what < counts.length; what++) {
            DUE.is("5: anew count(" + what + ")", x.count(what), counts[what]);
        }
        DUE.is("5: nothing undone", x.undo(), -2);
        DUE.is("5: nothing kept", x.back(), -2);
        DUE.is("5: nobody dead", x.person(2, 3), 0);
        DUE.is("5: as old as told", x.person(0, 1), 60);
        DUE.is("5: had none", x.person(0, 4), 0);
        DUE.is("5: nothing seen", x.kinds(0), 31);
    }

    private static void person() {
        TrialFunerals x = Villages.laid("p3,60,7;p0,20,9;");
        int[] bad = {-1, 2, 5, 6, Integer.MAX_VALUE, Integer.MIN_VALUE};
        for (int p : bad) {
            DUE.is("6: person(" + p + ", 0)", x.person(p, 0), -1);
        }
        DUE.is("6: what -1", x.person(0, -1), -1);
        DUE.is("6: what 6", x.person(0, 6), -1);
        DUE.is("6: kind", x.person(0, 0), 3);
        DUE.is("6: age", x.person(0, 1), 60);
        DUE.is("6: coins", x.person(0, 2), 7);
        DUE.is("6: lives", x.person(0, 3), 0);
        DUE.is("6: had none", x.person(0, 4), 0);
        x.trial(0, 1, 1);
        DUE.is("6: had", x.person(0, 4), 1);
        DUE.is("6: the other one did not", x.person(1, 4), 0);
        DUE.is("6: paid", x.person(0, 2), 2);
        x.die(0);
        DUE.is("6: kind of a dead one", x.person(0, 0), 3);
        DUE.is("6: dead", x.person(0, 3), 1);
        DUE.is("6: had still", x.person(0, 4), 1);
        DUE.is("6: no coins", x.person(0, 2), 0);
        DUE.is("6: no heir of a dead one", x.person(0, 5), -4);
        DUE.is("6: no heir but a dead one", x.person(1, 5), -4);
        DUE.is("6: inherited", x.person(1, 2), 11);
    }

    private static void personByDays() {
        TrialFunerals x = Villages.laid("p0,0,0;p0,99,0;");
        x.pass(29);
        DUE.is("6: 29 days", x.person(0, 1), 0);
        x.pass(1);
        DUE.is("6: 30 days", x.person(0, 1), 1);
        DUE.is("6: all of them", x.person(1, 1), 100);
        x.pass(29);
        DUE.is("6: 59 days", x.person(0, 1), 1);
        x.pass(2);
        DUE.is("6: 61 days", x.person(0, 1), 2);
        x.die(1);
        x.pass(30);
        DUE.is("6: everybody is older, a dead one too", x.person(1, 1), 102);
    }

    private static void heir() {
        TrialFunerals x = Villages.laid("p0,1,1;p0,1,1;p0,1,1;p0,1,1;t0,1,5;t0,2,7;t0,3,7;t1,0,0;t1,2,0;t1,3,0;t2,0,3;t2,1,3;");
        DUE.is("6: the greatest, the lowest of them", x.person(0, 5), 2);
        DUE.is("6: the lowest of all at -4", x.person(1, 5), 0);
        DUE.is("6: a tie of none told is more than -1", x.person(2, 5), 3);
        DUE.is("6: ties of none", x.person(3, 5), 0);
        x.die(2);
        DUE.is("6: without the dead one", x.person(0, 5), 3);
        x.gift(1, 0);
        x.die(3);
        DUE.is("6: the last one left", x.person(0, 5), 1);
        x.die(1);
        DUE.is("6: none left", x.person(0, 5), -4);
        DUE.is("6: alone from the start", Villages.laid("p0,1,1;").person(0, 5), -4);
    }

    private static void tie() {
        TrialFunerals x = Villages.laid("p0,1,1;p0,1,1;p0,1,1;t0,1,0;t1,0,9;t2,1,3;");
        int[][] want = {{-1, 0, 4}, {9, -1, 4}, {4, 3, -1}};
        for (int i = 0; i < 3; i++) {
            for (int j = 0; j < 3; j++) {
                DUE.is("7: tie(" + i + ", " + j + ")", x.tie(i, j), want[i][j]);
            }
        }
        int[][] bad = {{-1, 0}, {0, -1}, {3, 0}, {0, 3}, {-1, -1}, {6, 7}, {Integer.MAX_VALUE, 0}, {0, Integer.MIN_VALUE}};
        for (int[] two : bad) {
            DUE.is("7: tie(" + two[0] + ", " + two[1] + ")", x.tie(two[0], two[1]), -1);
        }
        x.die(1);
        DUE.is("7: to a dead one", x.tie(0, 1), 0);
        DUE.is("7: of a dead one", x.tie(1, 0), 9);
    }

    private static void owes() {
        TrialFunerals x = Villages.laid("p0,1,1;p0,1,1;p0,1,1;o0,1,60;o1,0,2;o2,1,3;");
        int[][] want = {{-1, 60, 0}, {2, -1, 0}, {0, 3, -1}};
        for (int i = 0; i < 3; i++) {
            for (int j = 0; j < 3; j++) {
                DUE.is("8: owes(" + i + ", " + j + ")", x.owes(i, j), want[i][j]);
            }
        }
        int[][] bad = {{-1, 0}, {0, -1}, {3, 0}, {0, 3}, {-1, -1}, {6, 7}, {Integer.MAX_VALUE, 0}, {0, Integer.MIN_VALUE}};
        for (int[] two : bad) {
            DUE.is("8: owes(" + two[0] + ", " + two[1] + ")", x.owes(two[0], two[1]), -1);
        }
    }
}
