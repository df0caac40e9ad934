/**
 * BAD, NO, NONE, FULL and their order: of every number that a call takes, the least and the most told are taken and
 * those beyond are BAD, whatever else is due, and a call that is refused changes nothing.
 */
public final class RangesTest {
    private static final Due DUE = new Due("RangesTest");
    private static final int BAD = -1;
    private static final int NO = -2;
    private static final int FULL = -3;
    private static final int NONE = -4;
    private static final int[] EXTREMES = {Integer.MIN_VALUE, Integer.MIN_VALUE + 1, -65536, -1000, -256, -32, -4, -3, -2, -1,
        0, 256, 257, 1000, 9999, 10000, 65536, 65537, 1 << 30, Integer.MAX_VALUE - 1, Integer.MAX_VALUE};

    /** The least and the most that a number of a call may be. */
    private static final class Range {
        final int least;
        final int most;

        Range(int least, int most) {
            this.least = least;
            this.most = most;
        }
    }

    public static void main(String[] args) {
        for (int persons : new int[] {2, 3, 6}) {
            for (Call call : Call.values()) {
                takesAllThatIsTold(call, persons);
                refusesAllBeyond(call, persons, Villages.laid(text(persons)), "");
                refusesAllBeyond(call, persons, deadAndFull(persons), ", dead and full");
            }
        }
        oneAlone();
        badAheadOfTheOthers();
        noAheadOfNone();
        DUE.end();
    }

    private static String text(int persons) {
        StringBuilder text = new StringBuilder();
        for (int p = 0; p < persons; p++) {
            text.append("p0,60,20;");
        }
        return text.append("o1,0,5;").toString();
    }

    /** All are dead, the text is full and no village, six are SEEN, two KEPT. */
    private static TrialFunerals deadAndFull(int persons) {
        TrialFunerals x = Villages.laid(text(persons));
        for (int p = 0; p < persons; p++) {
            x.die(p);
        }
        for (int k = 0; k < 200; k++) {
            x.write('p');
        }
        for (int k = 0; k < 6; k++) {
            x.see(0, 1, 0, 0, true);
        }
        x.keep();
        x.keep();
        return x;
    }

    private static String told(Call call, int[] numbers) {
        StringBuilder told = new StringBuilder(call.name()).append('(');
        for (int number : numbers) {
            if (told.charAt(told.length() - 1) != '(') told.append(", ");
            told.append(number);
        }
        return told.append(')').toString();
    }

    /** Two that are alike and sets with oneself are BAD though each number is one that is told. */
    private static boolean clash(Call call, int[] numbers) {
        if (call.ofTwo) return numbers[0] == numbers[1];
        return call.ofSet && (numbers[1] >> numbers[0] & 1) == 1;
    }

    private static void takesAllThatIsTold(Call call, int persons) {
        Range[] ranges = call.ranges(persons);
        for (int k = 0; k < ranges.length; k++) {
            int step = Math.max(1, (ranges[k].most - ranges[k].least) / 100);
            for (int number = ranges[k].least; number <= ranges[k].most; number += step) {
                takes(call, persons, k, number);
            }
            takes(call, persons, k, ranges[k].most);
        }
    }

    private static void takes(Call call, int persons, int k, int number) {
        int[] numbers = call.usual();
        numbers[k] = number;
        TrialFunerals x = Villages.laid(text(persons));
        int got = call.ask(x, numbers);
        DUE.is(persons + " persons: BAD by " + told(call, numbers), got == BAD ? 1 : 0, clash(call, numbers) ? 1 : 0);
    }

    private static void refusesAllBeyond(Call call, int persons, TrialFunerals x, String how) {
        Range[] ranges = call.ranges(persons);
        String before = Villages.look(x);
        for (int k = 0; k < ranges.length; k++) {
            int[] numbers = call.usual();
            for (int number : EXTREMES) {
                if (number >= ranges[k].least && number <= ranges[k].most) continue;
                numbers[k] = number;
                refuses(call, numbers, x, how);
            }
            numbers[k] = ranges[k].least - 1;
            refuses(call, numbers, x, how);
            numbers[k] = ranges[k].most + 1;
            refuses(call, numbers, x, how);
        }
        if (call.ofTwo || call.ofSet) clashes(call, persons, x, how);
        DUE.is(call + how + ": nothing changes", before.equals(Villages.look(x)) ? 1 : 0, 1);
    }

    private static void refuses(Call call, int[] numbers, TrialFunerals x, String how) {
        DUE.is(told(call, numbers) + how, call.ask(x, numbers), BAD);
    }

    private static void clashes(Call call, int persons, TrialFunerals x, String how) {
        for (int p = 0; p < persons; p++) {
            int[] numbers = call.usual();
            numbers[0] = p;
            numbers[1] = call.ofTwo ? p : 1 << p;
            refuses(call, numbers, x, how);
            if (call.ofSet) {
                numbers[1] = (1 << persons) - 1;
                refuses(call, numbers, x, how);
            }
        }
    }

    /** One alone has no other one, and no set of others. */
    private static void oneAlone() {
        TrialFunerals x = Villages.laid("p0,60,20;");
        String before = Villages.look(x);
        for (Call call : Call.values()) {
            if (!call.ofTwo && !call.ofSet) continue;
            for (int i = -1; i <= 2; i++) {
                for (int j = -1; j <= 3; j++) {
                    int[] numbers = call.usual();
                    numbers[0] = i;
                    numbers[1] = j;
                    refuses(call, numbers, x, ", one alone");
                }
            }
        }
        DUE.is("one alone: nothing changes", before.equals(Villages.look(x)) ? 1 : 0, 1);
        DUE.is("one alone: come", x.come(0, 3, 3, 0), 0);
        DUE.is("one alone: order", x.order(0, 0, 0), 0);
        DUE.is("one alone: the first of it", x.order(0, 0, 1), 0);
        DUE.is("one alone: trial", x.trial(0, 3, 3), 0);
        DUE.is("one alone: die", x.die(0), NONE);
    }

    /** Good numbers where all else stands against it: what is due then, so that BAD above is ahead of that. */
    private static void badAheadOfTheOthers() {
        TrialFunerals x = deadAndFull(3);
        String before = Villages.look(x);
        for (Call call : Call.values()) {
            if (call.dead < 0) DUE.is(call + ", dead and full", call.ask(x, call.usual()), call.dead);
        }
        DUE.is("lay, dead and full", x.lay(), NO);
        DUE.is("keep, dead and full", x.keep(), FULL);
        DUE.is("the heir of a dead one", x.person(1, 5), NONE);
        DUE.is("nobody can have a trial", x.order(0, 0, 0), 0);
        DUE.is("dead and full: nothing changes", before.equals(Villages.look(x)) ? 1 : 0, 1);
    }

    /** A set with a dead one comes by nothing, and of some two no pair rests: NONE, but NO if the one asked about is dead. */
    private static void noAheadOfNone() {
        TrialFunerals x = Villages.laid("p0,60,20;p0,60,20;p0,60,20;");
        x.die(1);
        DUE.is("cheapest, the host lives", x.cheapest(0, 2, 0), NONE);
        DUE.is("cheapest, by which", x.cheapest(0, 2, 1), NONE);
        DUE.is("gifts, the host lives", x.gifts(0, 2, 3, 3), NONE);
        x.die(0);
        DUE.is("cheapest, the host is dead", x.cheapest(0, 2, 0), NO);
        DUE.is("cheapest, the host is dead, by which", x.cheapest(0, 2, 1), NO);
        DUE.is("gifts, the host is dead", x.gifts(0, 2, 3, 3), NO);
        TrialFunerals y = Villages.laid("p0,1,0;p0,1,8;o0,1,14;o1,0,14;");
        DUE.is("mutual, none rests", y.mutual(0, 1, 1), NONE);
        y.die(0);
        DUE.is("mutual, one is dead", y.mutual(0, 1, 1), NO);
        DUE.is("mutual, the other one is dead", y.mutual(1, 0, 1), NO);
    }

    /** The calls that take numbers: a usual one of each, what it answers when all are dead and all is full. */
    private enum Call {
        WRITE(FULL, 'p'), PERSON(0, 1, 0), TIE(0, 1, 0), OWES(0, 1, 0), TRIAL(NO, 1, 0, 0), GIFT(NO, 1, 0), PAY(NO, 1, 0),
        DIE(NO, 1), PASS(0, 1), COME(NO, 1, 0, 0, 0), CHEAPEST(NO, 1, 1, 0), GIFTS(NO, 1, 1, 0, 0), ORDER(NONE, 0, 0, 1),
        MUTUAL(NO, 1, 0, 0), SEE(FULL, 1, 0, 0, 0), FELT(0, 1, 0), KINDS(0, 1), RAIN(NO, 1, 0, 0, 0, 0, 0), YEAR(0, 0, 1, 0),
        COUNT(0, 0);

        final int dead;
        final boolean ofTwo;
        final boolean ofSet;
        private final int[] usual;

        Call(int dead, int... usual) {
            this.dead = dead;
            this.usual = usual;
            String two = " TIE OWES GIFT PAY MUTUAL SEE FELT ";
            ofTwo = two.contains(" " + name() + " ");
            ofSet = name().equals("CHEAPEST") || name().equals("GIFTS");
        }

        int[] usual() {
            return usual.clone();
        }

        Range[] ranges(int persons) {
            Range p = new Range(0, persons - 1);
            Range set = new Range(1, (1 << persons) - 1);
            Range fare = new Range(0, 3);
            Range part = new Range(0, 1);
            switch (this) {
                case WRITE: return new Range[] {new Range(32, 126)};
                case PERSON: return new Range[] {p, new Range(0, 5)};
                case TIE: case OWES: case GIFT: case PAY: case FELT: return new Range[] {p, p};
                case TRIAL: return new Range[] {p, fare, fare};
                case DIE: case KINDS: return new Range[] {p};
                case PASS: return new Range[] {new Range(1, 30)};
                case COME: return new Range[] {p, fare, fare, part};
                case CHEAPEST: return new Range[] {p, set, part};
                case GIFTS: return new Range[] {p, set, fare, fare};
                case ORDER: return new Range[] {fare, fare, new Range(0, 6)};
                case MUTUAL: return new Range[] {p, p, part};
                case SEE: return new Range[] {p, p, fare, fare};
                case RAIN: return new Range[] {p, fare, fare, new Range(0, 6), new Range(0, 10), part};
                case YEAR: return new Range[] {new Range(0, 9999), new Range(1, 60), part};
                default: return new Range[] {new Range(0, 10)};
            }
        }

        int ask(TrialFunerals x, int[] a) {
            switch (this) {
                case WRITE: return x.write(a[0]);
                case PERSON: return x.person(a[0], a[1]);
                case TIE: return x.tie(a[0], a[1]);
                case OWES: return x.owes(a[0], a[1]);
                case TRIAL: return x.trial(a[0], a[1], a[2]);
                case GIFT: return x.gift(a[0], a[1]);
                case PAY: return x.pay(a[0], a[1]);
                case DIE: return x.die(a[0]);
                case PASS: return x.pass(a[0]);
                case COME: return x.come(a[0], a[1], a[2], a[3]);
                case CHEAPEST: return x.cheapest(a[0], a[1], a[2]);
                case GIFTS: return x.gifts(a[0], a[1], a[2], a[3]);
                case ORDER: return x.order(a[0], a[1], a[2]);
                case MUTUAL: return x.mutual(a[0], a[1], a[2]);
                case SEE: return x.see(a[0], a[1], a[2], a[3], (a[0] + a[1]) % 2 == 0);
                case FELT: return x.felt(a[0], a[1]);
                case KINDS: return x.kinds(a[0]);
                case RAIN: return x.rain(a[0], a[1], a[2], a[3], a[4], a[5]);
                case YEAR: return x.year(a[0], a[1], a[2]);
                default: return x.count(a[0]);
            }
        }
    }
}
