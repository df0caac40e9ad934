import java.math.BigInteger;
import java.util.ArrayDeque;
import java.util.ArrayList;
import java.util.Deque;
import java.util.List;
import java.util.Random;
import java.util.regex.Matcher;
import java.util.regex.Pattern;

/** Long runs of drawn calls, answered by the program and by a slow model that shares no code with it. */
public final class ModelTest {
    private static final int RUNS = 1500;
    private static final int CALLS = 512;

    public static void main(String[] args) {
        Due due = new Due("ModelTest");
        for (int run = 0; run < RUNS && due.wrong() == 0; run++) {
            new Run(new Random(run), due, run).go();
        }
        due.end();
    }

    /** One object and one model, asked the same. */
    private static final class Run {
        private final Random draws;
        private final Due due;
        private final int run;
        private final TrialFunerals real = new TrialFunerals();
        private final Model model = new Model();
        private int calls = 0;

        Run(Random draws, Due due, int run) {
            this.draws = draws;
            this.due = due;
            this.run = run;
        }

        void go() {
            if (draws.nextInt(4) > 0) tellAnother();
            while (calls < CALLS && due.wrong() == 0) {
                if (draws.nextInt(150) == 0) tellAnother();
                ask(draws.nextInt(44), near(6), near(6), near(4), near(4));
            }
        }

        /** Mostly a number below the bound, at times one outside. */
        private int near(int bound) {
            return draws.nextInt(12) == 0 ? draws.nextInt(bound + 4) - 2 : draws.nextInt(bound);
        }

        private void tellAnother() {
            is("wipe()", real.wipe(), model.wipe());
            String text = drawnText();
            for (int k = 0; k < text.length() && calls < CALLS; k++) {
                is("write(" + text.charAt(k) + ")", real.write(text.charAt(k)), model.write(text.charAt(k)));
            }
            if (calls < CALLS) is("fault() of " + text, real.fault(), model.fault());
            if (calls < CALLS) is("lay() of " + text, real.lay(), model.lay());
        }

        private String drawnText() {
            StringBuilder text = new StringBuilder();
            int persons = draws.nextInt(10) == 0 ? draws.nextInt(8) : 2 + draws.nextInt(5);
            int rich = 1 + draws.nextInt(60);
            for (int p = 0; p < persons; p++) {
                text.append('p').append(draws.nextInt(5)).append(',').append(40 + draws.nextInt(30)).append(',')
                    .append(draws.nextInt(rich)).append(';');
            }
            int ties = draws.nextInt(14);
            for (int k = 0; k < ties && persons > 1; k++) {
                int[] two = drawnTwo(persons);
                text.append('t').append(two[0]).append(',').append(two[1]).append(',').append(draws.nextInt(10)).append(';');
            }
            int debts = draws.nextInt(8);
            for (int k = 0; k < debts && persons > 1; k++) {
                int[] two = drawnTwo(persons);
                text.append('o').append(two[0]).append(',').append(two[1]).append(',').append(draws.nextInt(rich + 1)).append(';');
            }
            if (draws.nextBoolean()) text.append('g').append(1 + draws.nextInt(draws.nextBoolean() ? 60 : 30)).append(';');
            if (draws.nextInt(12) == 0) text.setCharAt(draws.nextInt(text.length() + 1) % Math.max(1, text.length()), (char) (32 + draws.nextInt(95)));
            if (draws.nextInt(12) == 0) text.append("g5;pt,o0123;".charAt(draws.nextInt(12)));
            return text.length() > 205 ? text.substring(0, 205) : text.toString();
        }

        private int[] drawnTwo(int persons) {
            int i = draws.nextInt(persons);
            int j = (i + 1 + draws.nextInt(persons - 1)) % persons;
            return new int[] {i, j};
        }

        private void is(String call, int got, int want) {
            calls++;
            due.is("run " + run + ", call " + calls + ", " + call, got, want);
        }

        private void ask(int which, int p, int q, int b, int c) {
            String with = " " + p + " " + q + " " + b + " " + c;
            int set = draws.nextInt(10) == 0 ? draws.nextInt(80) - 5 : 1 + draws.nextInt(63) & ~(p >= 0 ? 1 << p : 0);
            switch (which) {
                case 0: case 1: case 2: is("trial" + with, real.trial(p, b, c), model.trial(p, b, c)); break;
                case 3: case 4: is("trial, poor" + with, real.trial(p, b % 2, 0), model.trial(p, b % 2, 0)); break;
                case 5: case 6: is("gift" + with, real.gift(p, q), model.gift(p, q)); break;
                case 7: case 8: is("pay" + with, real.pay(p, q), model.pay(p, q)); break;
                case 9: if (draws.nextInt(4) == 0) is("die" + with, real.die(p), model.die(p)); break;
                case 10: case 11: pass(); break;
                case 12: case 13: is("undo", real.undo(), model.undo()); break;
                case 14: case 15: come(p, b, c, near(2)); break;
                case 16: case 17: cheapest(p, set, near(2)); break;
                case 18: case 19: is("gifts " + set + with, real.gifts(p, set, b, c), model.gifts(p, set, b, c)); break;
                case 20: order(b, c, near(7)); break;
                case 21: case 22: case 23: mutual(p, q, near(2)); break;
                case 24: case 25: see(p, q, b, c); break;
                case 26: if (draws.nextInt(3) == 0) is("forget", real.forget(), model.forget()); break;
                case 27: case 28: is("felt" + with, real.felt(p, q), model.felt(p, q)); break;
                case 29: case 30: is("kinds" + with, real.kinds(p), model.kinds(p)); break;
                case 31: case 32: rain(p, b, c); break;
                case 33: case 34: year(); break;
                case 35: is("keep", real.keep(), model.keep()); break;
                case 36: if (draws.nextInt(3) == 0) is("back", real.back(), model.back()); break;
                case 37: case 38: person(p, near(6)); break;
                case 39: is("tie" + with, real.tie(p, q), model.tie(p, q)); break;
                case 40: is("owes" + with, real.owes(p, q), model.owes(p, q)); break;
                case 41: writeAny(); break;
                default: count(near(11)); break;
            }
        }

        private void pass() {
            int n = draws.nextInt(3) == 0 ? 1 : draws.nextInt(33) - 1;
            is("pass " + n, real.pass(n), model.pass(n));
        }

        private void come(int p, int b, int c, int what) {
            is("come " + p + " " + b + " " + c + " " + what, real.come(p, b, c, what), model.come(p, b, c, what));
        }

        private void cheapest(int p, int set, int what) {
            is("cheapest " + p + " " + set + " " + what, real.cheapest(p, set, what), model.cheapest(p, set, what));
        }

        private void order(int b, int c, int k) {
            is("order " + b + " " + c + " " + k, real.order(b, c, k), model.order(b, c, k));
        }

        private void mutual(int i, int j, int what) {
            is("mutual " + i + " " + j + " " + what, real.mutual(i, j, what), model.mutual(i, j, what));
        }

        private void see(int i, int p, int b, int c) {
            boolean would = draws.nextBoolean();
            is("see " + i + " " + p + " " + b + " " + c + " " + would, real.see(i, p, b, c, would), model.see(i, p, b, c, would));
        }

        private void rain(int p, int b, int c) {
            int n = near(7);
            int x = near(11);
            int part = near(2);
            is("rain " + p + " " + b + " " + c + " " + n + " " + x + " " + part,
                real.rain(p, b, c, n, x, part), model.rain(p, b, c, n, x, part));
        }

        private void year() {
            int z = near(10000);
            int n = near(61);
            int what = near(2);
            is("year " + z + " " + n + " " + what, real.year(z, n, what), model.year(z, n, what));
        }

        private void person(int p, int what) {
            is("person " + p + " " + what, real.person(p, what), model.person(p, what));
        }

        private void writeAny() {
            int letter = draws.nextInt(140) - 5;
            is("write " + letter, real.write(letter), model.write(letter));
        }

        private void count(int what) {
            is("count " + what, real.count(what), model.count(what));
        }
    }

    /** What is told of one of them, and how he stands now. */
    private static final class One {
        String kind;
        int told;
        int coins;
        boolean dead;
        boolean had;
        /** Ties and debts to each other one; ties as told, 4 for none. */
        final int[] feels = {4, 4, 4, 4, 4, 4};
        final int[] owing = new int[6];

        One copy() {
            One other = new One();
            other.kind = kind;
            other.told = told;
            other.coins = coins;
            other.dead = dead;
            other.had = had;
            for (int k = 0; k < 6; k++) {
                other.feels[k] = feels[k];
                other.owing[k] = owing[k];
            }
            return other;
        }
    }

    private static final class World {
        List<One> all = new ArrayList<>();
        int from = 50;
        int day = 0;
        int today = 0;

        World copy() {
            World other = new World();
            for (One one : all) {
                other.all.add(one.copy());
            }
            other.from = from;
            other.day = day;
            other.today = today;
            return other;
        }

        boolean comes(int i, int p, int b, int c) {
            One one = all.get(i);
            if (one.dead || i == p) return false;
            int t = one.feels[p] - 4;
            boolean plain = t + b >= 2;
            if (one.kind.equals("PLAIN")) return plain;
            if (one.kind.equals("SPITEFUL")) return t < 0 || t + b >= 4;
            if (one.kind.equals("POOR")) return c > 0 || plain;
            if (one.kind.equals("BUSY")) return plain && today == 0;
            return one.owing[p] == 0 && t + b >= 1;
        }

        List<Integer> guests(int p, int b, int c) {
            List<Integer> guests = new ArrayList<>();
            for (int i = 0; i < all.size(); i++) {
                if (comes(i, p, b, c)) guests.add(i);
            }
            return guests;
        }

        boolean may(int p) {
            One one = all.get(p);
            return !one.dead && !one.had && one.told + day / 30 >= from;
        }

        boolean can(int p, int b, int c) {
            return may(p) && all.get(p).coins >= 2 * b + 3 * c;
        }

        List<Integer> trial(int p, int b, int c) {
            List<Integer> guests = guests(p, b, c);
            all.get(p).coins -= 2 * b + 3 * c;
            for (int i = 0; i < all.size(); i++) {
                if (i != p && !all.get(i).dead) visit(p, i, guests.contains(i));
            }
            all.get(p).had = true;
            today++;
            return guests;
        }

        void visit(int host, int guest, boolean came) {
            One h = all.get(host);
            One g = all.get(guest);
            if (!came || g.kind.equals("SPITEFUL")) {
                if (h.feels[guest] > 0) h.feels[guest]--;
            } else if (h.feels[guest] < 9) {
                h.feels[guest]++;
            }
            if (came) move(guest, host, g.owing[host] / 2);
        }

        int move(int i, int j, int most) {
            int sum = 0;
            while (sum < most && all.get(i).coins > 0) {
                all.get(i).coins--;
                all.get(i).owing[j]--;
                all.get(j).coins++;
                sum++;
            }
            return sum;
        }

        boolean canGive(int i, int j) {
            return i != j && !all.get(i).dead && !all.get(j).dead && all.get(i).coins > 1 && all.get(j).feels[i] < 9;
        }

        void give(int i, int j) {
            all.get(i).coins -= 2;
            all.get(j).feels[i]++;
        }

        int heir(int p) {
            if (all.get(p).dead) return -4;
            for (int tie = 9; tie >= 0; tie--) {
                for (int i = 0; i < all.size(); i++) {
                    if (i != p && !all.get(i).dead && all.get(p).feels[i] == tie) return i;
                }
            }
            return -4;
        }

        int die(int p) {
            int heir = heir(p);
            for (int i = 0; i < all.size(); i++) {
                int debt = all.get(i).owing[p];
                all.get(i).owing[p] = 0;
                if (heir != -4 && i != heir) all.get(i).owing[heir] += debt;
                all.get(p).owing[i] = 0;
            }
            if (heir != -4) all.get(heir).coins += all.get(p).coins;
            all.get(p).coins = 0;
            all.get(p).dead = true;
            return heir;
        }

        int coins() {
            int sum = 0;
            for (One one : all) {
                sum += one.coins;
            }
            return sum;
        }
    }

    private static final class Seen {
        final int i;
        final int p;
        final int b;
        final int c;
        final boolean would;

        Seen(int i, int p, int b, int c, boolean would) {
            this.i = i;
            this.p = p;
            this.b = b;
            this.c = c;
            this.would = would;
        }
    }

    /** The document, told once more, without care for speed. */
    private static final class Model {
        private static final String[] KINDS = {"PLAIN", "SPITEFUL", "POOR", "BUSY", "DEBTOR"};
        private static final Pattern ITEM = Pattern.compile("(?:([pto])(\\d\\d?),(\\d\\d?),(\\d\\d?)|g(\\d\\d?));");
        private String text = "";
        private World world = read(Villages.FIRST);
        private final Deque<World> past = new ArrayDeque<>();
        private final Deque<World> kept = new ArrayDeque<>();
        private final List<Seen> seen = new ArrayList<>();

        int write(int letter) {
            if (letter < 32 || letter > 126) return -1;
            if (text.length() == 200) return -3;
            text += (char) letter;
            return text.length();
        }

        int wipe() {
            int long_ = text.length();
            text = "";
            return long_;
        }

        private int faultOf(String letters, World into) {
            int at = 0;
            Matcher item = ITEM.matcher(letters);
            while (at < letters.length()) {
                item.region(at, letters.length());
                if (!item.lookingAt() || !take(item, into)) return at;
                at = item.end();
            }
            return -4;
        }

        private boolean take(Matcher item, World into) {
            if (item.group(5) != null) {
                into.from = Integer.parseInt(item.group(5));
                return into.from > 0;
            }
            int one = Integer.parseInt(item.group(2));
            int two = Integer.parseInt(item.group(3));
            int three = Integer.parseInt(item.group(4));
            if (item.group(1).equals("p")) {
                if (one > 4 || three > 60 || into.all.size() == 6) return false;
                One person = new One();
                person.kind = KINDS[one];
                person.told = two;
                person.coins = three;
                into.all.add(person);
                return true;
            }
            if (one == two || one >= into.all.size() || two >= into.all.size()) return false;
            if (item.group(1).equals("t")) {
                into.all.get(one).feels[two] = three;
                return three < 10;
            }
            into.all.get(one).owing[two] = three;
            return three <= 60;
        }

        private World read(String letters) {
            World into = new World();
            faultOf(letters, into);
            return into;
        }

        int fault() {
            return faultOf(text, new World());
        }

        int lay() {
            World told = read(text);
            if (fault() != -4 || told.all.isEmpty()) return -2;
            world = told;
            past.clear();
            kept.clear();
            seen.clear();
            return world.all.size();
        }

        private boolean none(int... persons) {
            for (int p : persons) {
                if (p < 0 || p >= world.all.size()) return true;
            }
            return persons.length == 2 && persons[0] == persons[1];
        }

        private static boolean out(int number, int most) {
            return number < 0 || number > most;
        }

        int person(int p, int what) {
            if (none(p) || out(what, 5)) return -1;
            One one = world.all.get(p);
            int kind = List.of(KINDS).indexOf(one.kind);
            int[] answers = {kind, one.told + world.day / 30, one.coins, one.dead ? 1 : 0, one.had ? 1 : 0, world.heir(p)};
            return answers[what];
        }

        int tie(int i, int j) {
            return none(i, j) ? -1 : world.all.get(i).feels[j];
        }

        int owes(int i, int j) {
            return none(i, j) ? -1 : world.all.get(i).owing[j];
        }

        private void remember() {
            past.addLast(world.copy());
            if (past.size() > 8) past.removeFirst();
        }

        int trial(int p, int b, int c) {
            if (none(p) || out(b, 3) || out(c, 3)) return -1;
            if (!world.can(p, b, c)) return -2;
            remember();
            return bits(world.trial(p, b, c));
        }

        private static int bits(List<Integer> persons) {
            int bits = 0;
            for (int p : persons) {
                bits += 1 << p;
            }
            return bits;
        }

        int gift(int i, int j) {
            if (none(i, j)) return -1;
            if (!world.canGive(i, j)) return -2;
            remember();
            world.give(i, j);
            return world.all.get(j).feels[i];
        }

        int pay(int i, int j) {
            if (none(i, j)) return -1;
            if (world.all.get(i).owing[j] == 0 || world.all.get(i).coins == 0) return -2;
            remember();
            return world.move(i, j, world.all.get(i).owing[j]);
        }

        int die(int p) {
            if (none(p)) return -1;
            if (world.all.get(p).dead) return -2;
            remember();
            return world.die(p);
        }

        int pass(int n) {
            if (n < 1 || n > 30) return -1;
            remember();
            world.day += n;
            world.today = 0;
            return world.day;
        }

        int undo() {
            if (past.isEmpty()) return -2;
            world = past.removeLast();
            return past.size();
        }

        int come(int p, int b, int c, int what) {
            if (none(p) || out(b, 3) || out(c, 3) || out(what, 1)) return -1;
            if (world.all.get(p).dead) return -2;
            List<Integer> guests = world.guests(p, b, c);
            return what == 0 ? guests.size() : bits(guests);
        }

        private boolean noSet(int p, int set) {
            return none(p) || set < 1 || set >= 1 << world.all.size() || (set & 1 << p) != 0;
        }

        int cheapest(int p, int set, int what) {
            if (noSet(p, set) || out(what, 1)) return -1;
            if (world.all.get(p).dead) return -2;
            for (int coins = 0; coins <= 15; coins++) {
                for (int fare = 0; fare <= 33; fare++) {
                    int b = fare / 10;
                    int c = fare % 10;
                    if (c > 3 || 2 * b + 3 * c != coins) continue;
                    if ((set & ~bits(world.guests(p, b, c))) == 0) return what == 0 ? coins : fare;
                }
            }
            return -4;
        }

        int gifts(int p, int set, int b, int c) {
            if (noSet(p, set) || out(b, 3) || out(c, 3)) return -1;
            if (world.all.get(p).dead) return -2;
            World after = world.copy();
            int gifts = 0;
            for (int i = 0; i < after.all.size(); i++) {
                while ((set >> i & 1) == 1 && !after.comes(i, p, b, c)) {
                    if (after.all.get(i).feels[p] == 9) return -4;
                    after.all.get(i).feels[p]++;
                    gifts++;
                }
            }
            return gifts;
        }

        int order(int b, int c, int k) {
            if (out(b, 3) || out(c, 3) || out(k, 6)) return -1;
            List<List<Integer>> orders = new ArrayList<>();
            List<Integer> due = new ArrayList<>();
            for (int p = 0; p < world.all.size(); p++) {
                if (world.may(p)) due.add(p);
            }
            addOrders(orders, new ArrayList<>(), due);
            int most = -1;
            List<Integer> best = List.of();
            for (List<Integer> order : orders) {
                World after = world.copy();
                int came = 0;
                for (int p : order) {
                    if (after.can(p, b, c)) came += after.trial(p, b, c).size();
                }
                if (came > most) {
                    most = came;
                    best = order;
                }
            }
            if (k == 0) return most;
            return k > best.size() ? -4 : best.get(k - 1);
        }

        private static void addOrders(List<List<Integer>> orders, List<Integer> begun, List<Integer> left) {
            if (left.isEmpty()) orders.add(begun);
            for (Integer p : left) {
                List<Integer> longer = new ArrayList<>(begun);
                List<Integer> fewer = new ArrayList<>(left);
                longer.add(p);
                fewer.remove(p);
                addOrders(orders, longer, fewer);
            }
        }

        int mutual(int i, int j, int what) {
            if (none(i, j) || out(what, 1)) return -1;
            if (world.all.get(i).dead || world.all.get(j).dead) return -2;
            int[][][] gains = new int[2][2][];
            for (int mine = 0; mine < 2; mine++) {
                for (int his = 0; his < 2; his++) {
                    World after = world.copy();
                    after.visit(i, j, his == 1);
                    after.visit(j, i, mine == 1);
                    One first = after.all.get(i);
                    One other = after.all.get(j);
                    gains[mine][his] = new int[] {3 * other.feels[i] + first.coins, 3 * first.feels[j] + other.coins};
                }
            }
            int resting = 0;
            int earliest = -4;
            for (int pair = 3; pair >= 0; pair--) {
                int mine = pair / 2;
                int his = pair % 2;
                if (gains[1 - mine][his][0] > gains[mine][his][0] || gains[mine][1 - his][1] > gains[mine][his][1]) continue;
                resting++;
                earliest = pair;
            }
            return what == 0 ? resting : earliest;
        }

        int see(int i, int p, int b, int c, boolean would) {
            if (none(i, p) || out(b, 3) || out(c, 3)) return -1;
            if (seen.size() == 6) return -3;
            seen.add(new Seen(i, p, b, c, would));
            return seen.size();
        }

        int forget() {
            int were = seen.size();
            seen.clear();
            return were;
        }

        int felt(int i, int p) {
            if (none(i, p)) return -1;
            int bits = 0;
            for (int tie = 0; tie < 10; tie++) {
                World other = world.copy();
                other.all.get(i).feels[p] = tie;
                if (allSo(other, i, p)) bits += 1 << tie;
            }
            return bits;
        }

        int kinds(int i) {
            if (none(i)) return -1;
            int bits = 0;
            for (int kind = 0; kind < 5; kind++) {
                World other = world.copy();
                other.all.get(i).kind = KINDS[kind];
                if (allSo(other, i, -1)) bits += 1 << kind;
            }
            return bits;
        }

        private boolean allSo(World other, int i, int p) {
            for (Seen row : seen) {
                if (row.i != i || p >= 0 && row.p != p) continue;
                if (other.comes(i, row.p, row.b, row.c) != row.would) return false;
            }
            return true;
        }

        int rain(int p, int b, int c, int n, int x, int part) {
            if (none(p) || out(b, 3) || out(c, 3) || out(n, 6) || out(x, 10) || out(part, 1)) return -1;
            if (world.all.get(p).dead) return -2;
            int guests = world.guests(p, b, c).size();
            BigInteger above = BigInteger.ZERO;
            for (int who = 0; who < 1 << guests; who++) {
                if (Integer.bitCount(who) < n) continue;
                BigInteger ways = BigInteger.ONE;
                for (int k = 0; k < guests; k++) {
                    ways = ways.multiply(BigInteger.valueOf((who >> k & 1) == 1 ? x : 10 - x));
                }
                above = above.add(ways);
            }
            BigInteger below = BigInteger.TEN.pow(guests);
            return (part == 0 ? above : below).divide(above.gcd(below)).intValueExact();
        }

        int year(int z, int n, int what) {
            if (out(z, 9999) || n < 1 || n > 60 || out(what, 1)) return -1;
            World after = world.copy();
            int persons = after.all.size();
            int came = 0;
            for (int k = 0; k < n; k++) {
                BigInteger x = BigInteger.valueOf(7919).multiply(BigInteger.valueOf(z)).add(BigInteger.valueOf(6151L * k + 1));
                int draw = x.multiply(x).mod(BigInteger.valueOf(65521)).intValueExact();
                int p = draw % persons;
                int other = (draw >> 7) % persons;
                if (after.can(p, draw >> 3 & 3, draw >> 5 & 3)) {
                    came += after.trial(p, draw >> 3 & 3, draw >> 5 & 3).size();
                } else if (after.canGive(p, other)) {
                    after.give(p, other);
                }
                after.day++;
                after.today = 0;
            }
            return what == 0 ? came : after.coins();
        }

        int keep() {
            if (kept.size() == 2) return -3;
            kept.addLast(world.copy());
            return kept.size();
        }

        int back() {
            if (kept.isEmpty()) return -2;
            world = kept.removeLast();
            past.clear();
            return kept.size();
        }

        int count(int what) {
            if (out(what, 10)) return -1;
            int live = 0;
            int had = 0;
            int owed = 0;
            for (One one : world.all) {
                live += one.dead ? 0 : 1;
                had += one.had ? 1 : 0;
                for (int debt : one.owing) {
                    owed += debt;
                }
            }
            int[] counts = {world.all.size(), live, had, world.day, world.today, world.coins(), owed, seen.size(),
                past.size(), kept.size(), text.length()};
            return counts[what];
        }
    }
}
