/** Funerals on trial in a village: who comes, what it costs, what it changes. */
public final class TrialFunerals {
    public static final int BAD = -1, NO = -2, FULL = -3, NONE = -4;

    private static final int MOST_PERSONS = 6;
    private static final int MOST_LETTERS = 200;
    private static final int MOST_SEEN = 6;
    private static final int MOST_UNDONE = 8;
    private static final int MOST_KEPT = 2;
    private static final int MOST_BELLS = 3;
    private static final int MOST_CAKE = 3;
    private static final int MOST_COINS = 999;
    private static final int MOST_COINS_TOLD = 60;
    private static final int LEAST_TIE = -4;
    private static final int MOST_TIE = 5;
    private static final int TIE_SHIFT = 4;
    private static final int GIFT_COST = 2;
    private static final int DAYS_OF_A_YEAR = 30;
    private static final int USUAL_TRIAL_AGE = 50;

    private static final int SPITEFUL = 1;
    private static final int POOR = 2;
    private static final int BUSY = 3;
    private static final int DEBTOR = 4;
    private static final int LAST_KIND = 4;

    private static final String FIRST_TEXT =
        "p0,52,20;p1,50,9;p2,60,3;p3,49,30;p4,55,14;t1,0,2;t2,0,5;t3,0,8;t4,0,6;t0,1,7;t3,1,3;t0,2,6;t1,2,9;t4,3,8;o4,0,10;o2,0,3;o3,4,8;";

    private final Text text = new Text();
    private final Village now = new Village();
    private final Village draft = new Village();
    private final Pile undoable = new Pile(MOST_UNDONE);
    private final Pile kept = new Pile(MOST_KEPT);
    private final Sightings sightings = new Sightings();
    private final OrderSearch orderSearch = new OrderSearch();

    public TrialFunerals() {
        for (int k = 0; k < FIRST_TEXT.length(); k++) {
            text.append(FIRST_TEXT.charAt(k));
        }
        text.readInto(now);
        text.clear();
    }

    // ---- villages

    public int write(int letter) {
        if (!within(letter, 32, 126)) return BAD;
        if (text.isFull()) return FULL;
        text.append((char) letter);
        return text.length;
    }

    public int wipe() {
        int before = text.length;
        text.clear();
        return before;
    }

    public int fault() {
        return text.readInto(draft);
    }

    public int lay() {
        if (text.readInto(draft) != NONE || draft.persons < 1) return NO;
        now.copyFrom(draft);
        undoable.clear();
        kept.clear();
        sightings.size = 0;
        return now.persons;
    }

    public int person(int p, int what) {
        if (!now.has(p) || !within(what, 0, 5)) return BAD;
        switch (what) {
            case 0: return now.kinds[p];
            case 1: return now.ageOf(p);
            case 2: return now.coins[p];
            case 3: return now.lives(p) ? 0 : 1;
            case 4: return now.hadTrial(p) ? 1 : 0;
            default: return now.lives(p) ? now.heirOf(p) : NONE;
        }
    }

    public int tie(int i, int j) {
        if (!now.hasTwo(i, j)) return BAD;
        return now.tieOf(i, j) + TIE_SHIFT;
    }

    public int owes(int i, int j) {
        if (!now.hasTwo(i, j)) return BAD;
        return now.debtOf(i, j);
    }

    // ---- days

    public int trial(int p, int b, int c) {
        if (!now.has(p) || !isFare(b, c)) return BAD;
        if (!now.canHoldTrial(p, b, c)) return NO;
        undoable.put(now);
        return now.holdTrial(p, b, c);
    }

    public int gift(int i, int j) {
        if (!now.hasTwo(i, j)) return BAD;
        if (!now.canGive(i, j)) return NO;
        undoable.put(now);
        now.give(i, j);
        return now.tieOf(j, i) + TIE_SHIFT;
    }

    public int pay(int i, int j) {
        if (!now.hasTwo(i, j)) return BAD;
        int debt = now.debtOf(i, j);
        if (debt == 0 || now.coins[i] == 0) return NO;
        undoable.put(now);
        return now.payOff(i, j, debt);
    }

    public int die(int p) {
        if (!now.has(p)) return BAD;
        if (!now.lives(p)) return NO;
        undoable.put(now);
        return now.bury(p);
    }

    public int pass(int n) {
        if (!within(n, 1, 30)) return BAD;
        undoable.put(now);
        now.letDaysGoBy(n);
        return now.days;
    }

    public int undo() {
        if (undoable.size == 0) return NO;
        undoable.takeInto(now);
        return undoable.size;
    }

    // ---- who would come

    public int come(int p, int b, int c, int what) {
        if (!now.has(p) || !isFare(b, c) || !within(what, 0, 1)) return BAD;
        if (!now.lives(p)) return NO;
        int guests = now.guestsOf(p, b, c);
        return what == 0 ? Integer.bitCount(guests) : guests;
    }

    public int cheapest(int p, int set, int what) {
        if (!isSetOfOthers(p, set) || !within(what, 0, 1)) return BAD;
        if (!now.lives(p)) return NO;
        int least = NONE;
        int fare = NONE;
        for (int b = 0; b <= MOST_BELLS; b++) {
            for (int c = 0; c <= MOST_CAKE; c++) {
                int cost = costOf(b, c);
                boolean cheaper = least == NONE || cost < least;
                if (cheaper && (now.guestsOf(p, b, c) & set) == set) {
                    least = cost;
                    fare = 10 * b + c;
                }
            }
        }
        return what == 0 ? least : fare;
    }

    public int gifts(int p, int set, int b, int c) {
        if (!isSetOfOthers(p, set) || !isFare(b, c)) return BAD;
        if (!now.lives(p)) return NO;
        int all = 0;
        for (int i = 0; i < now.persons; i++) {
            if (contains(set, i)) {
                int few = now.giftsUntilComing(i, p, b, c);
                if (few == NONE) return NONE;
                all += few;
            }
        }
        return all;
    }

    public int order(int b, int c, int k) {
        if (!isFare(b, c) || !within(k, 0, MOST_PERSONS)) return BAD;
        if (!orderSearch.isFor(now, b, c)) {
            orderSearch.start(now, b, c);
            OrderSearch.tryAll(orderSearch, 0, orderSearch.due, 0);
        }
        if (k == 0) return orderSearch.most;
        return k <= orderSearch.size ? orderSearch.best[k - 1] : NONE;
    }

    public int mutual(int i, int j, int what) {
        if (!now.hasTwo(i, j) || !within(what, 0, 1)) return BAD;
        if (!now.lives(i) || !now.lives(j)) return NO;
        int resting = 0;
        int first = NONE;
        for (int pair = 0; pair < 4; pair++) {
            if (rests(i, j, pair)) {
                resting++;
                if (first == NONE) first = pair;
            }
        }
        return what == 0 ? resting : first;
    }

    // ---- what was seen

    public int see(int i, int p, int b, int c, boolean would) {
        if (!now.hasTwo(i, p) || !isFare(b, c)) return BAD;
        if (sightings.size >= MOST_SEEN) return FULL;
        sightings.add(i, p, b, c, would);
        return sightings.size;
    }

    public int forget() {
        int before = sightings.size;
        sightings.size = 0;
        return before;
    }

    public int felt(int i, int p) {
        if (!now.hasTwo(i, p)) return BAD;
        return sightings.tiesThatFit(now, i, p);
    }

    public int kinds(int i) {
        if (!now.has(i)) return BAD;
        return sightings.kindsThatFit(now, i);
    }

    // ---- rain, years

    public int rain(int p, int b, int c, int n, int x, int part) {
        if (!now.has(p) || !isFare(b, c) || !within(n, 0, 6)) return BAD;
        if (!within(x, 0, 10) || !within(part, 0, 1)) return BAD;
        if (!now.lives(p)) return NO;
        int guests = Integer.bitCount(now.guestsOf(p, b, c));
        int above = waysOfTenths(guests, n, x);
        int below = power(10, guests);
        int divisor = commonDivisor(above, below);
        return (part == 0 ? above : below) / divisor;
    }

    public int year(int z, int n, int what) {
        if (!within(z, 0, 9999) || !within(n, 1, 60) || !within(what, 0, 1)) return BAD;
        draft.copyFrom(now);
        int came = 0;
        for (int k = 0; k < n; k++) {
            came += draft.liveOneDay(drawOf(z, k));
        }
        return what == 0 ? came : draft.coinsOfAll();
    }

    public int keep() {
        if (kept.size >= MOST_KEPT) return FULL;
        kept.put(now);
        return kept.size;
    }

    public int back() {
        if (kept.size == 0) return NO;
        kept.takeInto(now);
        undoable.clear();
        return kept.size;
    }

    public int count(int what) {
        switch (what) {
            case 0: return now.persons;
            case 1: return now.persons - Integer.bitCount(now.deadSet);
            case 2: return Integer.bitCount(now.hadSet);
            case 3: return now.days;
            case 4: return now.trialsToday;
            case 5: return now.coinsOfAll();
            case 6: return now.debtsOfAll();
            case 7: return sightings.size;
            case 8: return undoable.size;
            case 9: return kept.size;
            case 10: return text.length;
            default: return BAD;
        }
    }

    private boolean isSetOfOthers(int p, int set) {
        return now.has(p) && within(set, 1, (1 << now.persons) - 1) && !contains(set, p);
    }

    /** A pair is 2 times what the first one does and what the other one does. */
    private boolean rests(int first, int other, int pair) {
        return gainOfFirst(first, other, pair) >= gainOfFirst(first, other, pair ^ 2)
            && gainOfOther(first, other, pair) >= gainOfOther(first, other, pair ^ 1);
    }

    private int gainOfFirst(int first, int other, int pair) {
        visitEachOther(first, other, pair);
        return draft.gainOf(first, other);
    }

    private int gainOfOther(int first, int other, int pair) {
        visitEachOther(first, other, pair);
        return draft.gainOf(other, first);
    }

    private void visitEachOther(int first, int other, int pair) {
        draft.copyFrom(now);
        draft.meet(first, other, (pair & 1) != 0);
        draft.meet(other, first, (pair & 2) != 0);
    }

    private static boolean within(int number, int least, int most) {
        return number >= least && number <= most;
    }

    private static boolean isFare(int b, int c) {
        return within(b, 0, MOST_BELLS) && within(c, 0, MOST_CAKE);
    }

    private static boolean contains(int set, int p) {
        return (set >> p & 1) == 1;
    }

    private static int costOf(int b, int c) {
        return 2 * b + 3 * c;
    }

    /** Of ten to the power of guests equally likely cases, those in which n or more come. */
    private static int waysOfTenths(int guests, int n, int x) {
        int ways = 0;
        for (int k = n; k <= guests; k++) {
            ways += choices(guests, k) * power(x, k) * power(10 - x, guests - k);
        }
        return ways;
    }

    private static int choices(int all, int some) {
        int ways = 1;
        for (int k = 1; k <= some; k++) {
            ways = ways * (all - some + k) / k;
        }
        return ways;
    }

    private static int power(int base, int times) {
        int product = 1;
        for (int k = 0; k < times; k++) {
            product *= base;
        }
        return product;
    }

    /** At least 1, so that it can divide whatever it is given. */
    private static int commonDivisor(int one, int other) {
        int a = one;
        int b = other;
        // Euclid's steps on ints are fewer than 64.
        for (int step = 0; step < 64 && b != 0; step++) {
            int rest = a % b;
            a = b;
            b = rest;
        }
        return Math.max(1, a);
    }

    private static boolean areAlike(int[] one, int[] other) {
        if (one.length != other.length) return false;
        for (int k = 0; k < one.length; k++) {
            if (one[k] != other[k]) return false;
        }
        return true;
    }

    private static int drawOf(int z, int k) {
        long x = 7919L * z + 6151L * k + 1L;
        return (int) (x * x % 65521L);
    }

    /** All that can be undone or kept: who there is, how it stands between them, the day. */
    private static final class Village {
        final int[] kinds = new int[MOST_PERSONS];
        final int[] agesTold = new int[MOST_PERSONS];
        final int[] coins = new int[MOST_PERSONS];
        final int[] ties = new int[MOST_PERSONS * MOST_PERSONS];
        final int[] debts = new int[MOST_PERSONS * MOST_PERSONS];
        int persons = 0;
        int trialAge = USUAL_TRIAL_AGE;
        int deadSet = 0;
        int hadSet = 0;
        int days = 0;
        int trialsToday = 0;

        void empty() {
            for (int p = 0; p < MOST_PERSONS; p++) {
                kinds[p] = 0;
                agesTold[p] = 0;
                coins[p] = 0;
            }
            for (int k = 0; k < MOST_PERSONS * MOST_PERSONS; k++) {
                ties[k] = 0;
                debts[k] = 0;
            }
            persons = 0;
            trialAge = USUAL_TRIAL_AGE;
            deadSet = 0;
            hadSet = 0;
            days = 0;
            trialsToday = 0;
        }

        void copyFrom(Village other) {
            System.arraycopy(other.kinds, 0, kinds, 0, MOST_PERSONS);
            System.arraycopy(other.agesTold, 0, agesTold, 0, MOST_PERSONS);
            System.arraycopy(other.coins, 0, coins, 0, MOST_PERSONS);
            System.arraycopy(other.ties, 0, ties, 0, MOST_PERSONS * MOST_PERSONS);
            System.arraycopy(other.debts, 0, debts, 0, MOST_PERSONS * MOST_PERSONS);
            persons = other.persons;
            trialAge = other.trialAge;
            deadSet = other.deadSet;
            hadSet = other.hadSet;
            days = other.days;
            trialsToday = other.trialsToday;
        }

        boolean isLike(Village other) {
            return persons == other.persons && trialAge == other.trialAge && deadSet == other.deadSet
                && hadSet == other.hadSet && days == other.days && trialsToday == other.trialsToday
                && areAlike(kinds, other.kinds) && areAlike(agesTold, other.agesTold)
                && areAlike(coins, other.coins) && areAlike(ties, other.ties) && areAlike(debts, other.debts);
        }

        boolean tellPerson(int kind, int age, int money) {
            if (persons >= MOST_PERSONS || kind > LAST_KIND || money > MOST_COINS_TOLD) return false;
            kinds[persons] = kind;
            agesTold[persons] = age;
            coins[persons] = money;
            persons++;
            return true;
        }

        boolean tellTie(int i, int j, int shifted) {
            if (!hasTwo(i, j) || shifted > MOST_TIE + TIE_SHIFT) return false;
            ties[cell(i, j)] = shifted - TIE_SHIFT;
            return true;
        }

        boolean tellDebt(int i, int j, int debt) {
            if (!hasTwo(i, j) || debt > MOST_COINS_TOLD) return false;
            debts[cell(i, j)] = debt;
            return true;
        }

        boolean tellTrialAge(int age) {
            if (age < 1) return false;
            trialAge = age;
            return true;
        }

        boolean has(int p) {
            return p >= 0 && p < persons;
        }

        boolean hasTwo(int i, int j) {
            return has(i) && has(j) && i != j;
        }

        boolean lives(int p) {
            return !contains(deadSet, p);
        }

        boolean hadTrial(int p) {
            return contains(hadSet, p);
        }

        int ageOf(int p) {
            return agesTold[p] + days / DAYS_OF_A_YEAR;
        }

        int tieOf(int i, int j) {
            return ties[cell(i, j)];
        }

        int debtOf(int i, int j) {
            return debts[cell(i, j)];
        }

        int cell(int i, int j) {
            return i * MOST_PERSONS + j;
        }

        int coinsOfAll() {
            int all = 0;
            for (int p = 0; p < persons; p++) {
                all += coins[p];
            }
            return all;
        }

        int debtsOfAll() {
            int all = 0;
            for (int k = 0; k < MOST_PERSONS * MOST_PERSONS; k++) {
                all += debts[k];
            }
            return all;
        }

        /** Kind and tie are arguments, as it is also asked what others than his own would do. */
        boolean wouldCome(int i, int kind, int tie, int p, int bells, int cake) {
            if (!lives(i)) return false;
            int pull = tie + bells;
            switch (kind) {
                case SPITEFUL: return tie < 0 || pull >= 4;
                case POOR: return cake > 0 || pull >= 2;
                case BUSY: return trialsToday == 0 && pull >= 2;
                case DEBTOR: return debtOf(i, p) == 0 && pull >= 1;
                default: return pull >= 2;
            }
        }

        int guestsOf(int p, int bells, int cake) {
            int guests = 0;
            for (int i = 0; i < persons; i++) {
                if (i != p && wouldCome(i, kinds[i], tieOf(i, p), p, bells, cake)) {
                    guests |= 1 << i;
                }
            }
            return guests;
        }

        int giftsUntilComing(int i, int p, int bells, int cake) {
            int tie = tieOf(i, p);
            for (int better = tie; better <= MOST_TIE; better++) {
                if (wouldCome(i, kinds[i], better, p, bells, cake)) return better - tie;
            }
            return NONE;
        }

        boolean isDueForTrial(int p) {
            return lives(p) && !hadTrial(p) && ageOf(p) >= trialAge;
        }

        boolean canHoldTrial(int p, int bells, int cake) {
            return isDueForTrial(p) && coins[p] >= costOf(bells, cake);
        }

        int holdTrial(int p, int bells, int cake) {
            int guests = guestsOf(p, bells, cake);
            coins[p] -= costOf(bells, cake);
            for (int i = 0; i < persons; i++) {
                if (i != p && lives(i)) meet(p, i, contains(guests, i));
            }
            hadSet |= 1 << p;
            trialsToday++;
            return guests;
        }

        /** What p's trial changes between p and i alone. */
        void meet(int p, int i, boolean came) {
            boolean closer = came && kinds[i] != SPITEFUL;
            changeTie(p, i, closer ? 1 : -1);
            if (came) payOff(i, p, debtOf(i, p) / 2);
        }

        void changeTie(int i, int j, int by) {
            int changed = tieOf(i, j) + by;
            ties[cell(i, j)] = Math.max(LEAST_TIE, Math.min(MOST_TIE, changed));
        }

        /** Pays that much of i's debt to j, or all that i has. */
        int payOff(int i, int j, int sum) {
            int paid = Math.min(sum, coins[i]);
            coins[i] -= paid;
            debts[cell(i, j)] -= paid;
            receive(j, paid);
            return paid;
        }

        void receive(int p, int sum) {
            coins[p] = Math.min(MOST_COINS, coins[p] + sum);
        }

        boolean canGive(int i, int j) {
            return lives(i) && lives(j) && coins[i] >= GIFT_COST && tieOf(j, i) < MOST_TIE;
        }

        void give(int i, int j) {
            coins[i] -= GIFT_COST;
            changeTie(j, i, 1);
        }

        int heirOf(int p) {
            int heir = NONE;
            int greatest = LEAST_TIE - 1;
            for (int i = 0; i < persons; i++) {
                if (i != p && lives(i) && tieOf(p, i) > greatest) {
                    greatest = tieOf(p, i);
                    heir = i;
                }
            }
            return heir;
        }

        int bury(int p) {
            int heir = heirOf(p);
            if (heir >= 0) bequeath(p, heir);
            deadSet |= 1 << p;
            coins[p] = 0;
            for (int i = 0; i < persons; i++) {
                debts[cell(i, p)] = 0;
                debts[cell(p, i)] = 0;
            }
            return heir;
        }

        void bequeath(int p, int heir) {
            receive(heir, coins[p]);
            for (int i = 0; i < persons; i++) {
                if (i != heir) debts[cell(i, heir)] += debtOf(i, p);
            }
        }

        void letDaysGoBy(int n) {
            days += n;
            trialsToday = 0;
        }

        /** A day of a year by draws: how many came to a trial on it. */
        int liveOneDay(int draw) {
            if (persons < 1) return 0;
            int p = draw % persons;
            int bells = draw / 8 % 4;
            int cake = draw / 32 % 4;
            int other = draw / 128 % persons;
            int came = 0;
            if (canHoldTrial(p, bells, cake)) {
                came = Integer.bitCount(holdTrial(p, bells, cake));
            } else if (p != other && canGive(p, other)) {
                give(p, other);
            }
            letDaysGoBy(1);
            return came;
        }

        int gainOf(int p, int other) {
            return 3 * tieOf(other, p) + coins[p];
        }
    }

    /** The letters written, and the reading of them as items. */
    private static final class Text {
        final char[] letters = new char[MOST_LETTERS];
        final int[] numbers = new int[3];
        int length = 0;
        int place = 0;

        boolean isFull() {
            return length >= MOST_LETTERS;
        }

        void append(char letter) {
            if (isFull()) return;
            letters[length] = letter;
            length++;
        }

        void clear() {
            length = 0;
        }

        /** Where the first faulty item begins, or NONE: only then the village is as told. */
        int readInto(Village village) {
            village.empty();
            place = 0;
            // An item has a letter at least, so there are no more items than letters.
            for (int items = 0; items < MOST_LETTERS && place < length; items++) {
                int begin = place;
                if (!readItem(village)) return begin;
            }
            return NONE;
        }

        boolean readItem(Village village) {
            char letter = next();
            int last = letter == 'g' ? 0 : 2;
            for (int k = 0; k <= last; k++) {
                if (!readNumber(k) || next() != (k < last ? ',' : ';')) return false;
            }
            return tell(village, letter);
        }

        boolean readNumber(int k) {
            if (!isAtFigure()) return false;
            int number = next() - '0';
            if (isAtFigure()) number = 10 * number + (next() - '0');
            numbers[k] = number;
            return true;
        }

        boolean isAtFigure() {
            return place < length && letters[place] >= '0' && letters[place] <= '9';
        }

        /** Behind the last letter it gives one that stands in no item. */
        char next() {
            if (place >= length) return ' ';
            char letter = letters[place];
            place++;
            return letter;
        }

        boolean tell(Village village, char letter) {
            switch (letter) {
                case 'p': return village.tellPerson(numbers[0], numbers[1], numbers[2]);
                case 't': return village.tellTie(numbers[0], numbers[1], numbers[2]);
                case 'o': return village.tellDebt(numbers[0], numbers[1], numbers[2]);
                case 'g': return village.tellTrialAge(numbers[0]);
                default: return false;
            }
        }
    }

    /** Villages one on the other; onto a full pile a village comes in the place of the lowest. */
    private static final class Pile {
        final Village[] villages;
        int size = 0;
        int top = 0;

        Pile(int most) {
            villages = new Village[Math.max(1, most)];
            for (int k = 0; k < villages.length; k++) {
                villages[k] = new Village();
            }
        }

        void put(Village village) {
            villages[top].copyFrom(village);
            top = (top + 1) % villages.length;
            size = Math.min(villages.length, size + 1);
        }

        void takeInto(Village village) {
            if (size == 0) return;
            top = (top + villages.length - 1) % villages.length;
            village.copyFrom(villages[top]);
            size--;
        }

        void clear() {
            size = 0;
        }
    }

    /** What was seen of who would come to whose trial. */
    private static final class Sightings {
        final int[] guests = new int[MOST_SEEN];
        final int[] hosts = new int[MOST_SEEN];
        final int[] bells = new int[MOST_SEEN];
        final int[] cakes = new int[MOST_SEEN];
        final boolean[] would = new boolean[MOST_SEEN];
        int size = 0;

        void add(int guest, int host, int b, int c, boolean comes) {
            if (size >= MOST_SEEN) return;
            guests[size] = guest;
            hosts[size] = host;
            bells[size] = b;
            cakes[size] = c;
            would[size] = comes;
            size++;
        }

        int tiesThatFit(Village village, int i, int p) {
            int fitting = 0;
            for (int tie = LEAST_TIE; tie <= MOST_TIE; tie++) {
                if (tieFits(village, i, p, tie)) fitting |= 1 << (tie + TIE_SHIFT);
            }
            return fitting;
        }

        int kindsThatFit(Village village, int i) {
            int fitting = 0;
            for (int kind = 0; kind <= LAST_KIND; kind++) {
                if (kindFits(village, i, kind)) fitting |= 1 << kind;
            }
            return fitting;
        }

        boolean tieFits(Village village, int i, int p, int tie) {
            for (int row = 0; row < size; row++) {
                boolean told = guests[row] == i && hosts[row] == p;
                if (told && !isSo(row, village, village.kinds[i], tie)) return false;
            }
            return true;
        }

        boolean kindFits(Village village, int i, int kind) {
            for (int row = 0; row < size; row++) {
                boolean told = guests[row] == i;
                if (told && !isSo(row, village, kind, village.tieOf(i, hosts[row]))) return false;
            }
            return true;
        }

        boolean isSo(int row, Village village, int kind, int tie) {
            return would[row]
                == village.wouldCome(guests[row], kind, tie, hosts[row], bells[row], cakes[row]);
        }
    }

    /** Tries all orders of trials on one day; a village a level, so that no order makes new ones. */
    private static final class OrderSearch {
        final Village[] levels = new Village[MOST_PERSONS + 1];
        final int[] path = new int[MOST_PERSONS];
        final int[] best = new int[MOST_PERSONS];
        int bells = 0;
        int cake = 0;
        int due = 0;
        int size = 0;
        int most = 0;

        OrderSearch() {
            for (int k = 0; k < levels.length; k++) {
                levels[k] = new Village();
            }
        }

        /** All orders are dear, and one asks for the places of the best one by one. */
        boolean isFor(Village village, int b, int c) {
            return bells == b && cake == c && levels[0].isLike(village);
        }

        void start(Village village, int b, int c) {
            levels[0].copyFrom(village);
            bells = b;
            cake = c;
            due = 0;
            for (int p = 0; p < village.persons; p++) {
                if (village.isDueForTrial(p)) due |= 1 << p;
            }
            size = Integer.bitCount(due);
            // Below any number of guests, so that the first order stands until one has more.
            most = -1;
        }

        private static void tryAll(OrderSearch search, int depth, int left, int came) {
            if (left == 0 || depth >= MOST_PERSONS) {
                search.note(came);
                return;
            }
            // Later orders must have more, and to no trial come more than all others.
            int others = search.levels[0].persons - 1;
            if (came + Integer.bitCount(left) * others <= search.most) return;
            for (int p = 0; p < MOST_PERSONS; p++) {
                if (contains(left, p)) {
                    int more = search.step(depth, p);
                    tryAll(search, depth + 1, left & ~(1 << p), came + more);
                }
            }
        }

        int step(int depth, int p) {
            path[depth] = p;
            Village village = levels[depth + 1];
            village.copyFrom(levels[depth]);
            if (!village.canHoldTrial(p, bells, cake)) return 0;
            return Integer.bitCount(village.holdTrial(p, bells, cake));
        }

        void note(int came) {
            if (came <= most) return;
            most = came;
            System.arraycopy(path, 0, best, 0, MOST_PERSONS);
        }
    }
}
