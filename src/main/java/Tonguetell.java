import java.util.NoSuchElementException;

/** A teller of languages. What each call promises is told in ../shared/DOC.md. */
public final class Tonguetell {
    public static final int NONE = -1;

    private static final int MOST_LETTERS = 16;
    private static final int MOST_RUNS = 17;
    private static final int LETTER_KINDS = 6;
    private static final int RUN_KINDS = 36;
    private static final int MOST_TONGUES = 5;
    private static final int MOST_TEXTS = 30;

    private static final int GAP = 0;
    private static final int NO_LETTER = -1;
    private static final int DISTANCE_WITHOUT_RANK = 36;
    private static final int LEAST_LETTERS_TO_TELL = 4;
    private static final int MOST_LETTERS_TO_TRY = 5;
    private static final int LEAST_RUNS_TO_LEARN = 3;

    private static final int GREATEST_MARGIN = 100;
    private static final int GREATEST_PRICE = 100;
    private static final int GREATEST_LEAST = 20;

    private final Spelling spelled = new Spelling();
    private final Tally spelledTally = new Tally();
    private final Tally[] tallies = new Tally[MOST_TONGUES];
    private final Shelf shelf = new Shelf();
    private final Cutter cutter = new Cutter();
    private int tongueCount = 0;
    private int margin = 3;
    private int price = 4;

    public Tonguetell() {
        for (int tongue = 0; tongue < MOST_TONGUES; tongue++) {
            tallies[tongue] = new Tally();
        }
    }

    // ---- the spelled text

    public int spell(char letter) throws IllegalArgumentException, IllegalStateException {
        int number = letterNumber(letter);
        if (number == NO_LETTER) {
            throw new IllegalArgumentException("the letter is neither from a to e nor a space");
        }
        if (spelled.length >= MOST_LETTERS) {
            throw new IllegalStateException("the spelled text has 16 letters");
        }
        spelled.append(number);
        return spelled.length;
    }

    public int clearSpelled() {
        int before = spelled.length;
        spelled.length = 0;
        return before;
    }

    public int runs() {
        return spelled.runCount();
    }

    public int runAt(int place) throws IndexOutOfBoundsException {
        requireRunPlace(place);
        return spelled.runNumber(place);
    }

    // ---- tongues

    public int addTongue() throws IllegalStateException {
        if (tongueCount >= MOST_TONGUES) {
            throw new IllegalStateException("there are 5 tongues");
        }
        return newTongue();
    }

    public int tongues() {
        return tongueCount;
    }

    public int teach(int tongue) throws IndexOutOfBoundsException, IllegalStateException {
        requireTongue(tongue);
        if (spelled.length == 0) {
            throw new IllegalStateException("the spelled text is empty");
        }
        if (shelf.isFull()) {
            throw new IllegalStateException("30 texts are taught and not withdrawn");
        }
        return teachRuns(tongue, 0, spelled.runCount());
    }

    public int withdraw(int text) throws NoSuchElementException {
        int slot = slotOfTaught(text);
        Tally tally = tallies[shelf.tongueIn[slot]];
        int length = shelf.lengthIn[slot];
        for (int place = 0; place < length; place++) {
            tally.remove(shelf.runsIn[slot][place]);
        }
        shelf.free(slot);
        return length;
    }

    public int tongueOf(int text) throws NoSuchElementException {
        return shelf.tongueIn[slotOfTaught(text)];
    }

    public int total(int tongue) throws IndexOutOfBoundsException {
        requireTongue(tongue);
        return tallies[tongue].sum;
    }

    public int count(int tongue, int run) throws IndexOutOfBoundsException {
        requireTongue(tongue);
        requireRunKind(run);
        return tallies[tongue].counts[run];
    }

    public int cost(int tongue, int run) throws IndexOutOfBoundsException {
        requireTongue(tongue);
        requireRunKind(run);
        return tallies[tongue].costOf(run);
    }

    public int rank(int tongue, int run) throws IndexOutOfBoundsException {
        requireTongue(tongue);
        requireRunKind(run);
        return tallies[tongue].rankOf(run);
    }

    // ---- telling

    public int textCost(int tongue) throws IndexOutOfBoundsException {
        requireTongue(tongue);
        return costOfSpelled(tongue);
    }

    public int distance(int tongue) throws IndexOutOfBoundsException {
        requireTongue(tongue);
        tallySpelled();
        return distanceOfSpelled(tongue);
    }

    public int setMargin(int margin) throws IllegalArgumentException {
        if (margin < 0 || margin > GREATEST_MARGIN) {
            throw new IllegalArgumentException("the margin is not from 0 to 100");
        }
        int before = this.margin;
        this.margin = margin;
        return before;
    }

    public int tell() {
        if (spelled.length < LEAST_LETTERS_TO_TELL || tongueCount == 0) {
            return NONE;
        }
        int best = 0;
        int least = costOfSpelled(best);
        for (int tongue = 1; tongue < tongueCount; tongue++) {
            int own = costOfSpelled(tongue);
            if (own < least) {
                best = tongue;
                least = own;
            }
        }
        return isSure(best, least) ? best : NONE;
    }

    public int tellByRanks() {
        if (spelled.length == 0 || tongueCount == 0) {
            return NONE;
        }
        tallySpelled();
        int best = 0;
        int least = distanceOfSpelled(best);
        for (int tongue = 1; tongue < tongueCount; tongue++) {
            int own = distanceOfSpelled(tongue);
            if (own < least) {
                best = tongue;
                least = own;
            }
        }
        return best;
    }

    // ---- cuts

    public int setPrice(int price) throws IllegalArgumentException {
        if (price < 0 || price > GREATEST_PRICE) {
            throw new IllegalArgumentException("the price is not from 0 to 100");
        }
        int before = this.price;
        this.price = price;
        return before;
    }

    public int cutCost() throws IllegalStateException {
        requireSomeTongue();
        layCostsForCut();
        return cutter.leastCost();
    }

    public int cutCostByTrying() throws IllegalStateException {
        requireSomeTongue();
        if (spelled.length > MOST_LETTERS_TO_TRY) {
            throw new IllegalStateException("the spelled text has more than 5 letters");
        }
        layCostsForCut();
        return cutter.leastCostByTrying();
    }

    public int cutTongue(int place) throws IllegalStateException, IndexOutOfBoundsException {
        requireSomeTongue();
        requireRunPlace(place);
        layCostsForCut();
        cutter.findToldCut();
        return cutter.told[place];
    }

    public int stretches() throws IllegalStateException {
        requireSomeTongue();
        layCostsForCut();
        cutter.findToldCut();
        return cutter.stretchCount();
    }

    // ---- newcomers

    public int learn(int least) throws IllegalArgumentException, IllegalStateException {
        if (least < 0 || least > GREATEST_LEAST) {
            throw new IllegalArgumentException("the cost is not from 0 to 20");
        }
        if (tongueCount >= MOST_TONGUES) {
            throw new IllegalStateException("there are 5 tongues");
        }
        if (shelf.isFull()) {
            throw new IllegalStateException("30 texts are taught and not withdrawn");
        }
        int longest = 0;
        int end = 0;
        int length = 0;
        for (int place = 0; place < spelled.runCount(); place++) {
            length = fitsNoTongue(spelled.runNumber(place), least) ? length + 1 : 0;
            if (length > longest) {
                longest = length;
                end = place + 1;
            }
        }
        if (longest < LEAST_RUNS_TO_LEARN) {
            return NONE;
        }
        int tongue = newTongue();
        teachRuns(tongue, end - longest, longest);
        return tongue;
    }

    // ---- what the calls share

    private static int letterNumber(char letter) {
        if (letter == ' ') {
            return GAP;
        }
        if (letter >= 'a' && letter <= 'e') {
            return letter - 'a' + 1;
        }
        return NO_LETTER;
    }

    private void requireRunPlace(int place) {
        if (place < 0 || place >= spelled.runCount()) {
            throw new IndexOutOfBoundsException("the spelled text has no such run");
        }
    }

    private void requireTongue(int tongue) {
        if (tongue < 0 || tongue >= tongueCount) {
            throw new IndexOutOfBoundsException("there is no such tongue");
        }
    }

    private void requireSomeTongue() {
        if (tongueCount == 0) {
            throw new IllegalStateException("there are no tongues");
        }
    }

    private static void requireRunKind(int run) {
        if (run < 0 || run >= RUN_KINDS) {
            throw new IndexOutOfBoundsException("there is no such run");
        }
    }

    private int slotOfTaught(int text) {
        int slot = shelf.slotOf(text);
        if (slot == Shelf.NO_SLOT) {
            throw new NoSuchElementException("no such text was taught, or it was withdrawn");
        }
        return slot;
    }

    /** Only for callers that have seen that there is room for a tongue. */
    private int newTongue() {
        int number = tongueCount;
        tongueCount = number + 1;
        return number;
    }

    /** Only for callers that have seen that the shelf is not full. */
    private int teachRuns(int tongue, int from, int length) {
        int slot = shelf.take(tongue, length);
        for (int place = 0; place < length; place++) {
            int run = spelled.runNumber(from + place);
            shelf.runsIn[slot][place] = run;
            tallies[tongue].add(run);
        }
        return shelf.numberIn[slot];
    }

    private int costOfSpelled(int tongue) {
        int sum = 0;
        for (int place = 0; place < spelled.runCount(); place++) {
            sum += tallies[tongue].costOf(spelled.runNumber(place));
        }
        return sum;
    }

    private boolean isSure(int best, int least) {
        for (int tongue = 0; tongue < tongueCount; tongue++) {
            if (tongue != best && costOfSpelled(tongue) < least + margin) {
                return false;
            }
        }
        return true;
    }

    private void tallySpelled() {
        spelledTally.clear();
        for (int place = 0; place < spelled.runCount(); place++) {
            spelledTally.add(spelled.runNumber(place));
        }
    }

    /** Only after tallySpelled: the ranks of the spelled text's own runs are taken from there. */
    private int distanceOfSpelled(int tongue) {
        int sum = 0;
        for (int run = 0; run < RUN_KINDS; run++) {
            int own = spelledTally.rankOf(run);
            if (own != NONE) {
                int there = tallies[tongue].rankOf(run);
                sum += there == NONE ? DISTANCE_WITHOUT_RANK : Math.abs(own - there);
            }
        }
        return sum;
    }

    private void layCostsForCut() {
        cutter.begin(spelled.runCount(), tongueCount, price);
        for (int place = 0; place < spelled.runCount(); place++) {
            int run = spelled.runNumber(place);
            for (int tongue = 0; tongue < tongueCount; tongue++) {
                cutter.costs[place][tongue] = tallies[tongue].costOf(run);
            }
        }
    }

    private boolean fitsNoTongue(int run, int least) {
        for (int tongue = 0; tongue < tongueCount; tongue++) {
            if (tallies[tongue].costOf(run) < least) {
                return false;
            }
        }
        return true;
    }

    /** A text as the numbers of its letters, and the runs that follow from them. */
    private static final class Spelling {
        final int[] letters = new int[MOST_LETTERS];
        int length = 0;

        /** Only for callers that have seen that there is room for a letter. */
        void append(int letter) {
            letters[length] = letter;
            length++;
        }

        int runCount() {
            return length == 0 ? 0 : length + 1;
        }

        int runNumber(int place) {
            return LETTER_KINDS * letterOrGap(place - 1) + letterOrGap(place);
        }

        private int letterOrGap(int place) {
            return place < 0 || place >= length ? GAP : letters[place];
        }
    }

    /** How often each kind of run was counted, and the costs and ranks that follow from that. */
    private static final class Tally {
        final int[] counts = new int[RUN_KINDS];
        int sum = 0;

        void clear() {
            for (int run = 0; run < RUN_KINDS; run++) {
                counts[run] = 0;
            }
            sum = 0;
        }

        void add(int run) {
            counts[run]++;
            sum++;
        }

        void remove(int run) {
            counts[run]--;
            sum--;
        }

        int costOf(int run) {
            int needed = sum + RUN_KINDS;
            int reached = counts[run] + 1;
            int doublings = 0;
            // 30 texts of 17 runs and 36 are 546: ten doublings are always enough.
            while (reached < needed && doublings < 10) {
                reached *= 2;
                doublings++;
            }
            return doublings;
        }

        int rankOf(int run) {
            if (counts[run] == 0) {
                return NONE;
            }
            int ahead = 0;
            for (int other = 0; other < RUN_KINDS; other++) {
                if (counts[other] > counts[run] || (counts[other] == counts[run] && other < run)) {
                    ahead++;
                }
            }
            return ahead;
        }
    }

    /** The texts that are taught and not withdrawn, each in a slot that is used again when it is free. */
    private static final class Shelf {
        static final int NO_SLOT = -1;
        private static final int FREE = -1;

        final int[] numberIn = new int[MOST_TEXTS];
        final int[] tongueIn = new int[MOST_TEXTS];
        final int[] lengthIn = new int[MOST_TEXTS];
        final int[][] runsIn = new int[MOST_TEXTS][MOST_RUNS];
        private int nextNumber = 0;

        Shelf() {
            for (int slot = 0; slot < MOST_TEXTS; slot++) {
                numberIn[slot] = FREE;
            }
        }

        boolean isFull() {
            return firstSlotWith(FREE) == NO_SLOT;
        }

        int slotOf(int text) {
            // A free slot's number must not be found as a text's.
            return text < 0 ? NO_SLOT : firstSlotWith(text);
        }

        /** Only for callers that have seen that the shelf is not full. */
        int take(int tongue, int length) {
            int slot = firstSlotWith(FREE);
            numberIn[slot] = nextNumber;
            tongueIn[slot] = tongue;
            lengthIn[slot] = length;
            nextNumber++;
            return slot;
        }

        void free(int slot) {
            numberIn[slot] = FREE;
        }

        private int firstSlotWith(int number) {
            for (int slot = 0; slot < MOST_TEXTS; slot++) {
                if (numberIn[slot] == number) {
                    return slot;
                }
            }
            return NO_SLOT;
        }
    }

    /** Cuts a text whose runs' costs in all tongues were laid into costs after begin. */
    private static final class Cutter {
        private static final int ABOVE_ALL_COSTS = 1000000;

        final int[][] costs = new int[MOST_RUNS][MOST_TONGUES];
        final int[] told = new int[MOST_RUNS];
        /** The least cost of all runs from a place on, if the run there has a tongue. */
        private final int[][] rest = new int[MOST_RUNS][MOST_TONGUES];
        private int runCount = 0;
        private int choices = 0;
        private int changePrice = 0;

        void begin(int runCount, int choices, int changePrice) {
            this.runCount = runCount;
            this.choices = choices;
            this.changePrice = changePrice;
        }

        int leastCost() {
            if (runCount == 0) {
                return 0;
            }
            fillRest();
            return rest[0][cheapest(0, NONE)];
        }

        int leastCostByTrying() {
            return leastByTrying(this, 0, NONE);
        }

        // Going forward over costs that were summed from the end makes the lowest number win at the first difference.
        void findToldCut() {
            fillRest();
            int before = NONE;
            for (int place = 0; place < runCount; place++) {
                told[place] = cheapest(place, before);
                before = told[place];
            }
        }

        int stretchCount() {
            int stretchesSeen = 0;
            for (int place = 0; place < runCount; place++) {
                if (place == 0 || told[place] != told[place - 1]) {
                    stretchesSeen++;
                }
            }
            return stretchesSeen;
        }

        private void fillRest() {
            for (int place = runCount - 1; place >= 0; place--) {
                for (int tongue = 0; tongue < choices; tongue++) {
                    rest[place][tongue] = costs[place][tongue] + leastBehind(place, tongue);
                }
            }
        }

        private int leastBehind(int place, int tongue) {
            int next = place + 1;
            return next >= runCount ? 0 : restAfter(next, cheapest(next, tongue), tongue);
        }

        private int cheapest(int place, int before) {
            int best = 0;
            for (int tongue = 1; tongue < choices; tongue++) {
                if (restAfter(place, tongue, before) < restAfter(place, best, before)) {
                    best = tongue;
                }
            }
            return best;
        }

        private int restAfter(int place, int tongue, int before) {
            return rest[place][tongue] + priceOfChange(before, tongue);
        }

        private int priceOfChange(int before, int tongue) {
            return before == NONE || before == tongue ? 0 : changePrice;
        }

        /** The promise asks for trying all cuts, so nothing is remembered or left out here. */
        private static int leastByTrying(Cutter cutter, int place, int before) {
            // The place is the depth too: a text that may be tried has at most 6 runs.
            if (place >= cutter.runCount || place > MOST_LETTERS_TO_TRY) {
                return 0;
            }
            int least = ABOVE_ALL_COSTS;
            for (int tongue = 0; tongue < cutter.choices; tongue++) {
                int own = cutter.priceOfChange(before, tongue) + cutter.costs[place][tongue];
                least = Math.min(least, own + leastByTrying(cutter, place + 1, tongue));
            }
            return least;
        }
    }
}
