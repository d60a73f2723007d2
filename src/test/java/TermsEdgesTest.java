import java.util.NoSuchElementException;

/** The sentences of 'What it is' and 'Terms' that name a limit, each on both sides of it. */
public final class TermsEdgesTest {
    private static final String SIXTEEN_GAPS = "                ";
    /** These two and "ee" have each of the 36 runs once. */
    private static final String SEVENTEEN_UNLIKE_RUNS = "accdbaeadab  d c";
    private static final String SIXTEEN_UNLIKE_RUNS = "bcbddcedebbecaa";

    public static void main(String[] args) {
        fiveHundredAndTwelveCalls();
        upToSixteenLetters();
        fromAToEOrASpace();
        runsOfATextWithLetters();
        noRunsWithoutLetters();
        numbersOfRuns();
        atMostFiveTongues();
        countOfARun();
        textsInTheirOrder();
        withdrawnIsNotCounted();
        atMostThirtyTexts();
        leastWholeNumber();
        leastAndGreatestCost();
        costOfAText();
        ranksOfCountsAboveZero();
        greaterCountsFirst();
        sameCountsByTheirNumbers();
        unlikeRunsOfTheText();
        withoutRankInTheTongue();
        differenceWithoutItsSign();
        priceForEachRunButTheFirst();
        priceForAnotherTongue();
        severalCutsOfLeastCost();
        firstNamedException();
        callThatThrows();
        notSure();
        Check.end();
    }

    /** Seven calls, then 504 that leave what the seven made. */
    private static void fiveHundredAndElevenCalls(Tonguetell x) {
        Check.addTongues(x, 2);
        for (char letter : "abab".toCharArray()) {
            x.spell(letter);
        }
        x.teach(0);
        for (int text = 1; text <= 252; text++) {
            x.withdraw(x.teach(1));
        }
    }

    private static void lastCall(String what, long want, Check.Call call) {
        Check.answered("call 512: " + what, want, TermsEdgesTest::fiveHundredAndElevenCalls, call);
    }

    private static void fiveHundredAndTwelveCalls() {
        Check.sentence("An object is used for at most 512 calls after it has been made; what later calls answer is free.");
        lastCall("spell", 5, x -> x.spell('e'));
        lastCall("clearSpelled", 4, x -> x.clearSpelled());
        lastCall("runs", 5, x -> x.runs());
        lastCall("runAt", 12, x -> x.runAt(4));
        lastCall("addTongue", 2, x -> x.addTongue());
        lastCall("tongues", 2, x -> x.tongues());
        lastCall("teach", 253, x -> x.teach(1));
        lastCall("withdraw", 5, x -> x.withdraw(0));
        lastCall("tongueOf", 0, x -> x.tongueOf(0));
        lastCall("total", 0, x -> x.total(1));
        lastCall("count", 2, x -> x.count(0, 8));
        lastCall("cost", 4, x -> x.cost(0, 8));
        lastCall("rank", 3, x -> x.rank(0, 13));
        lastCall("textCost", 5 + 4 + 5 + 4 + 5, x -> x.textCost(0));
        lastCall("distance", 4 * 36, x -> x.distance(1));
        lastCall("setMargin", 3, x -> x.setMargin(0));
        lastCall("tell", 0, x -> x.tell());
        lastCall("tellByRanks", 0, x -> x.tellByRanks());
        lastCall("setPrice", 4, x -> x.setPrice(0));
        lastCall("cutCost", 23, x -> x.cutCost());
        lastCall("cutCostByTrying", 23, x -> x.cutCostByTrying());
        lastCall("cutTongue", 0, x -> x.cutTongue(4));
        lastCall("stretches", 1, x -> x.stretches());
        lastCall("learn", 2, x -> x.learn(4));

        Tonguetell x = new Tonguetell();
        x.addTongue();
        x.spell('a');
        for (int text = 0; text < 30; text++) {
            x.teach(0);
        }
        for (int text = 0; text < 239; text++) {
            x.withdraw(text);
            x.teach(0);
        }
        x.withdraw(250);
        Check.due("call 512: the most texts that can be taught", x.teach(0), 269);
    }

    private static void upToSixteenLetters() {
        Check.sentence("There is a spelled text of up to 16 letters");
        Check.answered("letter 16", 16, x -> Check.spell(x, "abcde abcde abc"), x -> x.spell('d'));
        Check.answered("runs of 16 letters", 17, x -> Check.spell(x, "abcde abcde abcd"), x -> x.runs());
        Check.refused("letter 17", IllegalStateException.class, x -> Check.spell(x, "abcde abcde abcd"), x -> x.spell('e'));
    }

    private static void fromAToEOrASpace() {
        Check.sentence("each from a to e or a space, which is a gap. Letters have numbers: 0 for a gap, 1 for"
            + " a, and so on, 5 for e.");
        Check.answered("the number of a gap", 0, x -> x.spell(' '), x -> x.runAt(0));
        Check.answered("the number of a", 1, x -> x.spell('a'), x -> x.runAt(0));
        Check.answered("the number of e", 5, x -> x.spell('e'), x -> x.runAt(0));
        for (char letter : new char[] {' ' - 1, ' ' + 1, 'a' - 1, 'e' + 1}) {
            Check.refused("letter " + (int) letter, IllegalArgumentException.class, x -> { }, x -> x.spell(letter));
        }
    }

    private static void runsOfATextWithLetters() {
        Check.sentence("The runs of a text of n letters, n above 0, are n + 1");
        Check.answered("one letter", 2, x -> Check.spell(x, "a"), x -> x.runs());
        Check.answered("two letters", 3, x -> Check.spell(x, "ab"), x -> x.runs());
        Check.answered("sixteen letters", 17, x -> Check.spell(x, SIXTEEN_GAPS), x -> x.runs());
        Check.answered("a gap ahead", 3, x -> Check.spell(x, "cd"), x -> x.runAt(0));
        Check.answered("a gap behind", 24, x -> Check.spell(x, "cd"), x -> x.runAt(2));
    }

    private static void withOneTongue(Tonguetell x) {
        x.addTongue();
        Check.teach(x, 0, "abc");
        x.clearSpelled();
    }

    private static void noRunsWithoutLetters() {
        Check.sentence("A text without letters has no runs.");
        Check.answered("runs", 0, TermsEdgesTest::withOneTongue, x -> x.runs());
        Check.refused("runAt", IndexOutOfBoundsException.class, TermsEdgesTest::withOneTongue, x -> x.runAt(0));
        Check.refused("cutTongue", IndexOutOfBoundsException.class, TermsEdgesTest::withOneTongue, x -> x.cutTongue(0));
        Check.answered("textCost", 0, TermsEdgesTest::withOneTongue, x -> x.textCost(0));
        Check.answered("distance", 0, TermsEdgesTest::withOneTongue, x -> x.distance(0));
        Check.answered("learn", Tonguetell.NONE, TermsEdgesTest::withOneTongue, x -> x.learn(0));
        Check.answered("one letter is a text with runs", 2, x -> {
            withOneTongue(x);
            x.spell(' ');
        }, x -> x.runs());
    }

    private static void numbersOfRuns() {
        Check.sentence("the run of two letters has the number 6 * (number of the first) + (number of the second), 0 to 35");
        Check.answered("two gaps", 0, x -> Check.spell(x, "  "), x -> x.runAt(1));
        Check.answered("a gap and a", 1, x -> Check.spell(x, " a"), x -> x.runAt(1));
        Check.answered("a and a gap", 6, x -> Check.spell(x, "a "), x -> x.runAt(1));
        Check.answered("e and d", 34, x -> Check.spell(x, "ed"), x -> x.runAt(1));
        Check.answered("e and e", 35, x -> Check.spell(x, "ee"), x -> x.runAt(1));
    }

    private static void atMostFiveTongues() {
        Check.sentence("There are at most 5, numbered from 0.");
        Check.answered("the first", 0, x -> { }, x -> x.addTongue());
        Check.answered("the fifth", 4, x -> Check.addTongues(x, 4), x -> x.addTongue());
        Check.answered("the fifth, learned", 4, x -> {
            Check.addTongues(x, 4);
            Check.spell(x, "ab");
        }, x -> x.learn(6));
        Check.refused("the sixth", IllegalStateException.class, x -> Check.addTongues(x, 5), x -> x.addTongue());
        Check.refused("the sixth, learned", IllegalStateException.class, x -> {
            Check.addTongues(x, 5);
            Check.spell(x, "ab");
        }, x -> x.learn(6));
    }

    private static void countOfARun() {
        Check.sentence("the count of a run is how often it was");
        Tonguetell x = new Tonguetell();
        x.addTongue();
        Check.due("never", x.count(0, 0), 0);
        Check.teach(x, 0, "a ");
        Check.due("once", x.count(0, 0), 1);
        Check.spell(x, SIXTEEN_GAPS);
        for (int text = 1; text < 30; text++) {
            x.teach(0);
        }
        Check.due("29 * 17 times and once", x.count(0, 0), 494);
        x.withdraw(0);
        x.teach(0);
        Check.due("30 * 17 times, which is the most", x.count(0, 0), 510);
        Check.due("and all of them", x.total(0), 510);
    }

    private static void textsInTheirOrder() {
        Check.sentence("Taught texts are numbered from 0 in the order in which they were taught");
        Tonguetell x = new Tonguetell();
        Check.addTongues(x, 2);
        Check.due("the first", Check.teach(x, 1, "ab"), 0);
        Check.due("the second", x.teach(0), 1);
        Check.due("a learned one counts", x.learn(5), 2);
        Check.due("its tongue", x.tongueOf(2), 2);
        Check.thrown("a refused one", IndexOutOfBoundsException.class, x, y -> y.teach(3));
        Check.due("the one behind the learned and the refused one", x.teach(1), 3);
        x.withdraw(3);
        Check.due("the one behind a withdrawn one", x.teach(1), 4);
        for (int text = 5; text < 31; text++) {
            Check.due("behind many", x.teach(0), text);
        }
        Check.thrown("a refused one, the texts full", IllegalStateException.class, x, y -> y.teach(0));
        x.withdraw(0);
        Check.due("in the place of the first", x.teach(1), 31);
        Check.thrown("the first stays withdrawn", NoSuchElementException.class, x, y -> y.tongueOf(0));
        Check.due("the last", x.tongueOf(31), 1);
    }

    private static void withdrawnIsNotCounted() {
        Check.sentence("they can be withdrawn, by which their runs are not counted any more");
        Tonguetell x = new Tonguetell();
        x.addTongue();
        Check.teach(x, 0, "aa");
        x.teach(0);
        Check.due("taught twice", x.count(0, 7), 2);
        x.withdraw(0);
        Check.due("once withdrawn", x.count(0, 7), 1);
        Check.due("once withdrawn, all", x.total(0), 3);
        Check.due("once withdrawn, the rank", x.rank(0, 7), 2);
        x.withdraw(1);
        Check.due("withdrawn", x.count(0, 7), 0);
        Check.due("withdrawn, all", x.total(0), 0);
        Check.due("withdrawn, the cost", x.cost(0, 7), 6);
        Check.due("withdrawn, the rank", x.rank(0, 7), Tonguetell.NONE);
        Check.due("taught again", x.teach(0), 2);
        Check.due("taught again, the count", x.count(0, 7), 1);
    }

    private static void atMostThirtyTexts() {
        Check.sentence("At most 30 texts are taught and not withdrawn at a time.");
        Check.answered("text 30", 29, x -> Check.texts(x, 29), x -> x.teach(1));
        Check.answered("text 30, learned", 2, x -> Check.texts(x, 29), x -> x.learn(0));
        Check.refused("text 31", IllegalStateException.class, x -> Check.texts(x, 30), x -> x.teach(1));
        Check.refused("text 31, learned", IllegalStateException.class, x -> Check.texts(x, 30), x -> x.learn(0));
        for (int gone : new int[] {0, 13, 29}) {
            Check.answered("text 31 with " + gone + " withdrawn", 30, x -> {
                Check.texts(x, 30);
                x.withdraw(gone);
            }, x -> x.teach(1));
            Check.refused("text 32 with " + gone + " withdrawn", IllegalStateException.class, x -> {
                Check.texts(x, 30);
                x.withdraw(gone);
                x.teach(1);
            }, x -> x.teach(0));
        }
    }

    /** Teaches so many runs of two gaps: 2 or more, at most 30 texts. */
    private static void teachGaps(Tonguetell x, int number) {
        int left = number;
        while (left > 0) {
            // No text has one run alone.
            int runs = left == 18 ? 16 : Math.min(left, 17);
            if (x.runs() != runs) {
                Check.spell(x, SIXTEEN_GAPS.substring(0, runs - 1));
            }
            x.teach(0);
            left -= runs;
        }
    }

    /** In a tongue of so many runs, one of them run 5, run 35 never. */
    private static void costsDue(int total, int ofOnce, int ofNever) {
        Tonguetell x = new Tonguetell();
        x.addTongue();
        Check.teach(x, 0, "e");
        teachGaps(x, total - 2);
        Check.due("runs of the tongue", x.total(0), total);
        Check.due("a count of 1 of " + total, x.cost(0, 5), ofOnce);
        Check.due("a count of 0 of " + total, x.cost(0, 35), ofNever);
    }

    /** In a tongue of run 0 alone. */
    private static void costOfAllDue(int total, int cost) {
        Check.answered("a count of " + total + " of " + total, cost, x -> {
            x.addTongue();
            teachGaps(x, total);
        }, x -> x.cost(0, 0));
    }

    private static void leastWholeNumber() {
        Check.sentence("the least whole number k, 0 or more, for which (its count + 1) * 2 to the power of k is at least"
            + " the number of all runs taught to the tongue and 36, together");
        costsDue(28, 5, 6);
        costsDue(29, 6, 7);
        costsDue(92, 6, 7);
        costsDue(93, 7, 8);
        costsDue(220, 7, 8);
        costsDue(221, 8, 9);
        costsDue(476, 8, 9);
        costsDue(477, 9, 10);
        costOfAllDue(4, 3);
        costOfAllDue(3, 4);
        costOfAllDue(11, 2);
        costOfAllDue(10, 3);
        costOfAllDue(34, 1);
        costOfAllDue(33, 2);
    }

    private static void leastAndGreatestCost() {
        Check.sentence("the least whole number k, 0 or more [...] the number of all runs taught to the tongue"
            + " and 36, together");
        for (int run : new int[] {0, 1, 35}) {
            Check.answered("an empty tongue, run " + run, 6, x -> x.addTongue(), x -> x.cost(0, run));
        }
        costOfAllDue(2, 4);
        costOfAllDue(510, 1);
        Check.answered("a count of 0 of 510", 10, x -> {
            x.addTongue();
            teachGaps(x, 510);
        }, x -> x.cost(0, 1));
    }

    private static void costOfAText() {
        Check.sentence("The cost of a text in a tongue is the sum of the costs of its runs.");
        Check.answered("one letter", 12, x -> {
            x.addTongue();
            x.spell('e');
        }, x -> x.textCost(0));
        Check.answered("17 runs of the greatest cost", 170, x -> {
            x.addTongue();
            teachGaps(x, 510);
            Check.spell(x, "abcdeabcdeabcdea");
        }, x -> x.textCost(0));
        Check.answered("17 runs of the least cost", 17, x -> {
            x.addTongue();
            teachGaps(x, 510);
        }, x -> x.textCost(0));
    }

    private static void allRunsOnce(Tonguetell x) {
        x.addTongue();
        Check.teach(x, 0, "ee");
        Check.teach(x, 0, SIXTEEN_UNLIKE_RUNS);
        Check.teach(x, 0, SEVENTEEN_UNLIKE_RUNS);
    }

    private static void ranksOfCountsAboveZero() {
        Check.sentence("those with a count above 0 are ordered by their counts [...] and get the ranks 0, 1, 2 and so on");
        Tonguetell x = new Tonguetell();
        allRunsOnce(x);
        for (int run = 0; run < 36; run++) {
            Check.due("a count of 1, run " + run, x.rank(0, run), run);
        }
        x.withdraw(0);
        for (int run : new int[] {5, 30, 35}) {
            Check.due("a count of 0, run " + run, x.rank(0, run), Tonguetell.NONE);
        }
        Check.due("the last with a count", x.rank(0, 34), 32);
    }

    private static void greaterCountsFirst() {
        Check.sentence("ordered by their counts, greater ones first");
        Tonguetell x = new Tonguetell();
        allRunsOnce(x);
        Check.due("the same count", x.rank(0, 35), 35);
        Check.teach(x, 0, "ee");
        Check.due("5, one more", x.rank(0, 5), 0);
        Check.due("30, one more", x.rank(0, 30), 1);
        Check.due("35, one more", x.rank(0, 35), 2);
        Check.due("0, the same as before", x.rank(0, 0), 3);
        Check.teach(x, 0, "  ");
        Check.due("0, three more", x.rank(0, 0), 0);
        Check.due("5 behind it", x.rank(0, 5), 1);
    }

    private static void sameCountsByTheirNumbers() {
        Check.sentence("those with the same count by their numbers");
        Tonguetell x = new Tonguetell();
        x.addTongue();
        Check.teach(x, 0, "ba");
        Check.due("2, the lowest", x.rank(0, 2), 0);
        Check.due("6, though it was last in the text", x.rank(0, 6), 1);
        Check.due("13, the highest", x.rank(0, 13), 2);
        Check.teach(x, 0, "aba");
        Check.due("6, twice", x.rank(0, 6), 0);
        Check.due("13, twice", x.rank(0, 13), 1);
        Check.due("1, once", x.rank(0, 1), 2);
        Check.due("2, once", x.rank(0, 2), 3);
    }

    private static void unlikeRunsOfTheText() {
        Check.sentence("the sum, over all unlike runs of the text");
        Check.answered("17 unlike runs", 17 * 36, x -> {
            x.addTongue();
            Check.spell(x, SEVENTEEN_UNLIKE_RUNS);
        }, x -> x.distance(0));
        Check.answered("17 runs that are like", 36, x -> {
            x.addTongue();
            Check.spell(x, SIXTEEN_GAPS);
        }, x -> x.distance(0));
        Check.answered("no run", 0, x -> x.addTongue(), x -> x.distance(0));
        Check.answered("not the runs of the text before", 3 * 36, x -> {
            x.addTongue();
            Check.spell(x, SIXTEEN_GAPS);
            x.distance(0);
            Check.spell(x, "ee");
        }, x -> x.distance(0));
    }

    private static void withoutRankInTheTongue() {
        Check.sentence("or of 36 if it has no rank in the tongue");
        Tonguetell x = new Tonguetell();
        allRunsOnce(x);
        Check.spell(x, "eee");
        // The text's ranks: 35, which it has twice, then 5 and 30.
        Check.due("the last rank is 35", x.distance(0), 35 + (5 - 1) + (30 - 2));
        x.withdraw(0);
        Check.due("no rank", x.distance(0), 36 + 36 + 36);
    }

    private static void differenceWithoutItsSign() {
        Check.sentence("the difference of the rank among the runs of the text and the rank in the tongue,"
            + " without its sign");
        Tonguetell x = new Tonguetell();
        x.addTongue();
        Check.teach(x, 0, "a");
        Check.due("no difference", x.distance(0), 0);
        Check.spell(x, "a a");
        // The text's ranks: 1 and 6, twice each, as in the tongue.
        Check.due("no difference once more", x.distance(0), 0);
        Check.teach(x, 0, "ba");
        // The tongue's ranks: 6, 1, 2, 13; the text's: 2, 6, 13.
        Check.due("above and below", x.distance(0), (2 - 0) + (1 - 0) + (3 - 2));
    }

    private static void aaaaAndBbbb(Tonguetell x) {
        Check.addTongues(x, 2);
        Check.teach(x, 0, "aaaa");
        Check.teach(x, 1, "bbbb");
    }

    private static void priceForEachRunButTheFirst() {
        Check.sentence("and a price, 4 at first, for each run but the first one that has another tongue than"
            + " the run before it");
        Tonguetell x = new Tonguetell();
        aaaaAndBbbb(x);
        Check.spell(x, "bbbb");
        Check.due("all in tongue 1", x.cutCost(), 5 + 4 + 4 + 4 + 5);
        Check.due("all in tongue 1, tried", x.cutCostByTrying(), 22);
        Check.spell(x, "aaabbb");
        Check.due("one change", x.cutCost(), 32 + 4);
        x.setPrice(3);
        Check.due("one change at 3", x.cutCost(), 32 + 3);
        Check.due("one change at 3", x.stretches(), 2);
    }

    private static void priceForAnotherTongue() {
        Check.sentence("for each run but the first one that has another tongue than the run before it");
        Tonguetell x = new Tonguetell();
        Check.addTongues(x, 2);
        Check.teach(x, 0, "a");
        Check.teach(x, 1, "b");
        Check.spell(x, "a b a b");
        x.setPrice(0);
        Check.due("three changes at nothing", x.cutCost(), 40);
        x.setPrice(1);
        Check.due("changes for 1 each", x.cutCost(), 43);
        x.setPrice(2);
        Check.due("none pays for 2 each", x.cutCost(), 44);
        x.setPrice(100);
        Check.due("nothing is paid without a change", x.cutCost(), 44);
    }

    private static void toldCut(String what, Tonguetell x, String tongues) {
        StringBuilder told = new StringBuilder();
        for (int place = 0; place < tongues.length(); place++) {
            told.append(x.cutTongue(place));
        }
        Check.holds(what + ": the told cut " + told + " is " + tongues, told.toString().equals(tongues));
    }

    private static void severalCutsOfLeastCost() {
        Check.sentence("of several the one that gives the first run for which they differ the tongue with the"
            + " lower number");
        Tonguetell x = new Tonguetell();
        aaaaAndBbbb(x);
        // Of 37 there are at a price of 5: all in 0, all in 1, and the one with a change.
        Check.spell(x, "aaabbb");
        x.setPrice(4);
        toldCut("one of least cost", x, "0000111");
        x.setPrice(5);
        toldCut("three of least cost", x, "0000000");
        Check.spell(x, "bbbaaa");
        toldCut("three of least cost, b first", x, "0000000");
        x.setPrice(4);
        toldCut("one of least cost, b first", x, "1110000");
        x.setPrice(0);
        Check.spell(x, "acca");
        // 1, 9, 21, 19, 6 cost 5 6 6 6 5 in tongue 0 and 6 each in tongue 1.
        toldCut("eight of least cost", x, "00000");
        Check.spell(x, "bccb");
        toldCut("eight of least cost, the first in 1", x, "10001");
        x.setPrice(1);
        toldCut("a price of 1 makes it one", x, "11111");
    }

    private static void sixteenLetters(Tonguetell x) {
        Check.spell(x, SEVENTEEN_UNLIKE_RUNS);
    }

    private static void firstNamedException() {
        Check.sentence("If several exceptions apply to a call, the one that its throws clause names first is thrown");
        Check.refused("spell: no letter, and 16 letters", IllegalArgumentException.class,
            TermsEdgesTest::sixteenLetters, x -> x.spell('f'));
        Check.refused("spell: 16 letters alone", IllegalStateException.class,
            TermsEdgesTest::sixteenLetters, x -> x.spell('e'));
        Check.refused("teach: no such tongue, and an empty text", IndexOutOfBoundsException.class,
            TermsEdgesTest::withOneTongue, x -> x.teach(1));
        Check.refused("teach: an empty text alone", IllegalStateException.class,
            TermsEdgesTest::withOneTongue, x -> x.teach(0));
        Check.refused("teach: no such tongue, and 30 texts", IndexOutOfBoundsException.class,
            x -> Check.texts(x, 30), x -> x.teach(2));
        Check.refused("teach: 30 texts alone", IllegalStateException.class, x -> Check.texts(x, 30), x -> x.teach(1));
        Check.refused("cutTongue: no tongues, and no such run", IllegalStateException.class,
            TermsEdgesTest::sixteenLetters, x -> x.cutTongue(17));
        Check.refused("cutTongue: no such run alone", IndexOutOfBoundsException.class, x -> {
            x.addTongue();
            sixteenLetters(x);
        }, x -> x.cutTongue(17));
        Check.refused("learn: out of range, and 5 tongues", IllegalArgumentException.class,
            x -> Check.addTongues(x, 5), x -> x.learn(21));
        Check.refused("learn: 5 tongues alone", IllegalStateException.class,
            x -> Check.addTongues(x, 5), x -> x.learn(20));
        Check.refused("learn: out of range, and 30 texts", IllegalArgumentException.class,
            x -> Check.texts(x, 30), x -> x.learn(-1));
        Check.refused("learn: 30 texts alone", IllegalStateException.class, x -> Check.texts(x, 30), x -> x.learn(0));
    }

    private static void fullObject(Tonguetell x) {
        Check.addTongues(x, 5);
        sixteenLetters(x);
        for (int text = 0; text < 30; text++) {
            x.teach(text % 5);
        }
        x.setMargin(2);
        x.setPrice(7);
    }

    private static void callThatThrows() {
        Check.sentence("a call that throws changes nothing");
        Check.Call[] refused = {
            x -> x.spell('f'), x -> x.spell('a'), x -> x.runAt(-1), x -> x.runAt(17), x -> x.addTongue(), x -> x.teach(-1),
            x -> x.teach(5), x -> x.teach(0), x -> x.withdraw(-1), x -> x.withdraw(30), x -> x.tongueOf(-1),
            x -> x.tongueOf(30), x -> x.total(-1), x -> x.total(5), x -> x.count(5, 0), x -> x.count(0, 36),
            x -> x.cost(5, 0), x -> x.cost(0, 36), x -> x.rank(5, 0), x -> x.rank(0, 36), x -> x.textCost(5),
            x -> x.distance(5), x -> x.setMargin(101), x -> x.setPrice(101), x -> x.cutCostByTrying(), x -> x.cutTongue(17),
            x -> x.learn(21), x -> x.learn(0),
        };
        Tonguetell touched = new Tonguetell();
        fullObject(touched);
        for (int call = 0; call < refused.length; call++) {
            String answer = Check.answerOf(touched, refused[call]);
            Check.holds("call " + call + " throws: " + answer, answer.endsWith("Exception"));
        }
        Tonguetell untouched = new Tonguetell();
        fullObject(untouched);
        Check.sameState("all these calls", touched, untouched);
    }

    private static void notSure() {
        Check.sentence("NONE = -1: There is none; not sure.");
        Check.due("the constant", Tonguetell.NONE, -1);
        Check.answered("no tongue is told", -1, x -> { }, x -> x.tell());
        Check.answered("no tongue is told by ranks", -1, x -> { }, x -> x.tellByRanks());
        Check.answered("no rank", -1, x -> x.addTongue(), x -> x.rank(0, 0));
        Check.answered("no tongue is learned", -1, x -> { }, x -> x.learn(0));
    }
}
