/** Promise 25: learn. */
public final class LearnTest {
    private static final int NONE = Tonguetell.NONE;

    public static void main(String[] args) {
        withoutTongues();
        tooShort();
        whatIsTaught();
        theLongestAndTheFirst();
        theCostDecides();
        everyTongueIsAsked();
        Check.end();
    }

    private static void withoutTongues() {
        for (int least : new int[] {0, 6, 7, 20}) {
            Tonguetell x = new Tonguetell();
            Check.spell(x, "abcdeabcdeabcdea");
            Check.due("25: all runs without tongues", x.learn(least), 0);
            Check.due("25: a tongue more", x.tongues(), 1);
            Check.due("25: all 17 runs", x.total(0), 17);
            Check.due("25: its text", x.tongueOf(0), 0);
            Check.due("25: the text stays spelled", x.runs(), 17);
            Check.due("25: withdrawn", x.withdraw(0), 17);
            Check.due("25: the tongue stays", x.tongues(), 1);
            Check.due("25: without runs", x.total(0), 0);
        }
    }

    private static void tooShort() {
        Tonguetell x = new Tonguetell();
        Check.due("25: an empty text", x.learn(0), NONE);
        Check.spell(x, "a");
        Check.due("25: two runs", x.learn(0), NONE);
        Check.due("25: no tongue", x.tongues(), 0);
        Check.holds("25: no text", !Check.isTaught(x, 0));
        Check.due("25: still spelled", x.runs(), 2);
        x.spell('b');
        Check.due("25: three runs", x.learn(0), 0);
        Check.due("25: three runs in it", x.total(0), 3);

        Tonguetell none = new Tonguetell();
        Check.spell(none, "abc");
        none.addTongue();
        none.learn(7);
        Tonguetell same = new Tonguetell();
        Check.spell(same, "abc");
        same.addTongue();
        Check.sameState("25: learn of no stretch", none, same);
    }

    /** Runs 1, 7 and 6 cost 4 in tongue 0, all others 6. */
    private static Tonguetell taughtAaTwice(String text) {
        Tonguetell x = new Tonguetell();
        x.addTongue();
        Check.teach(x, 0, "aa");
        Check.teach(x, 0, "aa");
        Check.spell(x, text);
        return x;
    }

    private static void whatIsTaught() {
        Tonguetell x = taughtAaTwice("aabcaa");
        // 1 7 | 8 15 19 | 7 6
        learnedDue("a stretch inside", x, 8, 15, 19);
        Check.due("25: the number of the text", x.tongueOf(2), 1);
        Check.due("25: the other tongue", x.total(0), 6);
        Check.due("25: the next text", x.teach(0), 3);
        Check.due("25: withdrawn", x.withdraw(2), 3);
        Check.due("25: without runs", x.total(1), 0);
    }

    /** The runs are unlike ones, and no others are in the new tongue. */
    private static void learnedDue(String what, Tonguetell x, int... runs) {
        Check.due("25: " + what, x.learn(6), 1);
        Check.due("25: runs of " + what, x.total(1), runs.length);
        for (int run : runs) {
            Check.due("25: run " + run + " of " + what, x.count(1, run), 1);
        }
    }

    private static void theLongestAndTheFirst() {
        // 2 15 19 | 7 | 10 29 31 | 7 | 9 21 22 24
        learnedDue("the longest at the end", taughtAaTwice("bcaadeaaccd"), 9, 21, 22, 24);
        // 2 15 19 | 7 | 10 29 31 | 7 | 9 21 18
        learnedDue("the first of three", taughtAaTwice("bcaadeaacc"), 2, 15, 19);
        // 1 7 | 8 13 | 7 | 8 15 20 12
        learnedDue("the longest behind a shorter one", taughtAaTwice("aabaabcb"), 8, 15, 20, 12);

        Tonguetell two = taughtAaTwice("baabaab");
        // 2 13 | 7 | 8 13 | 7 | 8 12
        Check.due("25: stretches of two", two.learn(6), NONE);
        Check.due("25: no tongue", two.tongues(), 1);
    }

    private static void theCostDecides() {
        Tonguetell x = new Tonguetell();
        x.addTongue();
        Check.spell(x, "ab");
        Check.due("25: 6 is not at least 7", x.learn(7), NONE);
        Check.due("25: 6 is not at least 20", x.learn(20), NONE);
        Check.due("25: 6 is at least 6", x.learn(6), 1);
        Check.due("25: 5 in the new tongue", x.learn(6), NONE);
        Check.due("25: 5 is at least 5", x.learn(5), 2);
        Check.due("25: all is at least 0", x.learn(0), 3);
    }

    private static void everyTongueIsAsked() {
        Tonguetell x = new Tonguetell();
        Check.addTongues(x, 3);
        Check.teach(x, 0, "abc");
        Check.teach(x, 2, "cde");
        Check.spell(x, "abcde");
        // 1 8 15 in the first, 22 29 30 in the third
        Check.due("25: each fits one tongue", x.learn(6), NONE);
        x.withdraw(1);
        Check.due("25: the third has none any more", x.learn(6), 3);
        Check.due("25: three runs", x.total(3), 3);
        Check.due("25: the last one", x.count(3, 30), 1);
        Check.due("25: not run 15", x.count(3, 15), 0);
    }
}
