import java.util.NoSuchElementException;

/** The sentences of promise 25 that name a boundary, each on both sides of it. */
public final class LearnEdgesTest {
    private static final int NONE = Tonguetell.NONE;
    private static final int[] OUT_OF_RANGE = {Integer.MIN_VALUE, -20, -1, 21, 256, 1000, Integer.MAX_VALUE};
    private static final int[] IN_RANGE = {0, 1, 6, 7, 20};

    public static void main(String[] args) {
        leastOutOfRange();
        allRunsIfThereAreNoTongues();
        atLeastThreeRuns();
        atLeastACost();
        inEachTongueThereIs();
        theLongest();
        ofSeveralTheFirst();
        taughtAsAText();
        noneLearned();
        fiveTongues();
        thirtyTexts();
        Check.end();
    }

    /** Runs 1, 7 and 6 cost 4 in tongue 0, all others 6. */
    private static void taughtAaTwice(Tonguetell x, String text) {
        x.addTongue();
        Check.teach(x, 0, "aa");
        x.teach(0);
        Check.spell(x, text);
    }

    private static void leastOutOfRange() {
        Check.sentence("25: 0 to 20; throws IllegalArgumentException if least is out of range");
        Check.answered("0 is taken", 1, x -> Check.tonguesAndText(x, 1, "abc"), x -> x.learn(0));
        Check.answered("20 is taken", 0, x -> Check.tonguesAndText(x, 0, "abc"), x -> x.learn(20));
        Check.answered("20 is taken, no run costs so much", NONE, x -> Check.tonguesAndText(x, 1, "abc"), x -> x.learn(20));
        for (int least : OUT_OF_RANGE) {
            Check.refused("least " + least, IllegalArgumentException.class,
                x -> Check.tonguesAndText(x, 1, "abc"), x -> x.learn(least));
            Check.refused("least " + least + " without tongues", IllegalArgumentException.class,
                x -> Check.spell(x, "abc"), x -> x.learn(least));
            Check.refused("least " + least + " of an empty text", IllegalArgumentException.class,
                x -> x.addTongue(), x -> x.learn(least));
            Check.refused("least " + least + " with 5 tongues", IllegalArgumentException.class,
                x -> Check.tonguesAndText(x, 5, "abc"), x -> x.learn(least));
            Check.refused("least " + least + " with 30 texts", IllegalArgumentException.class,
                x -> Check.texts(x, 30), x -> x.learn(least));
        }
    }

    private static void allRunsIfThereAreNoTongues() {
        Check.sentence("25: at least a cost in each tongue there is (all runs, if there are none)");
        for (int least : IN_RANGE) {
            Check.answered("no tongues", 17, x -> {
                Check.spell(x, "abcdeabcdeabcdea");
                x.learn(least);
            }, x -> x.total(0));
        }
        Check.answered("one tongue", NONE, x -> Check.tonguesAndText(x, 1, "abcdeabcdeabcdea"), x -> x.learn(7));
    }

    private static void atLeastThreeRuns() {
        Check.sentence("25: If it has at least 3 runs, there is a new tongue");
        Check.answered("no run", NONE, x -> { }, x -> x.learn(0));
        Check.answered("two runs", NONE, x -> Check.spell(x, "a"), x -> x.learn(0));
        Check.answered("three runs", 0, x -> Check.spell(x, "ab"), x -> x.learn(0));
        // 2 13 | 7 | 8 13 | 7 | 8 12
        Check.answered("stretches of two runs", NONE, x -> taughtAaTwice(x, "baabaab"), x -> x.learn(6));
        // 2 13 | 7 | 8 13 | 7 | 8 15 18
        Check.answered("a stretch of three runs", 1, x -> taughtAaTwice(x, "baabaabc"), x -> x.learn(6));
    }

    /** All other runs cost 10 in tongue 0: 29 texts of 17 gaps have 493 runs, 36 more are above 512. */
    private static void manyGaps(Tonguetell x) {
        x.addTongue();
        Check.spell(x, "                ");
        for (int text = 0; text < 29; text++) {
            x.teach(0);
        }
        Check.spell(x, "abc");
    }

    private static void atLeastACost() {
        Check.sentence("25: each of which has at least a cost in each tongue there is");
        Check.answered("6 is at least 6", 1, x -> Check.tonguesAndText(x, 1, "abc"), x -> x.learn(6));
        Check.answered("6 is not at least 7", NONE, x -> Check.tonguesAndText(x, 1, "abc"), x -> x.learn(7));
        Check.answered("10 is at least 10", 1, LearnEdgesTest::manyGaps, x -> x.learn(10));
        Check.answered("10 is not at least 11", NONE, LearnEdgesTest::manyGaps, x -> x.learn(11));
        Check.answered("4 is at least 4", 1, x -> taughtAaTwice(x, "aa"), x -> x.learn(4));
        Check.answered("4 is not at least 5", NONE, x -> taughtAaTwice(x, "aa"), x -> x.learn(5));
    }

    /** In one tongue of the two or five runs 1, 8, 15 and 18 cost 5. */
    private static void taughtAbc(Tonguetell x, int tongues, int tongue) {
        Check.addTongues(x, tongues);
        Check.teach(x, tongue, "abc");
    }

    private static void inEachTongueThereIs() {
        Check.sentence("25: in each tongue there is");
        for (int tongue = 0; tongue < 4; tongue++) {
            int taught = tongue;
            Check.answered("tongue " + taught + " of 4 knows them", NONE, x -> taughtAbc(x, 4, taught), x -> x.learn(6));
            Check.answered("tongue " + taught + " of 4 knows them no more", 4, x -> {
                taughtAbc(x, 4, taught);
                x.withdraw(0);
            }, x -> x.learn(6));
        }
        // 8 is known to tongue 0 alone and 15 to tongue 1 alone: none of three runs is left.
        Check.answered("each run is known to another one", NONE, x -> {
            Check.addTongues(x, 2);
            Check.teach(x, 0, "dabd");
            Check.teach(x, 1, "dbcd");
            Check.spell(x, "abc");
        }, x -> x.learn(6));
    }

    private static void learnedDue(String what, String text, int... runs) {
        Tonguetell x = new Tonguetell();
        taughtAaTwice(x, text);
        Check.due(what + ", the tongue", x.learn(6), 1);
        Check.due(what + ", how many runs", x.total(1), runs.length);
        for (int run : runs) {
            Check.due(what + ", run " + run, x.count(1, run), 1);
        }
    }

    private static void theLongest() {
        Check.sentence("25: the longest one");
        learnedDue("all of them", "bcd", 2, 15, 22, 24);
        // 2 15 19 | 7 | 10 29 31 | 7 | 9 21 22 24
        learnedDue("the last one is longer", "bcaadeaaccd", 9, 21, 22, 24);
        // 2 15 22 25 | 7 | 10 29 31 | 7 | 9 18
        learnedDue("the first one is longer", "bcdaadeaac", 2, 15, 22, 25);
        // 2 13 | 7 | 9 22 27 20 13 | 7 | 8 15 18
        learnedDue("the one in between is longer", "baacdcbaabc", 9, 22, 27, 20, 13);
    }

    private static void ofSeveralTheFirst() {
        Check.sentence("25: of several the first one");
        // 2 15 19 | 7 | 10 29 31 | 7 | 9 21 18
        learnedDue("three of three runs", "bcaadeaacc", 2, 15, 19);
        // 2 13 | 7 | 10 29 31 | 7 | 9 21 18
        learnedDue("two of three runs behind one of two", "baadeaacc", 10, 29, 31);
    }

    private static void taughtAsAText() {
        Check.sentence("25: there is a new tongue, and these runs are taught to it as a text");
        Tonguetell x = new Tonguetell();
        taughtAaTwice(x, "aabcaa");
        // 1 7 | 8 15 19 | 7 6
        Check.due("the number of the new tongue", x.learn(6), 1);
        Check.due("the text behind the two", x.tongueOf(2), 1);
        Check.due("the spelled text stays", x.clearSpelled(), 6);
        Check.due("the runs that it had", x.withdraw(2), 3);
        Check.due("no runs of it are left", x.total(1), 0);
        Check.due("the tongue is left", x.tongues(), 2);
        Check.due("the other tongue", x.total(0), 6);
        Check.due("the next text", Check.teach(x, 1, "a"), 3);
        Check.thrown("withdrawn once alone", NoSuchElementException.class, x, y -> y.withdraw(2));
    }

    private static void noneLearned() {
        Check.sentence("25: NONE if no stretch is long enough");
        for (String text : new String[] {"", "a", "baabaab"}) {
            Tonguetell asked = new Tonguetell();
            taughtAaTwice(asked, text);
            Check.due("'" + text + "'", asked.learn(6), NONE);
            Tonguetell notAsked = new Tonguetell();
            taughtAaTwice(notAsked, text);
            Check.sameState("nothing is changed by '" + text + "'", asked, notAsked);
        }
    }

    private static void fiveTongues() {
        Check.sentence("25: Throws IllegalStateException if there are 5 tongues");
        Check.answered("4 tongues", 4, x -> Check.tonguesAndText(x, 4, "abc"), x -> x.learn(6));
        Check.answered("4 tongues, one learned", 4, x -> {
            Check.spell(x, "abc");
            x.learn(0);
            Check.addTongues(x, 3);
        }, x -> x.learn(0));
        for (int least : IN_RANGE) {
            for (String text : new String[] {"", "a", "ab", "abcdeabcdeabcdea"}) {
                // Also where no stretch would be long enough: the sentence names no stretch.
                Check.refused("5 tongues, '" + text + "', least " + least, IllegalStateException.class,
                    x -> Check.tonguesAndText(x, 5, text), x -> x.learn(least));
            }
        }
        Check.answered("4 tongues, no stretch long enough", NONE, x -> Check.tonguesAndText(x, 4, "a"), x -> x.learn(0));
    }

    private static void thirtyTexts() {
        Check.sentence("25: or 30 texts are taught and not withdrawn");
        Check.answered("29 texts", 2, x -> Check.texts(x, 29), x -> x.learn(0));
        Check.answered("the learned one is text 30", 2, x -> {
            Check.texts(x, 29);
            x.learn(0);
        }, x -> x.tongueOf(29));
        Check.refused("the learned one was text 30", IllegalStateException.class, x -> {
            Check.texts(x, 29);
            x.learn(0);
        }, x -> x.learn(0));
        for (int least : IN_RANGE) {
            Check.refused("30 texts, least " + least, IllegalStateException.class,
                x -> Check.texts(x, 30), x -> x.learn(least));
            Check.refused("30 texts, an empty text, least " + least, IllegalStateException.class, x -> {
                Check.texts(x, 30);
                x.clearSpelled();
            }, x -> x.learn(least));
        }
        Check.answered("30 texts, one withdrawn", 2, x -> {
            Check.texts(x, 30);
            x.withdraw(29);
        }, x -> x.learn(0));
        Check.answered("29 texts, no stretch long enough", NONE, x -> Check.texts(x, 29), x -> x.learn(20));
    }
}
