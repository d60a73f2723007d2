import java.util.NoSuchElementException;

/** The sentences of promises 6 to 14 that name a boundary, each on both sides of it. */
public final class TonguesEdgesTest {
    private static final int[] FAR = {Integer.MIN_VALUE, -36, -2, -1, 1000, Integer.MAX_VALUE};
    private static final String SIXTEEN_GAPS = "                ";

    private interface OfText {
        int ask(Tonguetell x, int text);
    }

    private interface OfRun {
        int ask(Tonguetell x, int tongue, int run);
    }

    public static void main(String[] args) {
        fiveTongues();
        newTongueHasNoRuns();
        howManyTongues();
        teachNoSuchTongue();
        teachEmptyText();
        teachThirtyTexts();
        howManyRunsItHad();
        noSuchTextOrWithdrawn("9", Tonguetell::withdraw, 3);
        noSuchTextOrWithdrawn("10", Tonguetell::tongueOf, 1);
        totalNoSuchTongue();
        notWithdrawn();
        noSuchTongueOrRun("12", Tonguetell::count, 0);
        noSuchTongueOrRun("13", Tonguetell::cost, 6);
        noSuchTongueOrRun("14", Tonguetell::rank, Tonguetell.NONE);
        noRankIfCountIsZero();
        Check.end();
    }

    private static void fiveTongues() {
        Check.sentence("6: Throws IllegalStateException if there are 5");
        for (int there = 0; there < 5; there++) {
            int number = there;
            Check.answered("tongue " + number, number, x -> Check.addTongues(x, number), x -> x.addTongue());
        }
        Check.refused("a sixth", IllegalStateException.class, x -> Check.addTongues(x, 5), x -> x.addTongue());
        Check.answered("the fifth, one of four learned", 4, x -> learnedAnd(x, 3), x -> x.addTongue());
        Check.refused("a sixth, one of five learned", IllegalStateException.class,
            x -> learnedAnd(x, 4), x -> x.addTongue());
        Check.refused("a sixth, all texts withdrawn", IllegalStateException.class, x -> {
            learnedAnd(x, 4);
            x.withdraw(0);
        }, x -> x.addTongue());
    }

    private static void learnedAnd(Tonguetell x, int added) {
        Check.spell(x, "abc");
        x.learn(0);
        Check.addTongues(x, added);
    }

    private static void newTongueHasNoRuns() {
        Check.sentence("6: Adds a tongue without runs.");
        for (int there = 0; there < 5; there += 4) {
            int number = there;
            Check.answered("total of " + number, 0, x -> Check.addTongues(x, number + 1), x -> x.total(number));
            Check.answered("run 0 of " + number, 0, x -> Check.addTongues(x, number + 1), x -> x.count(number, 0));
            Check.answered("run 35 of " + number, 0, x -> Check.addTongues(x, number + 1), x -> x.count(number, 35));
        }
    }

    private static void howManyTongues() {
        Check.sentence("7: Returns how many tongues there are.");
        Check.answered("none", 0, x -> { }, x -> x.tongues());
        Check.answered("five", 5, x -> Check.addTongues(x, 5), x -> x.tongues());
        Check.answered("five, one of them learned", 5, x -> learnedAnd(x, 4), x -> x.tongues());
    }

    private static void teachNoSuchTongue() {
        Check.sentence("8: Throws IndexOutOfBoundsException if there is no such tongue");
        Check.refused("no tongues", IndexOutOfBoundsException.class,
            x -> Check.tonguesAndText(x, 0, "abc"), x -> x.teach(0));
        Check.answered("the only one", 0, x -> Check.tonguesAndText(x, 1, "abc"), x -> x.teach(0));
        Check.refused("behind the only one", IndexOutOfBoundsException.class,
            x -> Check.tonguesAndText(x, 1, "abc"), x -> x.teach(1));
        Check.answered("the fifth", 0, x -> Check.tonguesAndText(x, 5, "abc"), x -> x.teach(4));
        Check.refused("behind the fifth", IndexOutOfBoundsException.class,
            x -> Check.tonguesAndText(x, 5, "abc"), x -> x.teach(5));
        for (int far : FAR) {
            Check.refused("tongue " + far, IndexOutOfBoundsException.class,
                x -> Check.tonguesAndText(x, 5, "abc"), x -> x.teach(far));
            Check.refused("tongue " + far + ", an empty text", IndexOutOfBoundsException.class,
                x -> Check.addTongues(x, 5), x -> x.teach(far));
            Check.refused("tongue " + far + ", 30 texts", IndexOutOfBoundsException.class,
                x -> Check.texts(x, 30), x -> x.teach(far));
        }
    }

    private static void teachEmptyText() {
        Check.sentence("8: Throws IllegalStateException if the spelled text is empty");
        Check.refused("no letter", IllegalStateException.class, x -> x.addTongue(), x -> x.teach(0));
        Check.answered("one gap", 0, x -> {
            x.addTongue();
            x.spell(' ');
        }, x -> x.teach(0));
        Check.refused("no letter behind a text", IllegalStateException.class, x -> {
            Check.texts(x, 1);
            x.clearSpelled();
        }, x -> x.teach(0));
        Check.refused("no letter and 30 texts", IllegalStateException.class, x -> {
            Check.texts(x, 30);
            x.clearSpelled();
        }, x -> x.teach(0));
    }

    private static void teachThirtyTexts() {
        Check.sentence("8: or 30 texts are taught and not withdrawn");
        Check.answered("text 30", 29, x -> Check.texts(x, 29), x -> x.teach(0));
        Check.refused("text 31", IllegalStateException.class, x -> Check.texts(x, 30), x -> x.teach(0));
        for (int gone : new int[] {0, 7, 29}) {
            Check.answered("text 31 instead of " + gone, 30, x -> {
                Check.texts(x, 30);
                x.withdraw(gone);
            }, x -> x.teach(1));
            Check.refused("text 32 instead of " + gone, IllegalStateException.class, x -> {
                Check.texts(x, 30);
                x.withdraw(gone);
                x.teach(1);
            }, x -> x.teach(1));
        }
        Tonguetell x = new Tonguetell();
        Check.texts(x, 30);
        for (int text = 30; text < 90; text++) {
            x.withdraw(text - 30);
            Check.due("in the place of the oldest", x.teach(0), text);
        }
        Check.thrown("full all the while", IllegalStateException.class, x, y -> y.teach(0));
        Check.due("runs of 30 texts", x.total(0), 120);
        Check.due("the other tongue has none any more", x.total(1), 0);
    }

    private static void howManyRunsItHad() {
        Check.sentence("9: Returns how many runs it had.");
        Check.answered("one letter", 2, x -> {
            x.addTongue();
            Check.teach(x, 0, "e");
        }, x -> x.withdraw(0));
        Check.answered("sixteen letters", 17, x -> {
            x.addTongue();
            Check.teach(x, 0, SIXTEEN_GAPS);
        }, x -> x.withdraw(0));
        Check.answered("another text spelled since", 17, x -> {
            x.addTongue();
            Check.teach(x, 0, SIXTEEN_GAPS);
            Check.spell(x, "a");
        }, x -> x.withdraw(0));
        Check.answered("three runs, learned", 3, x -> {
            Check.spell(x, "ab");
            x.learn(0);
        }, x -> x.withdraw(0));
    }

    private static void twoTexts(Tonguetell x) {
        Check.addTongues(x, 2);
        Check.teach(x, 0, "ab");
        Check.teach(x, 1, "cd");
    }

    /** The last of two texts, which has 3 runs and tongue 1, gives the answer; those behind and ahead are refused. */
    private static void noSuchTextOrWithdrawn(String promise, OfText call, int ofLast) {
        Check.sentence(promise + ": Throws NoSuchElementException if no such text was taught, or it was withdrawn");
        textRefused("nothing taught", x -> Check.addTongues(x, 5), call, 0);
        Check.answered("the last", ofLast, TonguesEdgesTest::twoTexts, x -> call.ask(x, 1));
        textRefused("behind the last", TonguesEdgesTest::twoTexts, call, 2);
        for (int far : FAR) {
            textRefused("far off", TonguesEdgesTest::twoTexts, call, far);
        }
        Check.answered("the last with the one ahead withdrawn", ofLast, x -> {
            twoTexts(x);
            x.withdraw(0);
        }, x -> call.ask(x, 1));
        textRefused("withdrawn", x -> {
            twoTexts(x);
            x.withdraw(0);
        }, call, 0);
        Check.Script inItsPlace = x -> {
            twoTexts(x);
            x.withdraw(0);
            x.teach(1);
        };
        textRefused("withdrawn, another in its place", inItsPlace, call, 0);
        Check.answered("the other in its place", ofLast, inItsPlace, x -> call.ask(x, 2));
        textRefused("behind the other", inItsPlace, call, 3);
        textRefused("all withdrawn, a free place's number", x -> {
            twoTexts(x);
            x.withdraw(0);
            x.withdraw(1);
        }, call, -1);
        textRefused("behind 30", x -> Check.texts(x, 30), call, 30);
    }

    private static void textRefused(String what, Check.Script before, OfText call, int text) {
        Check.refused(what + ", text " + text, NoSuchElementException.class, before, x -> call.ask(x, text));
    }

    private static void totalNoSuchTongue() {
        Check.sentence("11: Throws IndexOutOfBoundsException if there is no such tongue");
        Check.refused("no tongues", IndexOutOfBoundsException.class, x -> { }, x -> x.total(0));
        Check.answered("the first of two", 3, TonguesEdgesTest::twoTexts, x -> x.total(0));
        Check.answered("the second of two", 3, TonguesEdgesTest::twoTexts, x -> x.total(1));
        Check.refused("behind two", IndexOutOfBoundsException.class, TonguesEdgesTest::twoTexts, x -> x.total(2));
        Check.answered("the fifth", 0, x -> Check.addTongues(x, 5), x -> x.total(4));
        Check.refused("behind the fifth", IndexOutOfBoundsException.class, x -> Check.addTongues(x, 5), x -> x.total(5));
        for (int far : FAR) {
            Check.refused("tongue " + far, IndexOutOfBoundsException.class, x -> Check.addTongues(x, 5), x -> x.total(far));
        }
    }

    private static void notWithdrawn() {
        Check.sentence("11: Returns how many runs were taught to a tongue and not withdrawn.");
        Tonguetell x = new Tonguetell();
        x.addTongue();
        Check.due("nothing taught", x.total(0), 0);
        Check.teach(x, 0, SIXTEEN_GAPS);
        for (int text = 1; text < 30; text++) {
            x.teach(0);
        }
        Check.due("the most", x.total(0), 510);
        for (int text = 0; text < 29; text++) {
            x.withdraw(text);
        }
        Check.due("all but one withdrawn", x.total(0), 17);
        x.withdraw(29);
        Check.due("all withdrawn", x.total(0), 0);
    }

    /** Every run of a tongue without runs gives the same answer. */
    private static void noSuchTongueOrRun(String promise, OfRun call, int ofNever) {
        Check.sentence(promise + ": Throws IndexOutOfBoundsException if there is no such tongue or run");
        runRefused("no tongues", x -> { }, call, 0, 0);
        for (int tongues : new int[] {1, 5}) {
            Check.Script before = x -> Check.addTongues(x, tongues);
            int last = tongues - 1;
            Check.answered("the first run in the last of " + tongues, ofNever, before, x -> call.ask(x, last, 0));
            Check.answered("the last run in the last of " + tongues, ofNever, before, x -> call.ask(x, last, 35));
            Check.answered("the last run in the first of " + tongues, ofNever, before, x -> call.ask(x, 0, 35));
            runRefused("behind the last tongue of " + tongues, before, call, tongues, 0);
            runRefused("behind the last run", before, call, last, 36);
            runRefused("behind both", before, call, tongues, 36);
            for (int far : FAR) {
                runRefused("far off", before, call, far, 0);
                runRefused("far off", before, call, last, far);
            }
        }
    }

    private static void runRefused(String what, Check.Script before, OfRun call, int tongue, int run) {
        Check.refused(what + ", run " + run + " in " + tongue, IndexOutOfBoundsException.class,
            before, x -> call.ask(x, tongue, run));
    }

    private static void noRankIfCountIsZero() {
        Check.sentence("14: Returns the rank of a run in a tongue; NONE if its count is 0.");
        Check.answered("a count of 0", Tonguetell.NONE, TonguesEdgesTest::twoTexts, x -> x.rank(0, 7));
        Check.answered("a count of 1", 0, TonguesEdgesTest::twoTexts, x -> x.rank(0, 1));
        Check.answered("a count of 1 in another tongue", Tonguetell.NONE, TonguesEdgesTest::twoTexts, x -> x.rank(1, 1));
        Check.answered("a count of 1, withdrawn", Tonguetell.NONE, x -> {
            twoTexts(x);
            x.withdraw(0);
        }, x -> x.rank(0, 1));
        Check.answered("a count of 2, one of them withdrawn", 0, x -> {
            twoTexts(x);
            Check.teach(x, 0, "ab");
            x.withdraw(0);
        }, x -> x.rank(0, 1));
    }
}
