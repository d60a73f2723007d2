import java.util.NoSuchElementException;

/** Promises 6 to 14: addTongue, tongues, teach, withdraw, tongueOf, total, count, cost, rank. */
public final class TonguesTest {
    private static final int[] FAR = {Integer.MIN_VALUE, -36, -2, -1, 1000, Integer.MAX_VALUE};
    private static final String SIXTEEN_GAPS = "                ";

    public static void main(String[] args) {
        addTongue();
        teach();
        teachRefusals();
        teachThirty();
        withdraw();
        withdrawRefusals();
        tongueOf();
        totalAndCount();
        cost();
        costAtItsEdges();
        rank();
        refusalsOfRunsInTongues();
        Check.end();
    }

    private static void addTongue() {
        Tonguetell x = new Tonguetell();
        for (int number = 0; number < 5; number++) {
            Check.due("7: tongues", x.tongues(), number);
            Check.due("6: addTongue", x.addTongue(), number);
            Check.due("6: total of a new tongue", x.total(number), 0);
            for (int run = 0; run < 36; run += 5) {
                Check.due("6: count in a new tongue", x.count(number, run), 0);
            }
        }
        Check.due("7: tongues", x.tongues(), 5);
        Check.refused("6: a sixth tongue", IllegalStateException.class, y -> Check.addTongues(y, 5), y -> y.addTongue());
        Check.refused("6: a sixth tongue, one learned", IllegalStateException.class, y -> {
            Check.spell(y, "abc");
            y.learn(0);
            Check.addTongues(y, 4);
        }, y -> y.addTongue());
    }

    private static void teach() {
        Tonguetell x = new Tonguetell();
        Check.addTongues(x, 2);
        Check.due("8: first text", Check.teach(x, 1, "ab"), 0);
        Check.due("8: it stays spelled", x.runs(), 3);
        Check.due("8: it stays spelled", x.runAt(1), 8);
        Check.due("8: the same text once more", x.teach(1), 1);
        Check.due("8: to another tongue", x.teach(0), 2);
        Check.due("8: total of 1", x.total(1), 6);
        Check.due("8: total of 0", x.total(0), 3);
        Check.due("8: count in 1", x.count(1, 8), 2);
        Check.due("8: a text of one letter", Check.teach(x, 0, " "), 3);
        Check.due("8: count of two gaps", x.count(0, 0), 2);
        x.spell('e');
        Check.due("8: a taught text stays as it was", x.count(0, 5), 0);
        Check.due("8: a taught text stays as it was", x.withdraw(3), 2);
    }

    private static void teachRefusals() {
        Check.refused("8: teach without tongues", IndexOutOfBoundsException.class, x -> Check.spell(x, "a"), x -> x.teach(0));
        Check.refused("8: teach nothing without tongues", IndexOutOfBoundsException.class, x -> { }, x -> x.teach(0));
        for (int far : FAR) {
            Check.refused("8: teach to " + far, IndexOutOfBoundsException.class, x -> {
                Check.addTongues(x, 5);
                Check.spell(x, "a");
            }, x -> x.teach(far));
        }
        Check.refused("8: teach to the tongue behind the last", IndexOutOfBoundsException.class, x -> {
            Check.addTongues(x, 3);
            Check.spell(x, "a");
        }, x -> x.teach(3));
        Check.refused("8: teach nothing", IllegalStateException.class, x -> Check.addTongues(x, 1), x -> x.teach(0));
        Check.refused("8: teach nothing behind a text", IllegalStateException.class, x -> {
            Check.addTongues(x, 1);
            Check.teach(x, 0, "abc");
            x.clearSpelled();
        }, x -> x.teach(0));
        Check.refused("8: teach nothing to no tongue", IndexOutOfBoundsException.class, x -> Check.addTongues(x, 1), x -> x.teach(1));
    }

    private static void thirtyTexts(Tonguetell x) {
        Check.addTongues(x, 2);
        Check.spell(x, "abc");
        for (int text = 0; text < 30; text++) {
            Check.due("8: text", x.teach(text % 2), text);
        }
    }

    private static void teachThirty() {
        Check.refused("8: text 31", IllegalStateException.class, TonguesTest::thirtyTexts, x -> x.teach(0));
        Check.refused("8: text 31 to no tongue", IndexOutOfBoundsException.class, TonguesTest::thirtyTexts, x -> x.teach(2));
        Tonguetell x = new Tonguetell();
        thirtyTexts(x);
        Check.due("9: withdraw of 30", x.withdraw(7), 4);
        Check.due("8: number behind a withdrawn text", x.teach(1), 30);
        Check.due("8: total", x.total(1), 60);
        Check.holds("8: a withdrawn number stays withdrawn", !Check.isTaught(x, 7));
        Check.thrown("8: full again", IllegalStateException.class, x, y -> y.teach(0));
        for (int text = 31; text < 70; text++) {
            Check.due("9: withdraw", x.withdraw(text - 1), 4);
            Check.due("8: number behind many withdrawn texts", x.teach(0), text);
        }
        Check.due("10: tongue of the last", x.tongueOf(69), 0);
    }

    private static void withdraw() {
        Tonguetell x = new Tonguetell();
        Check.addTongues(x, 2);
        Check.teach(x, 0, "aab");
        Check.teach(x, 0, "b");
        Check.teach(x, 1, SIXTEEN_GAPS);
        Check.due("9: withdraw of 3 letters", x.withdraw(0), 4);
        Check.due("9: total behind it", x.total(0), 2);
        Check.due("9: count behind it", x.count(0, 7), 0);
        Check.due("9: count behind it", x.count(0, 12), 1);
        Check.due("9: rank behind it", x.rank(0, 2), 0);
        Check.due("9: the other tongue", x.total(1), 17);
        Check.due("9: withdraw of 16 letters", x.withdraw(2), 17);
        Check.due("9: total behind it", x.total(1), 0);
        Check.due("9: cost behind it", x.cost(1, 0), 6);
        Check.due("9: rank behind it", x.rank(1, 0), Tonguetell.NONE);
        Check.due("9: the spelled text stays", x.runs(), 17);
        Check.due("9: withdraw of one letter", x.withdraw(1), 2);
        Check.due("9: no tongue is lost", x.tongues(), 2);
        Check.due("9: the next number", x.teach(0), 3);
    }

    private static void withdrawRefusals() {
        NoSuchTexts.refused("9: withdraw", Tonguetell::withdraw);
    }

    private static void tongueOf() {
        Tonguetell x = new Tonguetell();
        Check.addTongues(x, 5);
        for (int text = 0; text < 10; text++) {
            Check.teach(x, (text * 3) % 5, "ab");
        }
        x.withdraw(4);
        for (int text = 0; text < 10; text++) {
            if (text != 4) {
                Check.due("10: tongueOf", x.tongueOf(text), (text * 3) % 5);
            }
        }
        NoSuchTexts.refused("10: tongueOf", Tonguetell::tongueOf);
    }

    /** What withdraw and tongueOf refuse alike. */
    private static final class NoSuchTexts {
        interface OfText {
            int ask(Tonguetell x, int text);
        }

        static void refused(String what, OfText call) {
            Check.refused(what + " of nothing", NoSuchElementException.class, x -> { }, x -> call.ask(x, 0));
            for (int far : FAR) {
                Check.refused(what + " of " + far, NoSuchElementException.class, NoSuchTexts::twoTexts, x -> call.ask(x, far));
            }
            Check.refused(what + " of the next", NoSuchElementException.class, NoSuchTexts::twoTexts, x -> call.ask(x, 2));
            Check.refused(what + " of a withdrawn one", NoSuchElementException.class, x -> {
                twoTexts(x);
                x.withdraw(0);
            }, x -> call.ask(x, 0));
            Check.refused(what + " of a withdrawn one, another in its place", NoSuchElementException.class, x -> {
                twoTexts(x);
                x.withdraw(1);
                x.teach(0);
            }, x -> call.ask(x, 1));
        }

        private static void twoTexts(Tonguetell x) {
            Check.addTongues(x, 2);
            Check.teach(x, 0, "ab");
            Check.teach(x, 1, "cde");
        }
    }

    private static void totalAndCount() {
        Tonguetell x = new Tonguetell();
        Check.addTongues(x, 3);
        Check.teach(x, 0, "aaa a");
        Check.teach(x, 2, "ee");
        Check.due("11: total", x.total(0), 6);
        Check.due("11: total of none", x.total(1), 0);
        Check.due("11: total", x.total(2), 3);
        int[] runsOfAaa = {1, 7, 7, 6, 1, 6};
        int[] want = new int[36];
        for (int run : runsOfAaa) {
            want[run]++;
        }
        for (int run = 0; run < 36; run++) {
            Check.due("12: count of " + run, x.count(0, run), want[run]);
        }
        Check.due("12: count of the last run", x.count(2, 35), 1);
        for (int text = 2; text < 30; text++) {
            Check.teach(x, 0, "aa");
        }
        Check.due("11: total of many", x.total(0), 6 + 28 * 3);
        Check.due("12: count of many", x.count(0, 7), 2 + 28);
    }

    private static void cost() {
        Tonguetell x = new Tonguetell();
        Check.addTongues(x, 2);
        for (int run = 0; run < 36; run++) {
            Check.due("13: cost in a tongue without runs", x.cost(1, run), 6);
        }
        Check.teach(x, 0, "aaaa");
        Check.due("13: a count of 0 of 5", x.cost(0, 0), 6);
        Check.due("13: a count of 1 of 5", x.cost(0, 1), 5);
        Check.due("13: a count of 3 of 5", x.cost(0, 7), 4);
        Check.due("13: the other tongue", x.cost(1, 7), 6);
    }

    private static void costAtItsEdges() {
        Tonguetell x = new Tonguetell();
        Check.addTongues(x, 1);
        Check.teach(x, 0, "bbbbbbbbbbbbb");
        Check.teach(x, 0, "abbbbbbbbbbbb");
        Check.due("13: total", x.total(0), 28);
        Check.due("13: 1 * 64 is 64", x.cost(0, 35), 6);
        Check.due("13: 2 * 32 is 64", x.cost(0, 1), 5);
        Check.due("13: 24 * 4 is above 64", x.cost(0, 14), 2);
        Check.teach(x, 0, "c");
        Check.due("13: 1 * 64 is below 66", x.cost(0, 35), 7);
        Check.due("13: 2 * 32 is below 66", x.cost(0, 1), 6);

        Tonguetell full = new Tonguetell();
        Check.addTongues(full, 1);
        Check.spell(full, SIXTEEN_GAPS);
        for (int text = 0; text < 30; text++) {
            full.teach(0);
        }
        Check.due("13: total of all", full.total(0), 510);
        Check.due("13: a count of 510 of 510", full.cost(0, 0), 1);
        Check.due("13: a count of 0 of 510", full.cost(0, 1), 10);
        Check.due("12: a count of 510", full.count(0, 0), 510);
        full.withdraw(0);
        full.withdraw(29);
        Check.due("13: a count of 0 of 476", full.cost(0, 1), 9);
    }

    private static void rank() {
        Tonguetell x = new Tonguetell();
        Check.addTongues(x, 2);
        Check.teach(x, 1, "ebb");
        // runs 5, 32, 14, 12
        Check.due("14: same counts by number", x.rank(1, 5), 0);
        Check.due("14: same counts by number", x.rank(1, 12), 1);
        Check.due("14: same counts by number", x.rank(1, 14), 2);
        Check.due("14: same counts by number", x.rank(1, 32), 3);
        Check.due("14: no count", x.rank(1, 13), Tonguetell.NONE);
        Check.due("14: another tongue", x.rank(0, 5), Tonguetell.NONE);
        Check.teach(x, 1, "ee");
        // and 5, 35, 30
        Check.due("14: greater counts first", x.rank(1, 5), 0);
        Check.teach(x, 1, "eeb");
        // and 5, 35, 32, 12
        Check.due("14: 5 three times", x.rank(1, 5), 0);
        Check.due("14: 12 twice", x.rank(1, 12), 1);
        Check.due("14: 32 twice", x.rank(1, 32), 2);
        Check.due("14: 35 twice", x.rank(1, 35), 3);
        Check.due("14: 14 once", x.rank(1, 14), 4);
        Check.due("14: 30 once", x.rank(1, 30), 5);
        x.withdraw(0);
        Check.due("14: behind a withdrawn text", x.rank(1, 35), 1);
        Check.due("14: behind a withdrawn text", x.rank(1, 14), Tonguetell.NONE);
    }

    private interface OfRun {
        int ask(Tonguetell x, int tongue, int run);
    }

    private static void refusalsOfRunsInTongues() {
        for (int tongue : new int[] {Integer.MIN_VALUE, -1, 2, 5, Integer.MAX_VALUE}) {
            Check.refused("11: total of " + tongue, IndexOutOfBoundsException.class,
                x -> Check.addTongues(x, 2), x -> x.total(tongue));
        }
        Check.refused("11: total without tongues", IndexOutOfBoundsException.class, x -> { }, x -> x.total(0));
        runRefused("12: count", Tonguetell::count);
        runRefused("13: cost", Tonguetell::cost);
        runRefused("14: rank", Tonguetell::rank);
    }

    private static void runRefused(String what, OfRun call) {
        Check.refused(what + " without tongues", IndexOutOfBoundsException.class, x -> { }, x -> call.ask(x, 0, 0));
        for (int tongue : new int[] {Integer.MIN_VALUE, -1, 2, 5, Integer.MAX_VALUE}) {
            Check.refused(what + " in " + tongue, IndexOutOfBoundsException.class,
                x -> Check.addTongues(x, 2), x -> call.ask(x, tongue, 0));
        }
        for (int run : new int[] {Integer.MIN_VALUE, -1, 36, 37, Integer.MAX_VALUE}) {
            Check.refused(what + " of " + run, IndexOutOfBoundsException.class,
                x -> Check.addTongues(x, 2), x -> call.ask(x, 1, run));
        }
    }
}
