/** Promises 6 to 14: addTongue, tongues, teach, withdraw, tongueOf, total, count, cost, rank. */
public final class TonguesTest {
    private static final String SIXTEEN_GAPS = "                ";

    public static void main(String[] args) {
        addTongue();
        teach();
        withdraw();
        tongueOf();
        totalAndCount();
        cost();
        rank();
        Check.end();
    }

    private static void addTongue() {
        Tonguetell x = new Tonguetell();
        for (int number = 0; number < 5; number++) {
            Check.due("7: tongues", x.tongues(), number);
            Check.due("6: addTongue", x.addTongue(), number);
            Check.due("6: total of a new tongue", x.total(number), 0);
            for (int run = 0; run < 36; run += 5) {
                Check.due("6: count in a new tongue", x.count(number, run), 0);
            }
        }
        Check.due("7: tongues", x.tongues(), 5);
    }

    private static void teach() {
        Tonguetell x = new Tonguetell();
        Check.addTongues(x, 2);
        Check.due("8: first text", Check.teach(x, 1, "ab"), 0);
        Check.due("8: it stays spelled", x.runs(), 3);
        Check.due("8: it stays spelled", x.runAt(1), 8);
        Check.due("8: the same text once more", x.teach(1), 1);
        Check.due("8: to another tongue", x.teach(0), 2);
        Check.due("8: total of 1", x.total(1), 6);
        Check.due("8: total of 0", x.total(0), 3);
        Check.due("8: count in 1", x.count(1, 8), 2);
        Check.due("8: a text of one letter", Check.teach(x, 0, " "), 3);
        Check.due("8: count of two gaps", x.count(0, 0), 2);
        x.spell('e');
        Check.due("8: a taught text stays as it was", x.count(0, 5), 0);
        Check.due("8: a taught text stays as it was", x.withdraw(3), 2);
    }

    private static void withdraw() {
        Tonguetell x = new Tonguetell();
        Check.addTongues(x, 2);
        Check.teach(x, 0, "aab");
        Check.teach(x, 0, "b");
        Check.teach(x, 1, SIXTEEN_GAPS);
        Check.due("9: withdraw of 3 letters", x.withdraw(0), 4);
        Check.due("9: total behind it", x.total(0), 2);
        Check.due("9: count behind it", x.count(0, 7), 0);
        Check.due("9: count behind it", x.count(0, 12), 1);
        Check.due("9: rank behind it", x.rank(0, 2), 0);
        Check.due("9: the other tongue", x.total(1), 17);
        Check.due("9: withdraw of 16 letters", x.withdraw(2), 17);
        Check.due("9: total behind it", x.total(1), 0);
        Check.due("9: cost behind it", x.cost(1, 0), 6);
        Check.due("9: rank behind it", x.rank(1, 0), Tonguetell.NONE);
        Check.due("9: the spelled text stays", x.runs(), 17);
        Check.due("9: withdraw of one letter", x.withdraw(1), 2);
        Check.due("9: no tongue is lost", x.tongues(), 2);
        Check.due("9: the next number", x.teach(0), 3);
    }

    private static void tongueOf() {
        Tonguetell x = new Tonguetell();
        Check.addTongues(x, 5);
        for (int text = 0; text < 10; text++) {
            Check.teach(x, (text * 3) % 5, "ab");
        }
        x.withdraw(4);
        for (int text = 0; text < 10; text++) {
            if (text != 4) {
                Check.due("10: tongueOf", x.tongueOf(text), (text * 3) % 5);
            }
        }
    }

    private static void totalAndCount() {
        Tonguetell x = new Tonguetell();
        Check.addTongues(x, 3);
        Check.teach(x, 0, "aaa a");
        Check.teach(x, 2, "ee");
        Check.due("11: total", x.total(0), 6);
        Check.due("11: total of none", x.total(1), 0);
        Check.due("11: total", x.total(2), 3);
        int[] runsOfAaa = {1, 7, 7, 6, 1, 6};
        int[] want = new int[36];
        for (int run : runsOfAaa) {
            want[run]++;
        }
        for (int run = 0; run < 36; run++) {
            Check.due("12: count of " + run, x.count(0, run), want[run]);
        }
        Check.due("12: count of the last run", x.count(2, 35), 1);
        for (int text = 2; text < 30; text++) {
            Check.teach(x, 0, "aa");
        }
        Check.due("11: total of many", x.total(0), 6 + 28 * 3);
        Check.due("12: count of many", x.count(0, 7), 2 + 28);
    }

    private static void cost() {
        Tonguetell x = new Tonguetell();
        Check.addTongues(x, 2);
        for (int run = 0; run < 36; run++) {
            Check.due("13: cost in a tongue without runs", x.cost(1, run), 6);
        }
        Check.teach(x, 0, "aaaa");
        Check.due("13: a count of 0 of 5", x.cost(0, 0), 6);
        Check.due("13: a count of 1 of 5", x.cost(0, 1), 5);
        Check.due("13: a count of 3 of 5", x.cost(0, 7), 4);
        Check.due("13: the other tongue", x.cost(1, 7), 6);
    }

    private static void rank() {
        Tonguetell x = new Tonguetell();
        Check.addTongues(x, 2);
        Check.teach(x, 1, "ebb");
        // runs 5, 32, 14, 12
        Check.due("14: same counts by number", x.rank(1, 5), 0);
        Check.due("14: same counts by number", x.rank(1, 12), 1);
        Check.due("14: same counts by number", x.rank(1, 14), 2);
        Check.due("14: same counts by number", x.rank(1, 32), 3);
        Check.due("14: no count", x.rank(1, 13), Tonguetell.NONE);
        Check.due("14: another tongue", x.rank(0, 5), Tonguetell.NONE);
        Check.teach(x, 1, "ee");
        // and 5, 35, 30
        Check.due("14: greater counts first", x.rank(1, 5), 0);
        Check.teach(x, 1, "eeb");
        // and 5, 35, 32, 12
        Check.due("14: 5 three times", x.rank(1, 5), 0);
        Check.due("14: 12 twice", x.rank(1, 12), 1);
        Check.due("14: 32 twice", x.rank(1, 32), 2);
        Check.due("14: 35 twice", x.rank(1, 35), 3);
        Check.due("14: 14 once", x.rank(1, 14), 4);
        Check.due("14: 30 once", x.rank(1, 30), 5);
        x.withdraw(0);
        Check.due("14: behind a withdrawn text", x.rank(1, 35), 1);
        Check.due("14: behind a withdrawn text", x.rank(1, 14), Tonguetell.NONE);
    }
}
