/** Promises 1 to 5: a new object, spell, clearSpelled, runs, runAt. */
public final class SpellingTest {
    public static void main(String[] args) {
        newObject();
        spell();
        clearSpelled();
        runs();
        runAt();
        allRuns();
        Check.end();
    }

    private static void newObject() {
        Tonguetell x = new Tonguetell();
        Check.due("1: tongues of a new object", x.tongues(), 0);
        Check.due("1: runs of a new object", x.runs(), 0);
        Check.due("1: letters of a new object", x.clearSpelled(), 0);
        Check.due("1: tell of a new object", x.tell(), Tonguetell.NONE);
        Check.due("1: tellByRanks of a new object", x.tellByRanks(), Tonguetell.NONE);
        Check.due("1: first margin", x.setMargin(0), 3);
        Check.due("1: first price", x.setPrice(0), 4);
        Check.holds("1: no text is taught to a new object", !Check.isTaught(x, 0));
        Check.due("1: first tongue", x.addTongue(), 0);
        Check.due("1: first text", Check.teach(x, 0, "a"), 0);

        Tonguetell other = new Tonguetell();
        Check.due("1: objects share no tongues", other.tongues(), 0);
        Check.due("1: objects share no spelled text", other.runs(), 0);
        Check.due("1: objects share no margin", other.setMargin(3), 3);
    }

    private static void spell() {
        String letters = " abcde";
        for (int number = 0; number < letters.length(); number++) {
            Tonguetell x = new Tonguetell();
            Check.due("2: spell of letter " + number, x.spell(letters.charAt(number)), 1);
            Check.due("2: number of letter " + number, x.runAt(0), number);
        }
        Tonguetell x = new Tonguetell();
        for (int length = 1; length <= 16; length++) {
            Check.due("2: letter " + length, x.spell(length % 2 == 0 ? ' ' : 'c'), length);
        }
    }

    private static void clearSpelled() {
        for (int length = 0; length <= 16; length++) {
            Tonguetell x = new Tonguetell();
            Check.spell(x, "abcde abcde abcd".substring(0, length));
            Check.due("3: clearSpelled of " + length, x.clearSpelled(), length);
            Check.due("3: runs behind clearSpelled", x.runs(), 0);
            Check.due("3: clearSpelled again", x.clearSpelled(), 0);
            Check.due("3: spell behind clearSpelled", x.spell('e'), 1);
            Check.due("3: first run behind clearSpelled", x.runAt(0), 5);
            Check.due("3: last run behind clearSpelled", x.runAt(1), 30);
        }
    }

    private static void runs() {
        Tonguetell x = new Tonguetell();
        Check.due("4: runs of an empty text", x.runs(), 0);
        for (int length = 1; length <= 16; length++) {
            x.spell(length % 3 == 0 ? ' ' : 'd');
            Check.due("4: runs of " + length + " letters", x.runs(), length + 1);
        }
        Check.due("4: runs are as many when asked again", x.runs(), 17);
    }

    private static void runAt() {
        runsDue("a", 1, 6);
        runsDue("e", 5, 30);
        runsDue(" ", 0, 0);
        runsDue("ab ", 1, 8, 12, 0);
        runsDue(" ba", 0, 2, 13, 6);
        runsDue("a e", 1, 6, 5, 30);
        runsDue("edcba", 5, 34, 27, 20, 13, 6);
        runsDue("ee  eebbccddaaee", 5, 35, 30, 0, 5, 35, 32, 14, 15, 21, 22, 28, 25, 7, 11, 35, 30);
    }

    private static void allRuns() {
        String letters = " abcde";
        for (int first = 0; first < 6; first++) {
            for (int second = 0; second < 6; second++) {
                Tonguetell x = new Tonguetell();
                x.spell(letters.charAt(first));
                x.spell(letters.charAt(second));
                Check.due("5: the run of letters " + first + " and " + second, x.runAt(1), 6 * first + second);
            }
        }
    }

    private static void runsDue(String text, int... want) {
        Tonguetell x = new Tonguetell();
        Check.spell(x, text);
        Check.due("5: runs of '" + text + "'", x.runs(), want.length);
        for (int place = 0; place < want.length; place++) {
            Check.due("5: run " + place + " of '" + text + "'", x.runAt(place), want[place]);
        }
    }
}
