/** The sentences of promises 1 to 5 that name a boundary, each on both sides of it. */
public final class SpellingEdgesTest {
    private static final String SIXTEEN = "abcdeabcdeabcdea";
    private static final String FIFTEEN = "abcdeabcdeabcde";

    public static void main(String[] args) {
        newObject();
        lettersThen();
        wrongLetter();
        sixteenLetters();
        lettersBefore();
        howManyRuns();
        noSuchRun();
        Check.end();
    }

    private static void newObject() {
        Check.sentence("1: Begins without tongues, with an empty spelled text.");
        Check.answered("tongues", 0, x -> { }, x -> x.tongues());
        Check.refused("no tongue 0", IndexOutOfBoundsException.class, x -> { }, x -> x.total(0));
        Check.answered("the first tongue", 0, x -> { }, x -> x.addTongue());
        Check.answered("letters", 0, x -> { }, x -> x.clearSpelled());
        Check.answered("runs", 0, x -> { }, x -> x.runs());
        Check.answered("the first letter", 1, x -> { }, x -> x.spell('c'));
    }

    private static void lettersThen() {
        Check.sentence("2: Returns how many letters it has then.");
        Check.answered("the first", 1, x -> { }, x -> x.spell('a'));
        Check.answered("the sixteenth", 16, x -> Check.spell(x, FIFTEEN), x -> x.spell('a'));
        Check.answered("the first behind sixteen", 1, x -> {
            Check.spell(x, SIXTEEN);
            x.clearSpelled();
        }, x -> x.spell('a'));
    }

    private static void wrongLetter() {
        Check.sentence("2: Throws IllegalArgumentException if letter is neither from a to e nor a space");
        for (char letter : "abcde ".toCharArray()) {
            Check.answered("letter " + (int) letter, 2, x -> x.spell('b'), x -> x.spell(letter));
        }
        // Some of these are a letter's number and 256, 65280 or less, so that a narrower type would take them.
        char[] wrong = {0, 9, 10, 31, 33, '0', 'A', 'E', 96, 102, 'z', 160, 225, 256 + ' ', 256 + 'a', 256 + 'e',
            0x2003, 0xff00 + 'a', 0xff41, 0xffff};
        for (char letter : wrong) {
            Check.refused("letter " + (int) letter, IllegalArgumentException.class,
                x -> x.spell('b'), x -> x.spell(letter));
            Check.refused("letter " + (int) letter + " behind 16", IllegalArgumentException.class,
                x -> Check.spell(x, SIXTEEN), x -> x.spell(letter));
        }
    }

    private static void sixteenLetters() {
        Check.sentence("2: Throws IllegalStateException if it has 16 letters");
        for (char letter : "abcde ".toCharArray()) {
            Check.answered("letter 16, " + letter, 16, x -> Check.spell(x, FIFTEEN), x -> x.spell(letter));
            Check.refused("letter 17, " + letter, IllegalStateException.class,
                x -> Check.spell(x, SIXTEEN), x -> x.spell(letter));
        }
    }

    private static void lettersBefore() {
        Check.sentence("3: Makes the spelled text empty. Returns how many letters it had.");
        Check.answered("none", 0, x -> { }, x -> x.clearSpelled());
        Check.answered("one", 1, x -> x.spell(' '), x -> x.clearSpelled());
        Check.answered("sixteen", 16, x -> Check.spell(x, SIXTEEN), x -> x.clearSpelled());
        Check.answered("none behind sixteen", 0, x -> {
            Check.spell(x, SIXTEEN);
            x.clearSpelled();
        }, x -> x.clearSpelled());
    }

    private static void howManyRuns() {
        Check.sentence("4: Returns how many runs the spelled text has.");
        Check.answered("without letters", 0, x -> { }, x -> x.runs());
        Check.answered("one letter", 2, x -> x.spell('a'), x -> x.runs());
        Check.answered("sixteen letters", 17, x -> Check.spell(x, SIXTEEN), x -> x.runs());
        Check.answered("without letters again", 0, x -> {
            Check.spell(x, SIXTEEN);
            x.clearSpelled();
        }, x -> x.runs());
    }

    private static void noSuchRun() {
        Check.sentence("5: Throws IndexOutOfBoundsException if there is no such run");
        Check.answered("the first of one letter", 1, x -> x.spell('a'), x -> x.runAt(0));
        Check.answered("the last of one letter", 6, x -> x.spell('a'), x -> x.runAt(1));
        Check.answered("the first of sixteen letters", 1, x -> Check.spell(x, SIXTEEN), x -> x.runAt(0));
        Check.answered("the last of sixteen letters", 6, x -> Check.spell(x, SIXTEEN), x -> x.runAt(16));
        for (int far : new int[] {Integer.MIN_VALUE, -2, -1, 17, 18, 1000, Integer.MAX_VALUE}) {
            runRefused("", far);
            runRefused("a", far);
            runRefused(SIXTEEN, far);
        }
        runRefused("", 0);
        runRefused("a", 2);
        runRefused("abc", 4);
        Check.refused("a run of the text before", IndexOutOfBoundsException.class, x -> {
            Check.spell(x, "abc");
            Check.spell(x, "a");
        }, x -> x.runAt(2));
    }

    private static void runRefused(String text, int place) {
        Check.refused("run " + place + " of '" + text + "'", IndexOutOfBoundsException.class,
            x -> Check.spell(x, text), x -> x.runAt(place));
    }
}
