/** The sentences of promises 20 to 24 that name a boundary, each on both sides of it. */
public final class CutsEdgesTest {
    private static final String SIXTEEN = "abababababababab";

    public static void main(String[] args) {
        priceAtFirst();
        priceOutOfRange();
        emptyText();
        noTongues("21: Throws IllegalStateException if there are no tongues", x -> x.cutCost(), 24);
        noTongues("22: Throws IllegalStateException if there are no tongues", x -> x.cutCostByTrying(), 24);
        noTongues("23: Throws IllegalStateException if there are no tongues", x -> x.cutTongue(3), 0);
        noTongues("24: Throws IllegalStateException if there are no tongues", x -> x.stretches(), 1);
        returnsTheSame();
        moreThanFiveLetters();
        noSuchRun();
        emptyTextHasNoStretches();
        stretchesSideBySide();
        Check.end();
    }

    /** The text aaabbb costs 32 and a price with one change, 37 without a change. */
    private static void aaaaAndBbbb(Tonguetell x) {
        Check.addTongues(x, 2);
        Check.teach(x, 0, "aaaa");
        Check.teach(x, 1, "bbbb");
        Check.spell(x, "aaabbb");
    }

    private static void priceAtFirst() {
        Check.sentence("20: Sets the price. Returns the price before. (a price, 4 at first)");
        Check.answered("at first", 4, x -> { }, x -> x.setPrice(4));
        Check.answered("the margin is another", 4, x -> x.setMargin(9), x -> x.setPrice(0));
        Check.answered("a change at first", 36, CutsEdgesTest::aaaaAndBbbb, x -> x.cutCost());
    }

    private static void priceOutOfRange() {
        Check.sentence("20: 0 to 100; throws IllegalArgumentException if price is out of range");
        Check.answered("the least", 0, x -> x.setPrice(0), x -> x.setPrice(5));
        Check.answered("the greatest", 100, x -> x.setPrice(100), x -> x.setPrice(5));
        Check.answered("a cut at the least", 32, x -> {
            aaaaAndBbbb(x);
            x.setPrice(0);
        }, x -> x.cutCost());
        Check.answered("a cut at the greatest", 37, x -> {
            aaaaAndBbbb(x);
            x.setPrice(100);
        }, x -> x.cutCost());
        for (int far : new int[] {Integer.MIN_VALUE, -100, -1, 101, 256, 1000, Integer.MAX_VALUE}) {
            Check.refused("price " + far, IllegalArgumentException.class, x -> x.setPrice(9), x -> x.setPrice(far));
            Check.refused("price " + far + " at first", IllegalArgumentException.class, x -> { }, x -> x.setPrice(far));
        }
    }

    private static void emptyText() {
        Check.sentence("21: Returns the least cost of all cuts of the spelled text; 0 for an empty one.");
        Check.answered("no letter", 0, x -> x.addTongue(), x -> x.cutCost());
        Check.answered("no letter, tried", 0, x -> x.addTongue(), x -> x.cutCostByTrying());
        Check.answered("no letter behind a cut", 0, x -> {
            aaaaAndBbbb(x);
            x.cutCost();
            x.clearSpelled();
        }, x -> x.cutCost());
        Check.answered("one letter", 12, x -> Check.tonguesAndText(x, 1, "a"), x -> x.cutCost());
        Check.answered("sixteen letters", 17 * 6, x -> Check.tonguesAndText(x, 1, SIXTEEN), x -> x.cutCost());
    }

    /** With one tongue, a text of three letters gets this answer. */
    private static void noTongues(String sentence, Check.Call call, int withOne) {
        Check.sentence(sentence);
        for (String text : new String[] {"", "a", "abc", "abcde", "abcdea", SIXTEEN}) {
            Check.refused("'" + text + "'", IllegalStateException.class, x -> Check.spell(x, text), call);
        }
        Check.answered("one tongue", withOne, x -> Check.tonguesAndText(x, 1, "abc"), call);
    }

    private static void returnsTheSame() {
        Check.sentence("22: Returns the same, found by trying all cuts.");
        for (String text : new String[] {"", "a", "aabb", "aaabb", "bbbaa"}) {
            for (int price : new int[] {0, 1, 4, 5, 100}) {
                Tonguetell x = new Tonguetell();
                aaaaAndBbbb(x);
                Check.addTongues(x, 3);
                x.setPrice(price);
                // A longer text was cut before, of which nothing may be left in what is tried.
                Check.spell(x, SIXTEEN);
                x.cutCost();
                Check.spell(x, text);
                Check.due("'" + text + "' at " + price, x.cutCostByTrying(), x.cutCost());
            }
        }
    }

    private static void moreThanFiveLetters() {
        Check.sentence("22: Throws IllegalStateException if [...] the spelled text has more than 5 letters");
        for (int tongues = 1; tongues <= 5; tongues += 4) {
            int there = tongues;
            Check.answered("five letters", 36, x -> Check.tonguesAndText(x, there, "abcde"), x -> x.cutCostByTrying());
            Check.refused("six letters", IllegalStateException.class,
                x -> Check.tonguesAndText(x, there, "abcdea"), x -> x.cutCostByTrying());
            Check.refused("sixteen letters", IllegalStateException.class,
                x -> Check.tonguesAndText(x, there, SIXTEEN), x -> x.cutCostByTrying());
        }
        Check.answered("five gaps", 36, x -> Check.tonguesAndText(x, 2, "     "), x -> x.cutCostByTrying());
        Check.refused("six gaps", IllegalStateException.class,
            x -> Check.tonguesAndText(x, 2, "      "), x -> x.cutCostByTrying());
    }

    private static void noSuchRun() {
        Check.sentence("23: Throws IndexOutOfBoundsException if there is no such run");
        Check.refused("no such run, and no tongues", IllegalStateException.class,
            x -> Check.spell(x, "a"), x -> x.cutTongue(-1));
        Check.answered("the first", 0, CutsEdgesTest::aaaaAndBbbb, x -> x.cutTongue(0));
        Check.answered("the last", 1, CutsEdgesTest::aaaaAndBbbb, x -> x.cutTongue(6));
        Check.answered("the last of one letter", 0, x -> Check.tonguesAndText(x, 5, "a"), x -> x.cutTongue(1));
        Check.answered("the last of sixteen letters", 0, x -> Check.tonguesAndText(x, 5, SIXTEEN), x -> x.cutTongue(16));
        for (int far : new int[] {Integer.MIN_VALUE, -2, -1, 17, 18, 1000, Integer.MAX_VALUE}) {
            placeRefused("", far);
            placeRefused("a", far);
            placeRefused(SIXTEEN, far);
        }
        placeRefused("", 0);
        placeRefused("a", 2);
        placeRefused("aaabbb", 7);
        Check.refused("a run of the text before", IndexOutOfBoundsException.class, x -> {
            aaaaAndBbbb(x);
            x.cutTongue(6);
            Check.spell(x, "ab");
        }, x -> x.cutTongue(3));
    }

    private static void placeRefused(String text, int place) {
        Check.refused("run " + place + " of '" + text + "'", IndexOutOfBoundsException.class,
            x -> Check.tonguesAndText(x, 2, text), x -> x.cutTongue(place));
    }

    private static void emptyTextHasNoStretches() {
        Check.sentence("24: 0 for an empty text");
        Check.answered("no letter", 0, x -> x.addTongue(), x -> x.stretches());
        Check.answered("one letter", 1, x -> Check.tonguesAndText(x, 1, "a"), x -> x.stretches());
        Check.answered("no letter behind two stretches", 0, x -> {
            aaaaAndBbbb(x);
            x.stretches();
            x.clearSpelled();
        }, x -> x.stretches());
    }

    /** Every second run of the sixteen letters costs 5 in tongue 0 and 6 in tongue 1, the others 6 and 5. */
    private static void everySecondRun(Tonguetell x, int price) {
        Check.addTongues(x, 2);
        Check.teach(x, 0, "cabc");
        Check.teach(x, 1, "acba cb");
        Check.spell(x, SIXTEEN);
        x.setPrice(price);
    }

    private static void stretchesSideBySide() {
        Check.sentence("24: runs side by side with the same tongue are one");
        Check.answered("no change", 1, x -> Check.tonguesAndText(x, 5, SIXTEEN), x -> x.stretches());
        Check.answered("one change", 2, CutsEdgesTest::aaaaAndBbbb, x -> x.stretches());
        Check.answered("17 stretches, which is the most", 17, x -> everySecondRun(x, 0), x -> x.stretches());
        Check.answered("their cost", 17 * 5, x -> everySecondRun(x, 0), x -> x.cutCost());
        for (int place = 0; place < 17; place++) {
            int at = place;
            Check.answered("the tongue of run " + at, at % 2 == 0 ? 1 : 0, x -> everySecondRun(x, 0), x -> x.cutTongue(at));
        }
        Check.answered("a price of 1", 1, x -> everySecondRun(x, 1), x -> x.stretches());
        Check.answered("its cost", 9 * 5 + 8 * 6, x -> everySecondRun(x, 1), x -> x.cutCost());
        Check.answered("its tongue", 1, x -> everySecondRun(x, 1), x -> x.cutTongue(0));
    }
}
