/** The sentences of promises 15 to 19 that name a boundary, each on both sides of it. */
public final class TellingEdgesTest {
    private static final int NONE = Tonguetell.NONE;
    private static final int[] FAR = {Integer.MIN_VALUE, -36, -2, -1, 1000, Integer.MAX_VALUE};

    private interface OfTongue {
        int ask(Tonguetell x, int tongue);
    }

    public static void main(String[] args) {
        noSuchTongue("15", Tonguetell::textCost, 18);
        noSuchTongue("16", Tonguetell::distance, 108);
        marginAtFirst();
        marginOutOfRange();
        fewerThanFourLetters();
        noTonguesToTell();
        lessThanTheMarginTogether();
        greatestMargin();
        severalOfLeastCost();
        emptyTextByRanks();
        noTonguesByRanks();
        severalOfLeastDistance();
        Check.end();
    }

    /** Every tongue without runs gives the same answer of a text of two letters. */
    private static void noSuchTongue(String promise, OfTongue call, int ofEmptyTongue) {
        Check.sentence(promise + ": Throws IndexOutOfBoundsException if there is no such tongue");
        tongueRefused(call, 0, 0);
        for (int tongues : new int[] {1, 5}) {
            int last = tongues - 1;
            Check.answered("the first of " + tongues, ofEmptyTongue,
                x -> Check.tonguesAndText(x, tongues, "ab"), x -> call.ask(x, 0));
            Check.answered("the last of " + tongues, ofEmptyTongue,
                x -> Check.tonguesAndText(x, tongues, "ab"), x -> call.ask(x, last));
            Check.answered("the last, an empty text", 0, x -> Check.addTongues(x, tongues), x -> call.ask(x, last));
            tongueRefused(call, tongues, tongues);
            for (int far : FAR) {
                tongueRefused(call, tongues, far);
            }
        }
    }

    private static void tongueRefused(OfTongue call, int tongues, int tongue) {
        Check.refused(tongue + " of " + tongues, IndexOutOfBoundsException.class,
            x -> Check.tonguesAndText(x, tongues, "ab"), x -> call.ask(x, tongue));
        Check.refused(tongue + " of " + tongues + ", an empty text", IndexOutOfBoundsException.class,
            x -> Check.addTongues(x, tongues), x -> call.ask(x, tongue));
    }

    private static void marginAtFirst() {
        Check.sentence("17: Sets the margin, which is 3 at first. Returns the margin before.");
        Check.answered("at first", 3, x -> { }, x -> x.setMargin(3));
        Check.answered("the price is another", 3, x -> x.setPrice(9), x -> x.setMargin(0));
        // Run 1 and run 6 cost 5 in tongue 0, all others there and in tongue 1 cost 6.
        Check.answered("acca: 30 is less than 28 and 3", NONE, x -> taughtAAndText(x, "acca"), x -> x.tell());
        Check.answered("a ac: 30 is not less than 27 and 3", 0, x -> taughtAAndText(x, "a ac"), x -> x.tell());
    }

    private static void taughtAAndText(Tonguetell x, String text) {
        Check.addTongues(x, 2);
        Check.teach(x, 0, "a");
        Check.spell(x, text);
    }

    private static void marginOutOfRange() {
        Check.sentence("17: 0 to 100; throws IllegalArgumentException if margin is out of range");
        Check.answered("the least", 0, x -> x.setMargin(0), x -> x.setMargin(5));
        Check.answered("the greatest", 100, x -> x.setMargin(100), x -> x.setMargin(5));
        for (int far : new int[] {Integer.MIN_VALUE, -100, -1, 101, 256, 1000, Integer.MAX_VALUE}) {
            Check.refused("margin " + far, IllegalArgumentException.class, x -> x.setMargin(9), x -> x.setMargin(far));
            Check.refused("margin " + far + " at first", IllegalArgumentException.class, x -> { }, x -> x.setMargin(far));
        }
    }

    private static void fewerThanFourLetters() {
        Check.sentence("18: NONE if the text has fewer than 4 letters");
        for (String text : new String[] {"", "a", "ab", "abc", "   "}) {
            Check.answered("'" + text + "'", NONE, x -> Check.tonguesAndText(x, 1, text), x -> x.tell());
        }
        for (String text : new String[] {"abcd", "    ", "abcdeabcdeabcdea"}) {
            Check.answered("'" + text + "'", 0, x -> Check.tonguesAndText(x, 1, text), x -> x.tell());
        }
        Check.answered("three letters, no margin", NONE, x -> {
            Check.tonguesAndText(x, 1, "abc");
            x.setMargin(0);
        }, x -> x.tell());
    }

    private static void noTonguesToTell() {
        Check.sentence("18: NONE if [...] there are no tongues");
        Check.answered("none", NONE, x -> Check.spell(x, "abcd"), x -> x.tell());
        Check.answered("one", 0, x -> Check.tonguesAndText(x, 1, "abcd"), x -> x.tell());
        Check.answered("one, and the greatest margin", 0, x -> {
            Check.tonguesAndText(x, 1, "abcd");
            x.setMargin(100);
        }, x -> x.tell());
    }

    /** The text aaaa costs 22 in the tongue that is taught it, 30 in the other one. */
    private static void taughtAaaa(Tonguetell x, int tongue, int margin) {
        Check.addTongues(x, 2);
        Check.teach(x, tongue, "aaaa");
        x.setMargin(margin);
    }

    private static void lessThanTheMarginTogether() {
        Check.sentence("18: NONE if [...] the cost in another tongue is less than the least one and the margin, together");
        for (int tongue = 0; tongue < 2; tongue++) {
            int taught = tongue;
            Check.answered("30 is not less than 22 and 7", taught, x -> taughtAaaa(x, taught, 7), x -> x.tell());
            Check.answered("30 is not less than 22 and 8", taught, x -> taughtAaaa(x, taught, 8), x -> x.tell());
            Check.answered("30 is less than 22 and 9", NONE, x -> taughtAaaa(x, taught, 9), x -> x.tell());
        }
        Check.answered("a third tongue is less", NONE, x -> {
            taughtAaaa(x, 0, 8);
            x.addTongue();
            // 1 and 6 once: 5 each; 7 never.
            Check.teach(x, 2, "a");
            Check.spell(x, "aaaa");
        }, x -> x.tell());
    }

    /** 27 in tongue 0 and 127 in tongue 1 with 13 gaps, 8 less between them for each gap less. */
    private static void farApart(Tonguetell x, int gaps) {
        Check.addTongues(x, 2);
        Check.teach(x, 0, "                ");
        x.teach(0);
        Check.spell(x, "eeeeeeeeeeeeeeee");
        for (int text = 0; text < 28; text++) {
            x.teach(1);
        }
        Check.spell(x, "             ".substring(0, gaps) + "e");
    }

    private static void greatestMargin() {
        Check.sentence("18: less than the least one and the margin, together, at a margin of 100");
        Check.answered("in tongue 0", 27, x -> farApart(x, 13), x -> x.textCost(0));
        Check.answered("in tongue 1", 127, x -> farApart(x, 13), x -> x.textCost(1));
        Check.answered("127 is not less than 27 and 100", 0, x -> {
            farApart(x, 13);
            x.setMargin(100);
        }, x -> x.tell());
        Check.answered("118 is less than 26 and 100", NONE, x -> {
            farApart(x, 12);
            x.setMargin(100);
        }, x -> x.tell());
    }

    private static void severalOfLeastCost() {
        Check.sentence("18: of several the one with the lowest number");
        for (int margin = 0; margin <= 1; margin++) {
            // With a margin of 0 no cost in another tongue is less than the least one.
            int set = margin;
            Check.answered("five of 24, margin " + margin, margin == 0 ? 0 : NONE, x -> {
                Check.tonguesAndText(x, 5, "abc");
                x.spell(' ');
                x.setMargin(set);
            }, x -> x.tell());
            Check.answered("the second and the fifth, margin " + margin, margin == 0 ? 1 : NONE, x -> {
                Check.addTongues(x, 5);
                Check.teach(x, 1, "aaaa");
                Check.teach(x, 4, "aaaa");
                x.setMargin(set);
            }, x -> x.tell());
        }
    }

    private static void emptyTextByRanks() {
        Check.sentence("19: NONE if the text is empty");
        Check.answered("no letter", NONE, x -> Check.addTongues(x, 2), x -> x.tellByRanks());
        Check.answered("one letter", 0, x -> Check.tonguesAndText(x, 2, "a"), x -> x.tellByRanks());
        Check.answered("no letter behind one", NONE, x -> {
            Check.tonguesAndText(x, 2, "a");
            x.clearSpelled();
        }, x -> x.tellByRanks());
    }

    private static void noTonguesByRanks() {
        Check.sentence("19: NONE if [...] there are no tongues");
        Check.answered("none", NONE, x -> Check.spell(x, "abcd"), x -> x.tellByRanks());
        Check.answered("one", 0, x -> Check.tonguesAndText(x, 1, "abcd"), x -> x.tellByRanks());
        Check.answered("the fifth", 4, x -> {
            Check.addTongues(x, 5);
            Check.teach(x, 4, "abcd");
        }, x -> x.tellByRanks());
    }

    private static void severalOfLeastDistance() {
        Check.sentence("19: of several the one with the lowest number");
        Check.answered("five of them", 0, x -> Check.tonguesAndText(x, 5, "ab"), x -> x.tellByRanks());
        Check.answered("the second and the fifth", 1, x -> {
            Check.addTongues(x, 5);
            Check.teach(x, 4, "ab");
            Check.teach(x, 1, "ab");
        }, x -> x.tellByRanks());
        Check.answered("the second one farther by 1", 4, x -> {
            Check.addTongues(x, 5);
            Check.teach(x, 1, "e");
            Check.teach(x, 1, "a");
            x.teach(4);
        }, x -> x.tellByRanks());
        Check.answered("whatever the margin", 1, x -> {
            Check.addTongues(x, 5);
            Check.teach(x, 4, "ab");
            Check.teach(x, 1, "ab");
            x.setMargin(100);
        }, x -> x.tellByRanks());
    }
}
