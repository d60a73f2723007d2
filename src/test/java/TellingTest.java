/** Promises 15 to 19: textCost, distance, setMargin, tell, tellByRanks. */
public final class TellingTest {
    public static void main(String[] args) {
        textCost();
        distance();
        setMargin();
        tellWithFewLettersOrTongues();
        tellAtTheMargin();
        tellOfSeveral();
        tellByRanks();
        Check.end();
    }

    /** Tongue 0 has nothing, tongue 1 has "aaaa", of the runs 1, 7, 7, 7, 6. */
    private static void emptyAndAaaa(Tonguetell x) {
        Check.addTongues(x, 2);
        Check.teach(x, 1, "aaaa");
    }

    private static void textCost() {
        Tonguetell x = new Tonguetell();
        emptyAndAaaa(x);
        Check.due("15: aaaa in its tongue", x.textCost(1), 5 + 4 + 4 + 4 + 5);
        Check.due("15: aaaa in a tongue without runs", x.textCost(0), 30);
        Check.spell(x, "aab");
        Check.due("15: aab", x.textCost(1), 5 + 4 + 6 + 6);
        x.clearSpelled();
        Check.due("15: an empty text", x.textCost(1), 0);
        Check.due("15: an empty text", x.textCost(0), 0);
        Check.spell(x, " ");
        Check.due("15: one gap", x.textCost(0), 12);
    }

    private static void distance() {
        Tonguetell x = new Tonguetell();
        Check.addTongues(x, 4);
        Check.teach(x, 0, "ab");
        Check.teach(x, 1, "ba");
        Check.teach(x, 2, "a");
        Check.spell(x, "ab");
        Check.due("16: ab from ab", x.distance(0), 0);
        Check.due("16: ab from ba", x.distance(1), 108);
        Check.due("16: ab from a tongue without runs", x.distance(3), 108);
        Check.due("16: ab from a", x.distance(2), 0 + 36 + 36);
        Check.spell(x, "aaa");
        // 7 twice, 1 and 6 once; the tongue has 1 ahead of 6
        Check.due("16: aaa from a", x.distance(2), 36 + 1 + 1);
        Check.spell(x, "aaaaaaaa");
        Check.due("16: only unlike runs are summed", x.distance(2), 38);
        x.clearSpelled();
        Check.due("16: an empty text", x.distance(2), 0);
        Check.due("16: an empty text", x.distance(3), 0);

        Tonguetell signs = new Tonguetell();
        Check.addTongues(signs, 1);
        Check.teach(signs, 0, "bbb");
        Check.teach(signs, 0, "ab");
        // the tongue: 12 and 14 twice, 1, 2, 8 once; the text: 1, 8, 12 once
        Check.due("16: differences without their signs", signs.distance(0), 2 + 3 + 2);
    }

    private static void setMargin() {
        Tonguetell x = new Tonguetell();
        Check.due("17: the first margin", x.setMargin(0), 3);
        Check.due("17: margin 0", x.setMargin(100), 0);
        Check.due("17: margin 100", x.setMargin(100), 100);
        Check.due("17: margin 100", x.setMargin(7), 100);
        Check.due("17: the price is another", x.setPrice(8), 4);
        Check.due("17: margin 7", x.setMargin(7), 7);
    }

    private static void tellWithFewLettersOrTongues() {
        Tonguetell x = new Tonguetell();
        x.setMargin(0);
        Check.spell(x, "aaaaaa");
        Check.due("18: no tongues", x.tell(), Tonguetell.NONE);
        x.addTongue();
        Check.due("18: one tongue", x.tell(), 0);
        x.setMargin(100);
        Check.due("18: one tongue and a great margin", x.tell(), 0);
        Check.spell(x, "aaa");
        Check.due("18: three letters", x.tell(), Tonguetell.NONE);
        x.spell('b');
        Check.due("18: four letters", x.tell(), 0);
        Check.spell(x, "    ");
        Check.due("18: four gaps", x.tell(), 0);
        x.clearSpelled();
        Check.due("18: an empty text", x.tell(), Tonguetell.NONE);
    }

    private static void tellAtTheMargin() {
        Tonguetell x = new Tonguetell();
        emptyAndAaaa(x);
        // aaaa costs 30 in tongue 0 and 22 in tongue 1
        Check.due("18: the first margin", x.tell(), 1);
        x.setMargin(8);
        Check.due("18: 30 is not less than 22 and 8", x.tell(), 1);
        x.setMargin(9);
        Check.due("18: 30 is less than 22 and 9", x.tell(), Tonguetell.NONE);
        x.setMargin(0);
        Check.due("18: no margin", x.tell(), 1);
        Check.spell(x, "eeee");
        Check.due("18: two of 30, no margin", x.tell(), 0);
        x.setMargin(1);
        Check.due("18: two of 30, a margin of 1", x.tell(), Tonguetell.NONE);

        Tonguetell first = new Tonguetell();
        Check.addTongues(first, 2);
        Check.teach(first, 0, "aaaa");
        first.setMargin(8);
        Check.due("18: the other behind, not less", first.tell(), 0);
        first.setMargin(9);
        Check.due("18: the other behind, less", first.tell(), Tonguetell.NONE);
    }

    private static void tellOfSeveral() {
        Tonguetell x = new Tonguetell();
        Check.addTongues(x, 5);
        Check.teach(x, 2, "aaaa");
        Check.teach(x, 4, "aaaa");
        Check.due("18: two of 22, the first margin", x.tell(), Tonguetell.NONE);
        x.setMargin(0);
        Check.due("18: two of 22, no margin", x.tell(), 2);
        x.setMargin(3);
        Check.teach(x, 4, "aaaaaa");
        Check.due("18: the fifth alone", x.tell(), 4);
        Check.due("18: telling changes nothing", x.tell(), 4);
    }

    private static void tellByRanks() {
        Tonguetell x = new Tonguetell();
        Check.spell(x, "a");
        Check.due("19: no tongues", x.tellByRanks(), Tonguetell.NONE);
        Check.addTongues(x, 4);
        Check.due("19: all at 72", x.tellByRanks(), 0);
        Check.teach(x, 3, "a");
        Check.due("19: one letter", x.tellByRanks(), 3);
        x.setMargin(100);
        Check.due("19: the margin is not asked", x.tellByRanks(), 3);
        Check.teach(x, 1, "a");
        Check.due("19: two at 0", x.tellByRanks(), 1);
        Check.teach(x, 1, "e");
        Check.spell(x, "a");
        // tongue 1 has 1, 5, 6, 30: 6 has the rank 2 there
        Check.due("19: ranks in between", x.tellByRanks(), 3);
        x.clearSpelled();
        Check.due("19: an empty text", x.tellByRanks(), Tonguetell.NONE);
    }
}
