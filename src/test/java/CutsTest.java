/** Promises 20 to 24: setPrice, cutCost, cutCostByTrying, cutTongue, stretches. */
public final class CutsTest {
    public static void main(String[] args) {
        setPrice();
        oneTongue();
        twoTongues();
        lowerNumberAtTheFirstDifference();
        manyStretches();
        trying();
        Check.end();
    }

    private static void setPrice() {
        Tonguetell x = new Tonguetell();
        Check.due("20: the first price", x.setPrice(0), 4);
        Check.due("20: price 0", x.setPrice(100), 0);
        Check.due("20: price 100", x.setPrice(100), 100);
        Check.due("20: price 100", x.setPrice(6), 100);
        Check.due("20: the margin is another", x.setMargin(8), 3);
        Check.due("20: price 6", x.setPrice(6), 6);
    }

    private static void oneTongue() {
        Tonguetell x = new Tonguetell();
        x.addTongue();
        Check.spell(x, "abcdeabcdeabcdea");
        Check.due("21: 17 runs of 6", x.cutCost(), 102);
        Check.due("24: one stretch", x.stretches(), 1);
        Check.due("23: the last run", x.cutTongue(16), 0);
        Check.spell(x, "a");
        Check.due("21: 2 runs of 6", x.cutCost(), 12);
        Check.due("22: 2 runs of 6", x.cutCostByTrying(), 12);
        Check.due("24: one stretch", x.stretches(), 1);
    }

    private static void cutDue(String what, Tonguetell x, int cost, int stretches, int... tongues) {
        Check.due("21: cutCost, " + what, x.cutCost(), cost);
        Check.due("24: stretches, " + what, x.stretches(), stretches);
        for (int place = 0; place < tongues.length; place++) {
            Check.due("23: cutTongue(" + place + "), " + what, x.cutTongue(place), tongues[place]);
        }
        Check.due("21: cutCost again, " + what, x.cutCost(), cost);
    }

    /** Costs of 1, 7, 7, 8, 14, 14, 12: in tongue 0 they are 5 4 4 6 6 6 6, in tongue 1 6 6 6 6 4 4 5. */
    private static void aaaaAndBbbb(Tonguetell x) {
        Check.addTongues(x, 2);
        Check.teach(x, 0, "aaaa");
        Check.teach(x, 1, "bbbb");
        Check.spell(x, "aaabbb");
    }

    private static void twoTongues() {
        Tonguetell x = new Tonguetell();
        aaaaAndBbbb(x);
        cutDue("price 4", x, 36, 2, 0, 0, 0, 0, 1, 1, 1);
        x.setPrice(5);
        cutDue("price 5", x, 37, 1, 0, 0, 0, 0, 0, 0, 0);
        x.setPrice(100);
        cutDue("price 100", x, 37, 1, 0, 0, 0, 0, 0, 0, 0);
        x.setPrice(0);
        cutDue("price 0", x, 32, 2, 0, 0, 0, 0, 1, 1, 1);
        Check.spell(x, "bbbaaa");
        // 2, 14, 14, 13, 7, 7, 6: the first run of another tongue costs nothing
        x.setPrice(4);
        cutDue("price 4 from 1 on", x, 36, 2, 1, 1, 1, 0, 0, 0, 0);
        x.setPrice(3);
        x.withdraw(0);
        cutDue("behind a withdrawn text", x, 6 * 4 + 13, 1, 1, 1, 1, 1, 1, 1, 1);
    }

    private static void lowerNumberAtTheFirstDifference() {
        Tonguetell x = new Tonguetell();
        Check.addTongues(x, 3);
        Check.spell(x, "abcdeabcdeabcdea");
        x.setPrice(0);
        cutDue("all the same at no price", x, 102, 1, 0, 0, 0, 0, 0, 0, 0, 0, 0, 0, 0, 0, 0, 0, 0, 0, 0);

        // Staying in 1 and going through 0 cost the same: the first run decides, then the first difference.
        Tonguetell y = new Tonguetell();
        Check.addTongues(y, 2);
        Check.teach(y, 1, "e");
        Check.spell(y, "ae");
        // 1, 11, 30: in tongue 0 they are 6 6 6, in tongue 1 6 6 5
        y.setPrice(1);
        cutDue("18 without a change beats nothing", y, 17, 1, 1, 1, 1);
        Check.spell(y, "eae");
        // 5, 31, 11, 30: 5 in tongue 1 first and last
        cutDue("both ends in 1, price 1", y, 22, 1, 1, 1, 1, 1);
        y.setPrice(0);
        cutDue("both ends in 1, price 0", y, 22, 3, 1, 0, 0, 1);
    }

    private static void manyStretches() {
        Tonguetell x = new Tonguetell();
        Check.addTongues(x, 2);
        Check.teach(x, 0, "a");
        Check.teach(x, 1, "b");
        Check.spell(x, "a b a b");
        // 1 6 2 12 1 6 2 12: each costs 5 in its tongue (2 * 32 is above 38) and 6 in the other
        x.setPrice(0);
        cutDue("price 0", x, 40, 4, 0, 0, 1, 1, 0, 0, 1, 1);
        x.setPrice(1);
        // 43 too with four stretches, but their third run has the tongue with the higher number
        cutDue("price 1", x, 43, 2, 0, 0, 0, 0, 0, 0, 1, 1);
        x.setPrice(2);
        cutDue("price 2", x, 44, 1, 0, 0, 0, 0, 0, 0, 0, 0);
    }

    private static void trying() {
        Tonguetell x = new Tonguetell();
        fiveTongues(x);
        for (String text : new String[] {"a", "cc", " ", "abd", "abed", "abded", "ccded", "eeeee"}) {
            Check.spell(x, text);
            for (int price = 0; price < 8; price++) {
                x.setPrice(price);
                Check.due("22: as cutCost of " + text, x.cutCostByTrying(), x.cutCost());
            }
        }
        for (String text : new String[] {"a", "cc", " ", "abd", "abed", "abded", "ccded", "eeeee"}) {
            for (int price = 0; price < 4; price++) {
                firstOfAllCutsDue(text, price);
            }
        }
        // tongue 4: 9 runs, 45 in all; 4 once: 5, 29 twice: 4, 34 three times: 4, 24 twice: 4; tongue 3: 42 in all
        Check.spell(x, "ded");
        x.setPrice(4);
        Check.due("22: ded", x.cutCostByTrying(), 5 + 4 + 4 + 4);
    }

    private static void fiveTongues(Tonguetell x) {
        Check.addTongues(x, 5);
        Check.teach(x, 3, "ab");
        Check.teach(x, 3, "ab");
        Check.teach(x, 4, "ded");
        Check.teach(x, 4, "eded");
        Check.teach(x, 0, "ccc");
    }

    /** The cuts are tried here in the order of their tongues, so the first of least cost is the one that is told. */
    private static void firstOfAllCutsDue(String text, int price) {
        Tonguetell x = new Tonguetell();
        fiveTongues(x);
        Check.spell(x, text);
        x.setPrice(price);
        int runs = x.runs();
        int[][] costs = new int[runs][5];
        for (int place = 0; place < runs; place++) {
            for (int tongue = 0; tongue < 5; tongue++) {
                costs[place][tongue] = x.cost(tongue, x.runAt(place));
            }
        }
        int cuts = (int) Math.pow(5, runs);
        int least = Integer.MAX_VALUE;
        int told = 0;
        for (int cut = 0; cut < cuts; cut++) {
            int cost = 0;
            for (int place = 0; place < runs; place++) {
                cost += costs[place][digit(cut, place, runs)];
                cost += place > 0 && digit(cut, place, runs) != digit(cut, place - 1, runs) ? price : 0;
            }
            if (cost < least) {
                least = cost;
                told = cut;
            }
        }
        Check.due("22: cutCostByTrying of " + text + " at " + price, x.cutCostByTrying(), least);
        Check.due("21: cutCost of " + text + " at " + price, x.cutCost(), least);
        int stretches = 1;
        for (int place = 0; place < runs; place++) {
            Check.due("23: cutTongue(" + place + ") of " + text + " at " + price, x.cutTongue(place), digit(told, place, runs));
            stretches += place > 0 && digit(told, place, runs) != digit(told, place - 1, runs) ? 1 : 0;
        }
        Check.due("24: stretches of " + text + " at " + price, x.stretches(), stretches);
    }

    private static int digit(int cut, int place, int runs) {
        return cut / (int) Math.pow(5, runs - 1 - place) % 5;
    }
}
