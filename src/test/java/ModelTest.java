import java.util.ArrayList;
import java.util.Arrays;
import java.util.Collections;
import java.util.List;
import java.util.NoSuchElementException;
import java.util.TreeMap;

/** Long mixed runs of calls: each answer is compared with that of a model that counts all anew from its texts. */
public final class ModelTest {
    private static final int OBJECTS = 1500;
    private static final int CALLS_OF_AN_OBJECT = 512;

    public static void main(String[] args) {
        for (int object = 0; object < OBJECTS; object++) {
            oneObject(new Dice(object));
        }
        Check.end();
    }

    private static void oneObject(Dice dice) {
        Tonguetell x = new Tonguetell();
        Model model = new Model();
        Habit habit = new Habit(dice);
        StringBuilder told = new StringBuilder();
        for (int call = 0; call < CALLS_OF_AN_OBJECT; call++) {
            int kind = habit.nextKind(dice);
            int a = habit.argument(kind, dice, model);
            int b = dice.below(20) == 0 ? dice.oneOf(-1, 36, 99, Integer.MIN_VALUE, Integer.MAX_VALUE) : dice.below(36);
            String want = Check.answerOf(null, y -> model.answer(kind, a, b));
            String got = Check.answerOf(x, y -> answer(y, kind, a, b));
            told.append(kind).append('(').append(a).append(',').append(b).append(") ");
            Check.holds("kind " + kind + " with " + a + ", " + b + ": " + got + " is " + want, got.equals(want));
            if (!got.equals(want)) {
                System.out.println("behind the calls " + told);
                return;
            }
        }
    }

    private static long answer(Tonguetell x, int kind, int a, int b) {
        switch (kind) {
            case 0: return x.spell((char) a);
            case 1: return x.clearSpelled();
            case 2: return x.runs();
            case 3: return x.runAt(a);
            case 4: return x.addTongue();
            case 5: return x.tongues();
            case 6: return x.teach(a);
            case 7: return x.withdraw(a);
            case 8: return x.tongueOf(a);
            case 9: return x.total(a);
            case 10: return x.count(a, b);
            case 11: return x.cost(a, b);
            case 12: return x.rank(a, b);
            case 13: return x.textCost(a);
            case 14: return x.distance(a);
            case 15: return x.setMargin(a);
            case 16: return x.tell();
            case 17: return x.tellByRanks();
            case 18: return x.setPrice(a);
            case 19: return x.cutCost();
            case 20: return x.cutCostByTrying();
            case 21: return x.cutTongue(a);
            case 22: return x.stretches();
            default: return x.learn(a);
        }
    }

    /** Numbers that look mixed, the same in each run of the test. */
    private static final class Dice {
        private long state;

        Dice(int seed) {
            state = seed * 7919L + 17;
            below(2);
            below(2);
        }

        int below(int bound) {
            state = state * 6364136223846793005L + 1442695040888963407L;
            return (int) ((state >>> 33) % bound);
        }

        int oneOf(int... choices) {
            return choices[below(choices.length)];
        }
    }

    /** What an object is mostly asked, so that some objects get many texts, some many cuts, some few letters. */
    private static final class Habit {
        private static final int KINDS = 24;
        private final int[] weights = new int[KINDS];
        private final int letters;
        private final int greatestPrice;
        private int sum = 0;
        private int leftToSpell = 0;

        Habit(Dice dice) {
            int[] usual = {60, 12, 3, 6, 4, 1, 24, 6, 4, 4, 6, 8, 8, 6, 6, 3, 10, 10, 4, 8, 1, 14, 6, 3};
            for (int kind = 0; kind < KINDS; kind++) {
                weights[kind] = usual[kind] * dice.oneOf(1, 2, 2, 5);
                sum += weights[kind];
            }
            letters = 1 + dice.below(6);
            greatestPrice = dice.oneOf(1, 2, 4, 8, 100);
        }

        int nextKind(Dice dice) {
            if (leftToSpell > 0) {
                leftToSpell--;
                return 0;
            }
            int left = dice.below(sum);
            int kind = 0;
            while (left >= weights[kind]) {
                left -= weights[kind];
                kind++;
            }
            if (kind == 1) {
                leftToSpell = dice.below(17);
            }
            return kind;
        }

        int argument(int kind, Dice dice, Model model) {
            if (dice.below(25) == 0) {
                return dice.oneOf(-1, 0, 5, 16, 17, 20, 21, 30, 100, 101, Integer.MIN_VALUE, Integer.MAX_VALUE);
            }
            switch (kind) {
                case 0: return " abcde".charAt(dice.below(letters));
                case 3: case 21: return dice.below(model.runs().size() + 1);
                case 7: case 8: return dice.below(model.texts.size() + 1);
                case 15: return dice.below(12);
                case 18: return dice.below(greatestPrice + 1);
                case 23: return dice.below(9);
                default: return dice.below(Math.max(1, model.tongues));
            }
        }
    }

    private static final class Text {
        final int tongue;
        final List<Integer> runs;
        boolean withdrawn = false;

        Text(int tongue, List<Integer> runs) {
            this.tongue = tongue;
            this.runs = runs;
        }
    }

    private static final class Model {
        private String spelled = "";
        private int tongues = 0;
        private int margin = 3;
        private int price = 4;
        private final List<Text> texts = new ArrayList<>();

        long answer(int kind, int a, int b) {
            switch (kind) {
                case 0: return spell((char) a);
                case 1: { int before = spelled.length(); spelled = ""; return before; }
                case 2: return runs().size();
                case 3: check(a >= 0 && a < runs().size(), new IndexOutOfBoundsException()); return runs().get(a);
                case 4: check(tongues < 5, new IllegalStateException()); return tongues++;
                case 5: return tongues;
                case 6: return teach(a);
                case 7: { Text text = text(a); text.withdrawn = true; return text.runs.size(); }
                case 8: return text(a).tongue;
                case 9: checkTongue(a); return taughtTo(a).size();
                case 10: checkTongueAndRun(a, b); return Collections.frequency(taughtTo(a), b);
                case 11: checkTongueAndRun(a, b); return cost(a, b);
                case 12: checkTongueAndRun(a, b); return ranked(taughtTo(a)).indexOf(b);
                case 13: checkTongue(a); return textCost(a);
                case 14: checkTongue(a); return distance(a);
                case 15: { check(a >= 0 && a <= 100, new IllegalArgumentException()); int old = margin; margin = a; return old; }
                case 16: return tell();
                case 17: return tellByRanks();
                case 18: { check(a >= 0 && a <= 100, new IllegalArgumentException()); int old = price; price = a; return old; }
                case 19: checkSomeTongue(); return cut().cost;
                case 20: checkSomeTongue(); check(spelled.length() <= 5, new IllegalStateException()); return cut().cost;
                case 21: checkSomeTongue(); check(a >= 0 && a < runs().size(), new IndexOutOfBoundsException()); return cut().tongues[a];
                case 22: checkSomeTongue(); return stretches();
                default: return learn(a);
            }
        }

        private static void check(boolean fine, RuntimeException e) {
            if (!fine) {
                throw e;
            }
        }

        private void checkTongue(int tongue) {
            check(tongue >= 0 && tongue < tongues, new IndexOutOfBoundsException());
        }

        private void checkTongueAndRun(int tongue, int run) {
            checkTongue(tongue);
            check(run >= 0 && run < 36, new IndexOutOfBoundsException());
        }

        private void checkSomeTongue() {
            check(tongues > 0, new IllegalStateException());
        }

        private int spell(char letter) {
            check(" abcde".indexOf(letter) >= 0, new IllegalArgumentException());
            check(spelled.length() < 16, new IllegalStateException());
            spelled += letter;
            return spelled.length();
        }

        List<Integer> runs() {
            List<Integer> runs = new ArrayList<>();
            if (!spelled.isEmpty()) {
                String whole = " " + spelled + " ";
                for (int i = 1; i < whole.length(); i++) {
                    runs.add(6 * " abcde".indexOf(whole.charAt(i - 1)) + " abcde".indexOf(whole.charAt(i)));
                }
            }
            return runs;
        }

        private int teach(int tongue) {
            checkTongue(tongue);
            check(!spelled.isEmpty(), new IllegalStateException());
            check(kept() < 30, new IllegalStateException());
            texts.add(new Text(tongue, runs()));
            return texts.size() - 1;
        }

        private long kept() {
            return texts.stream().filter(text -> !text.withdrawn).count();
        }

        private Text text(int number) {
            check(number >= 0 && number < texts.size(), new NoSuchElementException());
            check(!texts.get(number).withdrawn, new NoSuchElementException());
            return texts.get(number);
        }

        private List<Integer> taughtTo(int tongue) {
            List<Integer> runs = new ArrayList<>();
            for (Text text : texts) {
                if (!text.withdrawn && text.tongue == tongue) {
                    runs.addAll(text.runs);
                }
            }
            return runs;
        }

        private int cost(int tongue, int run) {
            List<Integer> taught = taughtTo(tongue);
            long reached = Collections.frequency(taught, run) + 1;
            int k = 0;
            while (reached << k < taught.size() + 36) {
                k++;
            }
            return k;
        }

        private static List<Integer> ranked(List<Integer> runs) {
            TreeMap<Integer, Integer> counts = new TreeMap<>();
            for (int run : runs) {
                counts.merge(run, 1, Integer::sum);
            }
            List<Integer> order = new ArrayList<>(counts.keySet());
            order.sort((a, b) -> counts.get(b) - counts.get(a));
            return order;
        }

        private int textCost(int tongue) {
            int sum = 0;
            for (int run : runs()) {
                sum += cost(tongue, run);
            }
            return sum;
        }

        private int distance(int tongue) {
            List<Integer> own = ranked(runs());
            List<Integer> there = ranked(taughtTo(tongue));
            int sum = 0;
            for (int run : own) {
                sum += there.contains(run) ? Math.abs(there.indexOf(run) - own.indexOf(run)) : 36;
            }
            return sum;
        }

        private int tell() {
            if (spelled.length() < 4 || tongues == 0) {
                return -1;
            }
            int[] costs = new int[tongues];
            Arrays.setAll(costs, this::textCost);
            int least = Arrays.stream(costs).min().getAsInt();
            long close = Arrays.stream(costs).filter(cost -> cost < least + margin).count();
            int best = 0;
            while (costs[best] != least) {
                best++;
            }
            return margin > 0 && close > 1 ? -1 : best;
        }

        private int tellByRanks() {
            if (spelled.isEmpty() || tongues == 0) {
                return -1;
            }
            int best = tongues - 1;
            for (int tongue = tongues - 1; tongue >= 0; tongue--) {
                best = distance(tongue) <= distance(best) ? tongue : best;
            }
            return best;
        }

        /** Of each last tongue, the cut of the first runs that is told; the one that is told goes on from one of these. */
        private Cut cut() {
            List<Cut> ends = List.of(new Cut(0, new int[0]));
            for (int run : runs()) {
                List<Cut> longer = new ArrayList<>();
                for (int tongue = 0; tongue < tongues; tongue++) {
                    Cut best = null;
                    for (Cut end : ends) {
                        Cut next = end.with(tongue, cost(tongue, run), price);
                        best = best == null || next.isToldAheadOf(best) ? next : best;
                    }
                    longer.add(best);
                }
                ends = longer;
            }
            Cut told = ends.get(0);
            for (Cut end : ends) {
                told = end.isToldAheadOf(told) ? end : told;
            }
            return told;
        }

        private int stretches() {
            int[] cut = cut().tongues;
            int stretches = cut.length == 0 ? 0 : 1;
            for (int i = 1; i < cut.length; i++) {
                stretches += cut[i] == cut[i - 1] ? 0 : 1;
            }
            return stretches;
        }

        private int learn(int least) {
            check(least >= 0 && least <= 20, new IllegalArgumentException());
            check(tongues < 5 && kept() < 30, new IllegalStateException());
            List<Integer> runs = runs();
            for (int length = runs.size(); length >= 3; length--) {
                for (int from = 0; from + length <= runs.size(); from++) {
                    List<Integer> stretch = runs.subList(from, from + length);
                    if (stretch.stream().allMatch(run -> fitsNone(run, least))) {
                        texts.add(new Text(tongues, new ArrayList<>(stretch)));
                        return tongues++;
                    }
                }
            }
            return -1;
        }

        private boolean fitsNone(int run, int least) {
            for (int tongue = 0; tongue < tongues; tongue++) {
                if (cost(tongue, run) < least) {
                    return false;
                }
            }
            return true;
        }
    }

    private static final class Cut {
        final int cost;
        final int[] tongues;

        Cut(int cost, int[] tongues) {
            this.cost = cost;
            this.tongues = tongues;
        }

        Cut with(int tongue, int cost, int price) {
            int[] longer = Arrays.copyOf(tongues, tongues.length + 1);
            longer[tongues.length] = tongue;
            boolean changes = tongues.length > 0 && tongues[tongues.length - 1] != tongue;
            return new Cut(this.cost + cost + (changes ? price : 0), longer);
        }

        boolean isToldAheadOf(Cut other) {
            return cost != other.cost ? cost < other.cost : Arrays.compare(tongues, other.tongues) < 0;
        }
    }
}
