/** What holds for all calls, beside what each promises: which of them change nothing, and what the others leave. */
public final class AllCallsTest {
    private static final Answer[] TEXT = {
        new Answer("runs", 5, x -> x.runs()),
        new Answer("the first run", 1, x -> x.runAt(0)),
        new Answer("the third run", 8, x -> x.runAt(2)),
        new Answer("the last run", 12, x -> x.runAt(4)),
    };
    private static final Answer[] LETTERS = {new Answer("letters", 4, x -> x.clearSpelled())};
    private static final Answer[] TONGUES = {new Answer("tongues", 2, x -> x.tongues())};
    private static final Answer[] TONGUE_1 = {
        new Answer("total", 9, x -> x.total(1)),
        new Answer("count", 4, x -> x.count(1, 14)),
        new Answer("count of none", 0, x -> x.count(1, 7)),
        new Answer("cost", 4, x -> x.cost(1, 12)),
        new Answer("rank", 2, x -> x.rank(1, 1)),
        new Answer("tongue of text 1", 1, x -> x.tongueOf(1)),
        new Answer("tongue of text 2", 1, x -> x.tongueOf(2)),
    };
    private static final Answer[] COSTS = {
        new Answer("cost in 0", 5 + 4 + 6 + 6 + 6, x -> x.textCost(0)),
        new Answer("cost in 1", 5 + 6 + 5 + 4 + 4, x -> x.textCost(1)),
        new Answer("distance from 0", 1 + 1 + 36 + 36 + 36, x -> x.distance(0)),
        new Answer("distance from 1", 2 + 36 + 2 + 2 + 4, x -> x.distance(1)),
    };
    private static final Answer[] TOLD = {new Answer("told", 1, x -> x.tell())};
    private static final Answer[] TOLD_BY_RANKS = {new Answer("told by ranks", 1, x -> x.tellByRanks())};
    private static final Answer[] CUTS = {
        new Answer("least cost", 5 + 4 + 1 + 5 + 4 + 4, x -> x.cutCost()),
        new Answer("least cost, tried", 23, x -> x.cutCostByTrying()),
        new Answer("tongue of the first run", 0, x -> x.cutTongue(0)),
        new Answer("tongue of the last run", 1, x -> x.cutTongue(4)),
        new Answer("stretches", 2, x -> x.stretches()),
    };
    private static final Answer[][] ONLY_ANSWER = {TEXT, TONGUES, TONGUE_1, COSTS, TOLD, TOLD_BY_RANKS, CUTS};

    private static final Answer[] MARGIN = {new Answer("margin", 2, x -> x.setMargin(0))};
    private static final Answer[] PRICE = {new Answer("price", 1, x -> x.setPrice(0))};
    private static final Answer[] TEXTS_OF_1 = {
        new Answer("runs of text 1", 5, x -> x.withdraw(1)),
        new Answer("runs of text 2", 4, x -> x.withdraw(2)),
        new Answer("what is left behind text 1 and 2", 0, x -> leftBehind(x, 1, 1, 2)),
    };
    private static final Answer[] TEXT_0 = {
        new Answer("tongue of text 0", 0, x -> x.tongueOf(0)),
        new Answer("runs of text 0", 5, x -> x.withdraw(0)),
        new Answer("what is left behind text 0", 0, x -> leftBehind(x, 0, 0)),
    };
    private static final Answer[] NEXT_TEXT = {new Answer("next text", 3, x -> x.teach(1))};
    private static final Answer[] NEXT_TONGUE = {new Answer("next tongue", 2, x -> x.addTongue())};
    private static final Answer[][] CHANGE = {LETTERS, MARGIN, PRICE, TEXTS_OF_1, TEXT_0, NEXT_TEXT, NEXT_TONGUE};

    private static final class Answer {
        final String what;
        final long due;
        final Check.Call call;

        Answer(String what, long due, Check.Call call) {
            this.what = what;
            this.due = due;
            this.call = call;
        }
    }

    public static void main(String[] args) {
        Check.sentence("Not promised: Nothing is promised beyond the answers and state changes described above");
        callsThatOnlyAnswer();
        callsThatChangeTheText();
        callsThatChangeTongues();
        callsThatSet();
        objectsShareNothing();
        Check.end();
    }

    /** The text aabb has the runs 1, 7, 8, 14, 12; they cost 5 4 6 6 6 in tongue 0 and 5 6 5 4 4 in tongue 1. */
    private static void begin(Tonguetell x) {
        Check.addTongues(x, 2);
        x.setMargin(2);
        x.setPrice(1);
        Check.teach(x, 0, "aaaa");
        Check.teach(x, 1, "bbbb");
        Check.teach(x, 1, "abb");
        Check.spell(x, "aabb");
    }

    /** 0 if nothing is left of these texts, all that the tongue has, when they are withdrawn. */
    private static long leftBehind(Tonguetell x, int tongue, int... texts) {
        for (int text : texts) {
            x.withdraw(text);
        }
        long left = Math.abs(x.total(tongue));
        for (int run = 0; run < 36; run++) {
            left += Math.abs(x.count(tongue, run));
        }
        return left;
    }

    private static void leaves(String what, Check.Call call, Answer[]... groups) {
        for (Answer[] group : groups) {
            for (Answer answer : group) {
                Check.answered(answer.what + " behind " + what, answer.due, x -> {
                    begin(x);
                    call.on(x);
                }, answer.call);
            }
        }
    }

    private static void callsThatOnlyAnswer() {
        for (Answer[] group : ONLY_ANSWER) {
            for (Answer asked : group) {
                leaves("'" + asked.what + "'", asked.call, ONLY_ANSWER);
                leaves("'" + asked.what + "'", asked.call, CHANGE);
            }
        }
    }

    private static void callsThatChangeTheText() {
        leaves("spell", x -> x.spell('c'),
            TONGUES, TONGUE_1, MARGIN, PRICE, TEXTS_OF_1, TEXT_0, NEXT_TEXT, NEXT_TONGUE);
        leaves("clearSpelled", x -> x.clearSpelled(),
            TONGUES, TONGUE_1, MARGIN, PRICE, TEXTS_OF_1, TEXT_0, NEXT_TONGUE);
    }

    private static void callsThatChangeTongues() {
        leaves("addTongue", x -> x.addTongue(),
            TEXT, LETTERS, TONGUE_1, COSTS, MARGIN, PRICE, TEXTS_OF_1, TEXT_0, NEXT_TEXT);
        leaves("teach", x -> x.teach(0),
            TEXT, LETTERS, TONGUES, TONGUE_1, MARGIN, PRICE, TEXTS_OF_1, NEXT_TONGUE);
        leaves("withdraw", x -> x.withdraw(0),
            TEXT, LETTERS, TONGUES, TONGUE_1, MARGIN, PRICE, TEXTS_OF_1, NEXT_TEXT, NEXT_TONGUE);
        leaves("learn", x -> x.learn(0),
            TEXT, LETTERS, TONGUE_1, COSTS, MARGIN, PRICE, TEXTS_OF_1, TEXT_0);
    }

    private static void callsThatSet() {
        leaves("setMargin", x -> x.setMargin(100),
            TEXT, LETTERS, TONGUES, TONGUE_1, COSTS, TOLD_BY_RANKS, CUTS, PRICE,
            TEXTS_OF_1, TEXT_0, NEXT_TEXT, NEXT_TONGUE);
        leaves("setPrice", x -> x.setPrice(100),
            TEXT, LETTERS, TONGUES, TONGUE_1, COSTS, TOLD, TOLD_BY_RANKS, MARGIN,
            TEXTS_OF_1, TEXT_0, NEXT_TEXT, NEXT_TONGUE);
    }

    private static void objectsShareNothing() {
        Tonguetell one = new Tonguetell();
        Tonguetell other = new Tonguetell();
        Check.addTongues(one, 4);
        begin(other);
        for (char letter : "abcde abcde abcd".toCharArray()) {
            one.spell(letter);
            other.cutCost();
            one.teach(3);
            other.distance(1);
            one.cutCost();
            one.distance(3);
        }
        one.learn(0);
        one.withdraw(0);
        one.setMargin(100);
        one.setPrice(100);
        Tonguetell otherAlone = new Tonguetell();
        begin(otherAlone);
        Check.sameState("another object's calls", other, otherAlone);
    }
}
