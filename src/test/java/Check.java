import java.util.NoSuchElementException;

/** What the tests share: answers are compared, and main ends with exit code 1 if one was not as due. */
final class Check {
    interface Call {
        long on(Tonguetell x);
    }

    interface Script {
        void on(Tonguetell x);
    }

    private static final int TEXTS_LOOKED_AT = 40;

    private static String sentence = "";
    private static int seen = 0;
    private static int wrong = 0;

    private Check() {
    }

    /** Tells which sentence of the document the answers that are looked at next belong to. */
    static void sentence(String words) {
        sentence = words + " | ";
    }

    static void due(String what, long got, long want) {
        same(what, Long.toString(got), Long.toString(want));
    }

    static void holds(String what, boolean held) {
        look(held, what + " does not hold");
    }

    /** The call, on a new object on which the script has run, answers this. */
    static void answered(String what, long want, Script before, Call call) {
        Tonguetell x = new Tonguetell();
        before.on(x);
        same(what, answerOf(x, call), Long.toString(want));
    }

    /** The call throws exactly this, and an object on which it threw answers as one on which it never ran. */
    static void refused(String what, Class<?> want, Script before, Call call) {
        Tonguetell touched = new Tonguetell();
        before.on(touched);
        thrown(what, want, touched, call);
        Tonguetell untouched = new Tonguetell();
        before.on(untouched);
        sameState(what, touched, untouched);
    }

    static void thrown(String what, Class<?> want, Tonguetell x, Call call) {
        same(what, answerOf(x, call), want.getName());
    }

    /** Both objects are used up by this: it asks some 330 calls of each, withdraws all and teaches at the end. */
    static void sameState(String what, Tonguetell got, Tonguetell want) {
        String gotState = stateOf(got);
        String wantState = stateOf(want);
        look(gotState.equals(wantState), what + " left\n  " + gotState + "\ndue is\n  " + wantState);
    }

    static String answerOf(Tonguetell x, Call call) {
        try {
            return Long.toString(call.on(x));
        } catch (RuntimeException e) {
            return e.getClass().getName();
        }
    }

    static void spell(Tonguetell x, String text) {
        x.clearSpelled();
        for (int i = 0; i < text.length(); i++) {
            x.spell(text.charAt(i));
        }
    }

    static int teach(Tonguetell x, int tongue, String text) {
        spell(x, text);
        return x.teach(tongue);
    }

    static void addTongues(Tonguetell x, int number) {
        for (int i = 0; i < number; i++) {
            x.addTongue();
        }
    }

    static void tonguesAndText(Tonguetell x, int tongues, String text) {
        addTongues(x, tongues);
        spell(x, text);
    }

    /** So many texts, taught to two tongues by turns; the last one stays spelled. */
    static void texts(Tonguetell x, int number) {
        tonguesAndText(x, 2, "abc");
        for (int text = 0; text < number; text++) {
            x.teach(text % 2);
        }
    }

    static boolean isTaught(Tonguetell x, int text) {
        try {
            x.tongueOf(text);
            return true;
        } catch (NoSuchElementException e) {
            return false;
        }
    }

    static void end() {
        System.out.println(seen + " answers looked at, " + wrong + " not as due");
        if (wrong != 0 || seen == 0) {
            System.exit(1);
        }
    }

    private static void same(String what, String got, String want) {
        look(got.equals(want), what + " answered " + got + ", due is " + want);
    }

    private static void look(boolean asDue, String told) {
        seen++;
        if (!asDue) {
            wrong++;
            System.out.println(sentence + told);
        }
    }

    private static String stateOf(Tonguetell x) {
        StringBuilder state = new StringBuilder("spelled");
        int runs = x.runs();
        for (int place = 0; place < runs; place++) {
            state.append(' ').append(x.runAt(place));
        }
        state.append(", told ").append(x.tell()).append(' ').append(x.tellByRanks());
        state.append(", cut ").append(answerOf(x, y -> y.cutCost())).append(' ').append(answerOf(x, y -> y.stretches()));
        int tongues = x.tongues();
        for (int tongue = 0; tongue < tongues; tongue++) {
            state.append(", tongue ").append(tongue).append(" of ").append(x.total(tongue));
            for (int run = 0; run < 36; run++) {
                int count = x.count(tongue, run);
                if (count != 0) {
                    state.append(' ').append(run).append('x').append(count);
                }
            }
        }
        state.append(", margin ").append(x.setMargin(0)).append(", price ").append(x.setPrice(0));
        // Last, as it takes what is taught away: only with room again do the next numbers show.
        state.append(", letters ").append(x.clearSpelled()).append(", texts");
        for (int text = -1; text < TEXTS_LOOKED_AT; text++) {
            if (isTaught(x, text)) {
                state.append(' ').append(text).append("in").append(x.tongueOf(text)).append('x').append(x.withdraw(text));
            }
        }
        x.spell('a');
        state.append(", next tongue ").append(answerOf(x, y -> y.addTongue()));
        state.append(", next text ").append(answerOf(x, y -> y.teach(0)));
        state.append(", total ").append(x.total(0));
        return state.toString();
    }
}
