import java.util.NoSuchElementException;

/** What the tests share: answers are compared, and main ends with exit code 1 if one was not as due. */
final class Check {
    interface Call {
        long on(Tonguetell x);
    }

    interface Script {
        void on(Tonguetell x);
    }

    private static int seen = 0;
    private static int wrong = 0;

    private Check() {
    }

    static void due(String what, long got, long want) {
        seen++;
        if (got != want) {
            wrong++;
            System.out.println(what + " answered " + got + ", due is " + want);
        }
    }

    static void holds(String what, boolean held) {
        seen++;
        if (!held) {
            wrong++;
            System.out.println(what + " does not hold");
        }
    }

    /** The call throws exactly this, and an object on which it threw answers as one on which it never ran. */
    static void refused(String what, Class<?> want, Script before, Call call) {
        Tonguetell touched = new Tonguetell();
        before.on(touched);
        thrown(what, want, touched, call);
        Tonguetell untouched = new Tonguetell();
        before.on(untouched);
        sameState(what, touched, untouched);
    }

    static void thrown(String what, Class<?> want, Tonguetell x, Call call) {
        String got = answerOf(x, call);
        seen++;
        if (!got.equals(want.getName())) {
            wrong++;
            System.out.println(what + " answered " + got + ", due is " + want.getName());
        }
    }

    /** Both objects are used up by this: it asks some 250 calls of each and teaches at the end. */
    static void sameState(String what, Tonguetell got, Tonguetell want) {
        String gotState = stateOf(got);
        String wantState = stateOf(want);
        seen++;
        if (!gotState.equals(wantState)) {
            wrong++;
            System.out.println(what + " left\n  " + gotState + "\ndue is\n  " + wantState);
        }
    }

    static String answerOf(Tonguetell x, Call call) {
        try {
            return Long.toString(call.on(x));
        } catch (RuntimeException e) {
            return e.getClass().getName();
        }
    }

    static void spell(Tonguetell x, String text) {
        x.clearSpelled();
        for (int i = 0; i < text.length(); i++) {
            x.spell(text.charAt(i));
        }
    }

    static int teach(Tonguetell x, int tongue, String text) {
        spell(x, text);
        return x.teach(tongue);
    }

    static void addTongues(Tonguetell x, int number) {
        for (int i = 0; i < number; i++) {
            x.addTongue();
        }
    }

    static boolean isTaught(Tonguetell x, int text) {
        try {
            x.tongueOf(text);
            return true;
        } catch (NoSuchElementException e) {
            return false;
        }
    }

    static void end() {
        System.out.println(seen + " answers looked at, " + wrong + " not as due");
        if (wrong != 0 || seen == 0) {
            System.exit(1);
        }
    }

    private static String stateOf(Tonguetell x) {
        StringBuilder state = new StringBuilder("spelled");
        for (int place = 0; place < x.runs(); place++) {
            state.append(' ').append(x.runAt(place));
        }
        for (int tongue = 0; tongue < x.tongues(); tongue++) {
            state.append(", tongue ").append(tongue).append(" of ").append(x.total(tongue));
            for (int run = 0; run < 36; run++) {
                int count = x.count(tongue, run);
                if (count != 0) {
                    state.append(' ').append(run).append('x').append(count);
                }
            }
        }
        state.append(", texts");
        for (int text = -1; text < 40; text++) {
            if (isTaught(x, text)) {
                state.append(' ').append(text).append("in").append(x.tongueOf(text));
            }
        }
        state.append(", margin ").append(x.setMargin(0)).append(", price ").append(x.setPrice(0));
        x.clearSpelled();
        x.spell('a');
        state.append(", next tongue ").append(answerOf(x, y -> y.addTongue()));
        state.append(", next text ").append(answerOf(x, y -> y.teach(0)));
        return state.toString();
    }
}
