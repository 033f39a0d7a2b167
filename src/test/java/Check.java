import java.util.List;

/** Counts answers that are not due, and tells with each the sentence of the document that asks for it. */
final class Check {
    /** A call that changes something or throws. */
    interface Do {
        void to(Foundry x);
    }

    /** A call that answers. */
    interface Ask {
        Object of(Foundry x);
    }

    private static final long MOST_SECONDS = 300;
    private static final int MOST_SHOWN = 50;

    private static String sentence = "";
    private static int wrong = 0;
    private static int checked = 0;

    static {
        Thread watch = new Thread(Check::failWhenLate);
        watch.setDaemon(true);
        watch.start();
    }

    private Check() {
    }

    /** A call that does not end fails the test too. */
    private static void failWhenLate() {
        try {
            Thread.sleep(MOST_SECONDS * 1000);
        } catch (InterruptedException e) {
            return;
        }
        System.out.println("no end after " + MOST_SECONDS + " seconds, at: " + sentence);
        Runtime.getRuntime().halt(1);
    }

    /** What follows tests these words of the document, till the next are said. */
    static void says(String where, String words) {
        sentence = where + ": \"" + words + "\"";
    }

    static void due(String what, Object got, Object want) {
        checked++;
        if (!got.equals(want)) {
            wrong++;
            if (wrong <= MOST_SHOWN) {
                System.out.println(sentence + "\n  " + what + ": answered " + got + ", due is " + want);
            }
        }
    }

    static void yes(String what, boolean got) {
        due(what, got, true);
    }

    static void no(String what, boolean got) {
        due(what, got, false);
    }

    /** What a call answers, or the name of what it throws. */
    static String answer(Foundry x, Ask call) {
        try {
            return String.valueOf(call.of(x));
        } catch (RuntimeException e) {
            return e.getClass().getSimpleName();
        }
    }

    static String outcome(Foundry x, Do call) {
        return answer(x, y -> {
            call.to(y);
            return "nothing";
        });
    }

    /** The call throws just this, and all calls answer afterwards as they did before it. */
    static void refused(State state, String what, Class<? extends RuntimeException> why, Do call) {
        due(what + " throws", outcome(Counted.in(state), call), why.getSimpleName());
        nothingChanges(state, what, call);
    }

    /** The call answers false, and all calls answer afterwards as they did before it. */
    static void isFalse(State state, String what, Ask call) {
        due(what, answer(Counted.in(state), call), "false");
        nothingChanges(state, what, call::of);
    }

    /** The call answers this, and all calls answer afterwards as they did before it. */
    static void onlyAnswers(State state, String what, Object want, Ask call) {
        due(what, answer(Counted.in(state), call), String.valueOf(want));
        nothingChanges(state, what, call::of);
    }

    /** An object that had the call answers all that one without it does, and all that it did itself before. */
    static void nothingChanges(State state, String what, Do call) {
        for (Report.Part part : Report.Part.values()) {
            Counted with = Counted.in(state);
            outcome(with, call);
            same(what + " changes nothing", Report.of(with, part), Report.of(Counted.in(state), part));
            if (!part.changes()) {
                Counted asked = Counted.in(state);
                List<String> before = Report.of(asked, part);
                outcome(asked, call);
                same(what + " changes nothing that was asked before", Report.of(asked, part), before);
            }
        }
    }

    /** Tells the first answer that is not the same. */
    static void same(String what, List<String> got, List<String> want) {
        for (int i = 0; i < Math.min(got.size(), want.size()); i++) {
            if (!got.get(i).equals(want.get(i))) {
                due(what, got.get(i), want.get(i));
                return;
            }
        }
        due(what + ": number of answers", got.size(), want.size());
    }

    static void finish() {
        if (checked == 0 || wrong > 0) {
            System.out.println(wrong + " of " + checked + " answers are wrong");
            System.exit(1);
        }
    }
}
