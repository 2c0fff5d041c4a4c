import java.util.ArrayList;
import java.util.List;
import java.util.TreeSet;

/** Tests of single sentences of the document: each names its promise and the words that it holds. */
class Sentences {
    static final int NONE = -6, UNKNOWN = -1, OUTSIDE = -2, STATE = -3, FULL = -4, NO = -5;
    static final int LEAST = Integer.MIN_VALUE, MOST = Integer.MAX_VALUE;

    interface Body {
        void check();
    }

    /** What a test says of its sentence: the promise, and words as they stand in the document. */
    record Sentence(int promise, String words, boolean holds) { }

    private static final List<Sentence> done = new ArrayList<>();
    private static final List<String> complaints = new ArrayList<>();
    private static String about = "";
    private static boolean holds = true;

    Sentences() {
    }

    static List<Sentence> done() {
        return done;
    }

    static List<String> complaints() {
        return complaints;
    }

    /** The promises of which a test failed. */
    static TreeSet<Integer> broken() {
        TreeSet<Integer> broken = new TreeSet<>();
        for (Sentence one : done) {
            if (!one.holds()) {
                broken.add(one.promise());
            }
        }
        return broken;
    }

    static void sentence(int promise, String words, Body body) {
        about = "promise " + promise + ", \"" + words + "\"";
        holds = true;
        try {
            body.check();
        } catch (RuntimeException | StackOverflowError thrown) {
            complain("threw " + thrown);
        }
        done.add(new Sentence(promise, words, holds));
    }

    private static void complain(String what) {
        holds = false;
        complaints.add(about + ": " + what);
    }

    static void due(String call, long got, long want) {
        if (got != want) {
            complain(call + " answered " + got + ", due is " + want);
        }
    }

    static void dueSteps(String text, int k, int way, int... want) {
        Desk desk = Desk.of(text, k, way);
        String of = " of " + text + " under K " + k + ", WAY " + way;
        due("step(-1)" + of, desk.step(-1), want.length);
        for (int i = 0; i < want.length; i++) {
            due("step(" + i + ")" + of, desk.step(i), want[i]);
        }
    }

    static void dueSpilled(String text, int k, int way, int... want) {
        Desk desk = Desk.of(text, k, way);
        String of = " of " + text + " under K " + k + ", WAY " + way;
        due("spilled(-1)" + of, desk.spilled(-1), want.length);
        for (int i = 0; i < want.length; i++) {
            due("spilled(" + i + ")" + of, desk.spilled(i), want[i]);
        }
    }

    /** How many ROUNDS, SLOTS, NEW VALUES, INSTRUCTIONS of the CODE, MOVES left out. */
    static void dueRounds(String text, int k, int way, int... want) {
        Desk desk = Desk.of(text, k, way);
        for (int what = 0; what < want.length; what++) {
            due("rounds(" + what + ") of " + text + " under K " + k + ", WAY " + way, desk.rounds(what), want[what]);
        }
    }

    /** From a (4) on. */
    static void dueColours(String text, int k, int way, int... want) {
        Desk desk = Desk.of(text, k, way);
        for (int i = 0; i < want.length; i++) {
            due("colour(" + (4 + i) + ") of " + text + " under K " + k + ", WAY " + way, desk.colour(4 + i), want[i]);
        }
    }

    /** The CODE in letters, as a PROGRAM is told; a LOAD is <, a STORE >, behind it a REGISTER and a SLOT. */
    static void dueCode(String text, int k, int way, String want) {
        Desk desk = Desk.of(text, k, way);
        StringBuilder got = new StringBuilder();
        int count = desk.rounds(3);
        for (int i = 0; i < count; i++) {
            int kind = desk.code(i, 0);
            got.append("#=+-.@^<>".charAt(kind));
            for (int what = 1; what <= 3; what++) {
                int part = desk.code(i, what);
                boolean register = what == 1 ? kind != 5 : kind >= 1 && kind <= 3;
                boolean named = register && part >= 0 && part < 4;
                got.append(part == NONE ? "" : named ? "" + "ABCD".charAt(part) : register ? "?" + part : "" + part);
            }
        }
        if (!got.toString().equals(want)) {
            complain("the code of " + text + " under K " + k + ", WAY " + way + " is " + got + ", due is " + want);
        }
    }

    static void dueOuts(String text, int... want) {
        Desk desk = Desk.of(text, 3, 0);
        due("run(0) of " + text, desk.run(0), want.length);
        for (int i = 0; i < want.length; i++) {
            due("out(" + i + ") of " + text, desk.out(i), want[i]);
        }
        due("out behind the last of " + text, desk.out(want.length), NONE);
    }

    /** How many told, the DIGEST, STEPS, whether it ended; and so on, if more is wanted of the CODE. */
    static void dueRun(String text, int... want) {
        Desk desk = Desk.of(text, 3, 0);
        for (int what = 0; what < want.length; what++) {
            due("run(" + what + ") of " + text, desk.run(what), want[what]);
        }
    }

    static void dueSpent(String text, int k, int way, int... want) {
        Desk desk = Desk.of(text, k, way);
        for (int what = 0; what < want.length; what++) {
            due("spent(" + what + ") of " + text + " under K " + k + ", WAY " + way, desk.spent(what), want[what]);
        }
    }
}
