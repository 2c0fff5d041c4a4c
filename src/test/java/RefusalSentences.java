import java.util.ArrayList;
import java.util.List;

/** Each call that is refused, the first that fits of several refusals, and that nothing is changed by it. */
final class RefusalSentences extends Sentences {
    private static final String CHANGES_NOTHING = "They change nothing.";

    private interface Call {
        int on(Desk desk);
    }

    private RefusalSentences() {
    }

    static void all() {
        ofNumbers();
        ofPrograms();
        ofNeeds();
        ofRounds();
        ofNotKnown();
        ofRuns();
        firstThatFits();
    }

    /** A desk of which much can be asked: a spilled VALUE, an IMAGE, a PAD with a FAULT. */
    private static Desk known() {
        Desk desk = Desk.of("#A1.A", 4, 2);
        desk.image(0);
        return desk.loaded("#a1#b2#c3.a.b.c.c").said("#a").with(2, 1);
    }

    /** What comes of its ROUNDS is not known. */
    private static Desk notYetKnown() {
        return Desk.of("#a1.a.A.B", 2, 0).said("#a");
    }

    private static List<Integer> answers(Desk x) {
        List<Integer> all = new ArrayList<>();
        for (int i = 0; i < 6; i++) {
            all.add(x.told(i));
            all.add(x.spent(i));
            all.add(x.rounds(i));
            all.add(x.run(i));
        }
        for (int i = -1; i < 8; i++) {
            all.add(x.live(i));
            all.add(x.step(i));
            all.add(x.spilled(i));
            all.add(x.out(i));
            all.add(x.instruction(i, 0));
            all.add(x.instruction(i, 1));
            all.add(x.instruction(i, 2));
        }
        for (int name = 0; name < 8; name++) {
            all.add(x.edges(name));
            all.add(x.weight(name, 1));
            all.add(x.colour(name));
        }
        for (int i = 0; i < 12; i++) {
            all.add(x.code(i, 0));
            all.add(x.code(i, 1));
        }
        all.add(x.fault());
        all.add(x.say('7'));
        all.add(x.fault());
        all.add(x.restore(1));
        all.add(x.restore(0));
        for (int what = 0; what < 6; what++) {
            all.add(x.told(what));
        }
        all.add(x.load());
        all.add(x.instruction(0, 2));
        return all;
    }

    /** Once on a desk of which nothing was asked, once on one that has worked all out already. */
    private static void refused(int promise, String call, int want, Call made) {
        sentence(promise, CHANGES_NOTHING, () -> {
            Desk x = known();
            due(call, made.on(x), want);
            dueSame(call, answers(x), answers(known()));
            Desk y = known();
            y.spent(0);
            y.run(0);
            y.live(0);
            due(call, made.on(y), want);
            dueSame(call, answers(y), answers(known()));
        });
    }

    private static void refusedNotKnown(int promise, String call, int want, Call made) {
        sentence(promise, CHANGES_NOTHING, () -> {
            Desk x = notYetKnown();
            due(call, made.on(x), want);
            dueSame(call, answers(x), answers(notYetKnown()));
        });
    }

    private static void dueSame(String call, List<Integer> got, List<Integer> want) {
        for (int i = 0; i < want.size(); i++) {
            due("behind " + call + " answer " + i + " of all", got.get(i), want.get(i));
        }
    }

    private static void ofNumbers() {
        refused(2, "colours(1)", OUTSIDE, x -> x.colours(1));
        refused(2, "colours(5)", OUTSIDE, x -> x.colours(5));
        refused(2, "colours(least)", OUTSIDE, x -> x.colours(LEAST));
        refused(2, "colours(most)", OUTSIDE, x -> x.colours(MOST));
        refused(3, "way(-1)", OUTSIDE, x -> x.way(-1));
        refused(3, "way(3)", OUTSIDE, x -> x.way(3));
        refused(3, "way(least)", OUTSIDE, x -> x.way(LEAST));
        refused(3, "way(most)", OUTSIDE, x -> x.way(MOST));
    }

    private static void ofPrograms() {
        refused(4, "say(32)", OUTSIDE, x -> x.say(32));
        refused(4, "say(127)", OUTSIDE, x -> x.say(127));
        refused(4, "say(least)", OUTSIDE, x -> x.say(LEAST));
        refused(4, "say(most)", OUTSIDE, x -> x.say(MOST));
        sentence(4, CHANGES_NOTHING, () -> {
            Desk x = Desk.of(".l", 3, 0).said("@1".repeat(29) + "@9");
            due("say() on a full PAD", x.say('@'), FULL);
            due("told(0)", x.told(0), 60);
            due("told(1)", x.told(1), 1);
            due("load()", x.load(), 30);
            due("instruction(29, 1), the last sign stays", x.instruction(29, 1), 9);
        });
        refused(7, "load()", NO, x -> x.load());
        refused(8, "instruction(-1, 0)", UNKNOWN, x -> x.instruction(-1, 0));
        refused(8, "instruction(7, 0)", UNKNOWN, x -> x.instruction(7, 0));
        refused(8, "instruction(most, 0)", UNKNOWN, x -> x.instruction(MOST, 0));
        refused(8, "instruction(0, -1)", OUTSIDE, x -> x.instruction(0, -1));
        refused(8, "instruction(0, 4)", OUTSIDE, x -> x.instruction(0, 4));
        refused(8, "instruction(0, least)", OUTSIDE, x -> x.instruction(0, LEAST));
    }

    private static void ofNeeds() {
        refused(9, "live(-1)", UNKNOWN, x -> x.live(-1));
        refused(9, "live(7)", UNKNOWN, x -> x.live(7));
        refused(10, "edges(-1)", UNKNOWN, x -> x.edges(-1));
        refused(10, "edges(16)", UNKNOWN, x -> x.edges(16));
        refused(11, "weight(3, 1)", UNKNOWN, x -> x.weight(3, 1));
        refused(11, "weight(16, 1)", UNKNOWN, x -> x.weight(16, 1));
        refused(11, "weight(4, -1)", OUTSIDE, x -> x.weight(4, -1));
        refused(11, "weight(4, 2)", OUTSIDE, x -> x.weight(4, 2));
    }

    private static void ofRounds() {
        refused(14, "rounds(-1)", OUTSIDE, x -> x.rounds(-1));
        refused(14, "rounds(5)", OUTSIDE, x -> x.rounds(5));
        refused(15, "colour(3)", UNKNOWN, x -> x.colour(3));
        refused(15, "colour(16)", UNKNOWN, x -> x.colour(16));
        refused(16, "code(-1, 0)", UNKNOWN, x -> x.code(-1, 0));
        refused(16, "code(11, 0)", UNKNOWN, x -> x.code(11, 0));
        refused(16, "code(0, -1)", OUTSIDE, x -> x.code(0, -1));
        refused(16, "code(0, 4)", OUTSIDE, x -> x.code(0, 4));
    }

    private static void ofNotKnown() {
        refusedNotKnown(14, "rounds(0)", STATE, x -> x.rounds(0));
        refusedNotKnown(15, "colour(4)", STATE, x -> x.colour(4));
        refusedNotKnown(16, "code(0, 0)", STATE, x -> x.code(0, 0));
        refusedNotKnown(19, "spent(0)", STATE, x -> x.spent(0));
        refusedNotKnown(21, "restore(0)", STATE, x -> x.restore(0));
    }

    private static void ofRuns() {
        refused(17, "run(-1)", OUTSIDE, x -> x.run(-1));
        refused(17, "run(4)", OUTSIDE, x -> x.run(4));
        refused(19, "spent(-1)", OUTSIDE, x -> x.spent(-1));
        refused(19, "spent(6)", OUTSIDE, x -> x.spent(6));
        refused(20, "image(-1)", OUTSIDE, x -> x.image(-1));
        refused(20, "image(2)", OUTSIDE, x -> x.image(2));
        refused(21, "restore(-1)", OUTSIDE, x -> x.restore(-1));
        refused(21, "restore(2)", OUTSIDE, x -> x.restore(2));
        refused(21, "restore(1)", STATE, x -> x.restore(1));
        refused(22, "told(-1)", OUTSIDE, x -> x.told(-1));
        refused(22, "told(6)", OUTSIDE, x -> x.told(6));
        refused(22, "told(least)", OUTSIDE, x -> x.told(LEAST));
        refused(22, "told(most)", OUTSIDE, x -> x.told(MOST));
    }

    private static void first(int promise, String call, Desk desk, int want, Call made) {
        sentence(promise, "Calls that are refused answer, the first of these that fits", () -> due(call, made.on(desk), want));
    }

    private static void firstThatFits() {
        first(4, "say(32) on a full PAD", new Desk().said("@1".repeat(30)), OUTSIDE, x -> x.say(32));
        first(8, "instruction(7, 4)", known(), UNKNOWN, x -> x.instruction(7, 4));
        first(8, "instruction(-1, -1)", known(), UNKNOWN, x -> x.instruction(-1, -1));
        first(11, "weight(3, 2)", known(), UNKNOWN, x -> x.weight(3, 2));
        first(11, "weight(16, -1)", known(), UNKNOWN, x -> x.weight(16, -1));
        first(14, "rounds(5), not known", notYetKnown(), OUTSIDE, x -> x.rounds(5));
        first(14, "rounds(-1), not known", notYetKnown(), OUTSIDE, x -> x.rounds(-1));
        first(15, "colour(3), not known", notYetKnown(), UNKNOWN, x -> x.colour(3));
        first(15, "colour(16), not known", notYetKnown(), UNKNOWN, x -> x.colour(16));
        first(19, "spent(6), not known", notYetKnown(), OUTSIDE, x -> x.spent(6));
        first(21, "restore(2), none was kept", new Desk(), OUTSIDE, x -> x.restore(2));
        sentence(16, "in this order", () -> {
            due("code(11, 4)", known().code(11, 4), UNKNOWN);
            due("code(-1, -1)", known().code(-1, -1), UNKNOWN);
            due("code(-1, 0), not known", notYetKnown().code(-1, 0), STATE);
            due("code(0, 4), not known", notYetKnown().code(0, 4), STATE);
        });
        sentence(1, "UNKNOWN -1", () -> {
            due("UNKNOWN", constant("UNKNOWN"), -1);
            due("OUTSIDE", constant("OUTSIDE"), -2);
            due("NO", constant("NO"), -5);
            due("STATE", constant("STATE"), -3);
            due("FULL", constant("FULL"), -4);
            due("NONE", constant("NONE"), -6);
        });
    }

    /** Asked for at run time, for a constant that is named is copied when a test is compiled. */
    private static int constant(String name) {
        try {
            return RegisterDesk.class.getField(name).getInt(null);
        } catch (ReflectiveOperationException missing) {
            throw new IllegalStateException(missing);
        }
    }
}
