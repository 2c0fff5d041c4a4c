import java.util.List;
import java.util.regex.Matcher;
import java.util.regex.Pattern;

/**
 * The whole face once more, over Model: what an object holds from call to call (the PAD, the
 * PROGRAM, K, the WAY, both IMAGES), and which refusal comes first. Everything is worked out from
 * what is held now, so that nothing old can be answered.
 */
final class ModelDesk {
    static final int NONE = -6, UNKNOWN = -1, OUTSIDE = -2, STATE = -3, FULL = -4, NO = -5;

    private static final Pattern PROGRAM = Pattern.compile(
        "(?:#[A-Da-l][0-9]|=[A-Da-l]{2}|\\+[A-Da-l]{3}|-[A-Da-l]{2}|\\.[A-Da-l]|@[0-9]|\\^[A-Da-l][0-9])*");

    /** All but the PAD. */
    private record Held(List<Model.Ins> program, int k, int way) { }

    private final StringBuilder pad = new StringBuilder();
    private final Held[] images = new Held[2];
    private Held held = new Held(List.of(), 3, 0);
    // The model of what is held, so that it is not made for each call; told by the very record.
    private Held workedOut = null;
    private Model worked = null;

    private Model model() {
        if (workedOut != held) {
            worked = new Model(held.program, held.k, held.way);
            workedOut = held;
        }
        return worked;
    }

    private boolean known() {
        return model().unknownBecause == null;
    }

    int colours(int k) {
        if (k < 2 || k > 4) {
            return OUTSIDE;
        }
        int was = held.k;
        held = new Held(held.program, k, held.way);
        return was;
    }

    int way(int w) {
        if (w < 0 || w > 2) {
            return OUTSIDE;
        }
        int was = held.way;
        held = new Held(held.program, held.k, w);
        return was;
    }

    int say(int sign) {
        if (sign < 33 || sign > 126) {
            return OUTSIDE;
        }
        if (pad.length() == 60) {
            return FULL;
        }
        pad.append((char) sign);
        return pad.length();
    }

    int wipe() {
        int was = pad.length();
        pad.setLength(0);
        return was;
    }

    /** A sign can stand where it does, if something could follow that makes all a PROGRAM. */
    int fault() {
        for (int place = 0; place < pad.length(); place++) {
            Matcher upToHere = PROGRAM.matcher(pad.substring(0, place + 1));
            if (!upToHere.matches() && !upToHere.hitEnd()) {
                return place;
            }
        }
        return PROGRAM.matcher(pad).matches() ? NONE : pad.length();
    }

    int load() {
        if (fault() != NONE) {
            return NO;
        }
        held = new Held(Model.parse(pad.toString()), held.k, held.way);
        pad.setLength(0);
        return held.program.size();
    }

    private static int part(List<Model.Ins> list, int i, int what) {
        Model.Ins ins = list.get(i);
        return List.of(ins.kind(), ins.a(), ins.b(), ins.c()).get(what);
    }

    private static boolean isIn(List<Model.Ins> list, int i) {
        return i >= 0 && i < list.size();
    }

    private static int bits(Iterable<Integer> names) {
        int bits = 0;
        for (int name : names) {
            bits |= 1 << name;
        }
        return bits;
    }

    int instruction(int i, int what) {
        if (!isIn(held.program, i)) {
            return UNKNOWN;
        }
        return what < 0 || what > 3 ? OUTSIDE : part(held.program, i, what);
    }

    int live(int i) {
        return isIn(held.program, i) ? bits(Model.live(held.program, i)) : UNKNOWN;
    }

    int edges(int name) {
        return name < 0 || name > 15 ? UNKNOWN : bits(Model.edges(held.program).get(name));
    }

    int weight(int value, int what) {
        if (value < 4 || value > 15) {
            return UNKNOWN;
        }
        if (what < 0 || what > 1) {
            return OUTSIDE;
        }
        int cost = Model.cost(held.program, value);
        int neighbours = Model.edges(held.program).get(value).size();
        return what == 0 ? cost : Float.floatToIntBits(Model.weight(held.way, cost, neighbours));
    }

    private static int told(List<Integer> list, int i) {
        return i == -1 ? list.size() : i >= 0 && i < list.size() ? list.get(i) : NONE;
    }

    int step(int i) {
        return told(model().steps, i);
    }

    int spilled(int i) {
        return told(model().spilledFirst, i);
    }

    int rounds(int what) {
        if (what < 0 || what > 4) {
            return OUTSIDE;
        }
        Model model = model();
        return !known() ? STATE : List.of(model.rounds, model.slots, model.newValues, model.code.size(), model.leftOut).get(what);
    }

    int colour(int value) {
        if (value < 4 || value > 15) {
            return UNKNOWN;
        }
        return known() ? model().colour(value) : STATE;
    }

    int code(int i, int what) {
        if (!known()) {
            return STATE;
        }
        if (!isIn(model().code, i)) {
            return UNKNOWN;
        }
        return what < 0 || what > 3 ? OUTSIDE : part(model().code, i, what);
    }

    private static int answer(Model.Run run, int what) {
        return List.of(run.told.size(), (int) run.digest, run.steps, run.ended ? 1 : 0, run.loads, run.stores).get(what);
    }

    int run(int what) {
        return what < 0 || what > 3 ? OUTSIDE : answer(new Model.Run(held.program, 500), what);
    }

    int out(int i) {
        List<Integer> told = new Model.Run(held.program, 500).told;
        return i >= 0 && i < told.size() ? told.get(i) : NONE;
    }

    int spent(int what) {
        if (what < 0 || what > 5) {
            return OUTSIDE;
        }
        return known() ? answer(new Model.Run(model().code, 2000), what) : STATE;
    }

    int image(int n) {
        if (n < 0 || n > 1) {
            return OUTSIDE;
        }
        images[n] = held;
        return 1;
    }

    int restore(int n) {
        if (n < 0 || n > 1) {
            return OUTSIDE;
        }
        if (images[n] == null) {
            return STATE;
        }
        held = images[n];
        return 1;
    }

    int told(int what) {
        if (what < 0 || what > 5) {
            return OUTSIDE;
        }
        int moves = (int) held.program.stream().filter(ins -> ins.kind() == 1).count();
        return List.of(pad.length(), held.program.size(), held.k, held.way, bits(Model.names(held.program)), moves).get(what);
    }
}
