import java.util.List;
import java.util.Random;
import java.util.TreeMap;
import java.util.TreeSet;

/** Programs made by a seeded source, each answer of RegisterDesk held against that of Model. */
public final class ModelTest {
    private static final int PROGRAMS = 6000;
    private static int wrong = 0;
    private static String about = "";
    private static final TreeMap<String, Integer> seen = new TreeMap<>();

    private static void due(String call, long got, long want) {
        if (got != want) {
            wrong++;
            if (wrong <= 40) {
                System.out.println(about + ": " + call + " answered " + got + ", due is " + want);
            }
        }
    }

    private static void count(String what) {
        seen.merge(what, 1, Integer::sum);
    }

    private static char pick(Random random, String from) {
        return from.charAt(random.nextInt(from.length()));
    }

    /** The first half makes many values that are all needed late, so that registers are short. */
    static String program(Random random) {
        String values = "abcdefghijkl".substring(0, 2 + random.nextInt(11));
        String registers = "ABCD".substring(0, random.nextInt(5));
        String names = random.nextInt(3) == 0 ? values + registers : random.nextInt(2) == 0 ? values + values + registers : values;
        String figures = random.nextInt(2) == 0 ? "0" : "0123";
        String kinds = List.of("#=+-.@^", "##==++--..@^", "=====+.^@#", "+++++..#", "#...", "=.=.=+").get(random.nextInt(6));
        int most = 4 + random.nextInt(57);
        StringBuilder text = new StringBuilder();
        if (random.nextBoolean()) {
            int sets = random.nextInt(values.length() + 1);
            for (int i = 0; i < sets && text.length() + 3 <= most; i++) {
                text.append('#').append(values.charAt(i)).append(random.nextInt(10));
            }
        }
        while (true) {
            StringBuilder one = new StringBuilder();
            char kind = pick(random, kinds);
            one.append(kind);
            if (kind == '@') {
                one.append(pick(random, figures));
            } else {
                one.append(pick(random, names));
            }
            if (kind == '=' || kind == '+' || kind == '-') {
                one.append(pick(random, names));
            }
            if (kind == '+') {
                one.append(pick(random, names));
            }
            if (kind == '#') {
                one.append(random.nextInt(10));
            }
            if (kind == '^') {
                one.append(pick(random, figures));
            }
            if (text.length() + one.length() > most) {
                return text.toString();
            }
            text.append(one);
        }
    }

    private static int bits(Iterable<Integer> names) {
        int bits = 0;
        for (int n : names) {
            bits |= 1 << n;
        }
        return bits;
    }

    /** What a desk is made from: a program, a K and a WAY, and others that were set ahead of them. */
    private record Case(String text, int oldK, int oldWay, int k, int way) {
        /** A new one, for each object is used for 512 calls alone. */
        Desk desk() {
            Desk desk = new Desk().with(oldK, oldWay);
            for (int i = 0; i < text.length(); i++) {
                due("say", desk.say(text.charAt(i)), i + 1);
            }
            due("fault()", desk.fault(), -6);
            due("load()", desk.load() < 0 ? 0 : 1, 1);
            if (oldK != k || oldWay != way) {
                // Something is worked out first, so that nothing old is answered.
                desk.step(0);
                desk.spent(0);
                due("colours", desk.colours(k), oldK);
                due("way", desk.way(way), oldWay);
            }
            return desk;
        }
    }

    private static void checkProgram(Desk desk, List<Model.Ins> list, int way) {
        due("told(1)", desk.told(1), list.size());
        due("told(4)", desk.told(4), bits(Model.names(list)));
        due("told(5)", desk.told(5), list.stream().filter(x -> x.kind() == 1).count());
        for (int i = 0; i < list.size(); i++) {
            Model.Ins ins = list.get(i);
            due("instruction(" + i + ", 0)", desk.instruction(i, 0), ins.kind());
            due("instruction(" + i + ", 1)", desk.instruction(i, 1), ins.a());
            due("instruction(" + i + ", 2)", desk.instruction(i, 2), ins.b());
            due("instruction(" + i + ", 3)", desk.instruction(i, 3), ins.c());
            due("live(" + i + ")", desk.live(i), bits(Model.live(list, i)));
        }
        TreeMap<Integer, TreeSet<Integer>> edges = Model.edges(list);
        for (int n = 0; n < 16; n++) {
            due("edges(" + n + ")", desk.edges(n), bits(edges.get(n)));
        }
        for (int v = 4; v < 16; v++) {
            int cost = Model.cost(list, v);
            due("weight(" + v + ", 0)", desk.weight(v, 0), cost);
            due("weight(" + v + ", 1)", desk.weight(v, 1), Float.floatToIntBits(Model.weight(way, cost, edges.get(v).size())));
        }
    }

    private static void checkRounds(Desk desk, Model model) {
        due("step(-1)", desk.step(-1), model.steps.size());
        for (int i = 0; i < model.steps.size(); i++) {
            due("step(" + i + ")", desk.step(i), model.steps.get(i));
            count("step " + model.steps.get(i) / 100);
        }
        due("step(end)", desk.step(model.steps.size()), -6);
        due("spilled(-1)", desk.spilled(-1), model.spilledFirst.size());
        for (int i = 0; i < model.spilledFirst.size(); i++) {
            due("spilled(" + i + ")", desk.spilled(i), model.spilledFirst.get(i));
        }
        due("spilled(end)", desk.spilled(model.spilledFirst.size()), -6);
        if (model.unknownBecause != null) {
            count("unknown: " + model.unknownBecause);
            for (int what = 0; what < 5; what++) {
                due("rounds(" + what + ")", desk.rounds(what), -3);
            }
            for (int v = 4; v < 16; v++) {
                due("colour(" + v + ")", desk.colour(v), -3);
            }
            due("code(0, 0)", desk.code(0, 0), -3);
            due("spent(0)", desk.spent(0), -3);
            return;
        }
        count("rounds " + model.rounds);
        due("rounds(0)", desk.rounds(0), model.rounds);
        due("rounds(1)", desk.rounds(1), model.slots);
        due("rounds(2)", desk.rounds(2), model.newValues);
        due("rounds(3)", desk.rounds(3), model.code.size());
        due("rounds(4)", desk.rounds(4), model.leftOut);
        for (int v = 4; v < 16; v++) {
            due("colour(" + v + ")", desk.colour(v), model.colour(v));
        }
        for (int i = 0; i < model.code.size(); i++) {
            Model.Ins ins = model.code.get(i);
            due("code(" + i + ", 0)", desk.code(i, 0), ins.kind());
            due("code(" + i + ", 1)", desk.code(i, 1), ins.a());
            due("code(" + i + ", 2)", desk.code(i, 2), ins.b());
            due("code(" + i + ", 3)", desk.code(i, 3), ins.c());
        }
        due("code(end, 0)", desk.code(model.code.size(), 0), -1);
    }

    private static void checkRuns(Case made, Model model) {
        Desk desk = made.desk();
        Model.Run run = new Model.Run(model.program, 500);
        due("run(0)", desk.run(0), run.told.size());
        due("run(1)", desk.run(1), run.digest);
        due("run(2)", desk.run(2), run.steps);
        due("run(3)", desk.run(3), run.ended ? 1 : 0);
        for (int i = 0; i < run.told.size(); i++) {
            desk = desk.callsLeft() > 0 ? desk : made.desk();
            due("out(" + i + ")", desk.out(i), run.told.get(i));
        }
        desk = made.desk();
        due("out(end)", desk.out(run.told.size()), -6);
        if (model.unknownBecause != null) {
            return;
        }
        Model.Run spent = new Model.Run(model.code, 2000);
        due("spent(0)", desk.spent(0), spent.told.size());
        due("spent(1)", desk.spent(1), spent.digest);
        due("spent(2)", desk.spent(2), spent.steps);
        due("spent(3)", desk.spent(3), spent.ended ? 1 : 0);
        due("spent(4)", desk.spent(4), spent.loads);
        due("spent(5)", desk.spent(5), spent.stores);
        // "the program runs as before": sure where nothing is read that was never written.
        if (run.ended && startsClean(model.program)) {
            count("runs as before");
            due("told by the code", desk.spent(0), desk.run(0));
            due("digest of the code", desk.spent(1), desk.run(1));
            if (desk.rounds(0) > 1 && desk.spent(4) > 0) {
                count("runs as before, with slots");
            }
        }
    }

    private static boolean startsClean(List<Model.Ins> list) {
        List<Model.Ins> behindNothing = new java.util.ArrayList<>(list);
        behindNothing.add(0, new Model.Ins(5, 99, -6, -6));
        return Model.live(behindNothing, 0).isEmpty();
    }

    private static void check(Case made) {
        about = made.toString();
        List<Model.Ins> list = Model.parse(made.text);
        Model model = new Model(list, made.k, made.way);
        checkProgram(made.desk(), list, made.way);
        checkRounds(made.desk(), model);
        checkRuns(made, model);
    }

    public static void main(String[] args) {
        int programs = args.length > 0 ? Integer.parseInt(args[0]) : PROGRAMS;
        Random random = new Random(args.length > 1 ? Long.parseLong(args[1]) : 20261117L);
        for (int p = 0; p < programs && wrong < 200; p++) {
            String text = program(random);
            int k = 2 + random.nextInt(3);
            int way = random.nextInt(3);
            check(new Case(text, k, way, k, way));
            check(new Case(text, k, way, 2 + random.nextInt(3), random.nextInt(3)));
        }
        System.out.println(seen);
        for (String must : List.of("step 1", "step 2", "step 3", "step 4", "step 5", "unknown: rounds",
                "rounds 1", "rounds 2", "rounds 3", "rounds 4", "runs as before, with slots")) {
            if (!seen.containsKey(must)) {
                wrong++;
                System.out.println("no program came to: " + must);
            }
        }
        System.out.println(wrong == 0 ? "all answers are those of the model" : wrong + " answers are not those of the model");
        if (wrong != 0) {
            System.exit(1);
        }
    }
}
