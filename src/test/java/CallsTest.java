import java.util.ArrayList;
import java.util.List;
import java.util.Random;
import java.util.TreeMap;
import java.util.TreeSet;

/**
 * Calls in any order on one object, 512 of them, wrong ones among them, each answer held against
 * ModelDesk: one PROGRAM behind another, under another K and WAY, out of IMAGES. So nothing that was
 * worked out for what is no more may ever be answered.
 */
public final class CallsTest {
    private static final int OBJECTS = 1500;
    private static final int[] ODD = {-2, -1, 0, 1, 2, 3, 4, 5, 6, 15, 16, 32, 33, 63, 64, 90, 126, 127, Integer.MIN_VALUE, Integer.MAX_VALUE};
    // Promise 1 is what a new object answers to all of them.
    private static final List<String> NAMES = List.of("colours", "way", "say", "wipe", "fault", "load", "instruction", "live", "edges",
        "weight", "step", "spilled", "rounds", "colour", "code", "run", "out", "spent", "image", "restore", "told");

    private record Call(String name, int a, int b) {
        int of(Desk x) {
            return switch (name) {
                case "colours" -> x.colours(a);
                case "way" -> x.way(a);
                case "say" -> x.say(a);
                case "wipe" -> x.wipe();
                case "fault" -> x.fault();
                case "load" -> x.load();
                case "instruction" -> x.instruction(a, b);
                case "live" -> x.live(a);
                case "edges" -> x.edges(a);
                case "weight" -> x.weight(a, b);
                case "step" -> x.step(a);
                case "spilled" -> x.spilled(a);
                case "rounds" -> x.rounds(a);
                case "colour" -> x.colour(a);
                case "code" -> x.code(a, b);
                case "run" -> x.run(a);
                case "out" -> x.out(a);
                case "spent" -> x.spent(a);
                case "image" -> x.image(a);
                case "restore" -> x.restore(a);
                default -> x.told(a);
            };
        }

        int of(ModelDesk x) {
            return switch (name) {
                case "colours" -> x.colours(a);
                case "way" -> x.way(a);
                case "say" -> x.say(a);
                case "wipe" -> x.wipe();
                case "fault" -> x.fault();
                case "load" -> x.load();
                case "instruction" -> x.instruction(a, b);
                case "live" -> x.live(a);
                case "edges" -> x.edges(a);
                case "weight" -> x.weight(a, b);
                case "step" -> x.step(a);
                case "spilled" -> x.spilled(a);
                case "rounds" -> x.rounds(a);
                case "colour" -> x.colour(a);
                case "code" -> x.code(a, b);
                case "run" -> x.run(a);
                case "out" -> x.out(a);
                case "spent" -> x.spent(a);
                case "image" -> x.image(a);
                case "restore" -> x.restore(a);
                default -> x.told(a);
            };
        }
    }

    private final Random random;
    private final TreeMap<String, Integer> answered = new TreeMap<>();
    private final TreeSet<Integer> broken = new TreeSet<>();
    private final List<String> complaints = new ArrayList<>();

    private CallsTest(long seed) {
        random = new Random(seed);
    }

    /** Mostly a number that means something to some call, now and then any. */
    private int number(int most) {
        return random.nextInt(8) == 0 ? ODD[random.nextInt(ODD.length)] : random.nextInt(most + 3) - 1;
    }

    private Call ask() {
        String name = NAMES.get(6 + random.nextInt(NAMES.size() - 6));
        return switch (name) {
            case "instruction" -> new Call(name, number(20), number(3));
            case "weight" -> new Call(name, number(14), number(1));
            case "code" -> new Call(name, number(30), number(3));
            case "live", "step", "out" -> new Call(name, number(20), 0);
            case "edges", "colour" -> new Call(name, number(15), 0);
            // Seldom, or hardly anything but the empty PROGRAM of the first calls would be asked about.
            case "restore" -> random.nextInt(4) == 0 ? new Call(name, number(1), 0) : new Call("out", number(4), 0);
            case "image" -> new Call(name, number(1), 0);
            default -> new Call(name, number(5), 0);
        };
    }

    /** What an object is called next: signs of a PROGRAM on end, then questions and changes. */
    private void addSome(List<Call> calls) {
        int kind = random.nextInt(10);
        if (kind < 3) {
            String text = ModelTest.program(random);
            for (int i = 0; i < text.length(); i++) {
                calls.add(new Call("say", text.charAt(i), 0));
            }
            if (random.nextInt(4) == 0) {
                calls.add(new Call("say", 31 + random.nextInt(98), 0));
                calls.add(new Call("fault", 0, 0));
            }
            calls.add(new Call("load", 0, 0));
            calls.add(new Call("told", 0, 0));
            calls.add(new Call("wipe", 0, 0));
        } else if (kind < 5) {
            calls.add(new Call("colours", random.nextInt(5) + 1, 0));
            calls.add(new Call("way", random.nextInt(5) - 1, 0));
        } else {
            for (int i = 0; i < 20; i++) {
                calls.add(ask());
            }
        }
    }

    private void useOne(int object) {
        Desk desk = new Desk();
        ModelDesk model = new ModelDesk();
        List<Call> calls = new ArrayList<>();
        while (calls.size() < Desk.MOST_CALLS) {
            addSome(calls);
        }
        for (int i = 0; i < Desk.MOST_CALLS; i++) {
            Call call = calls.get(i);
            int want = call.of(model);
            int got = call.of(desk);
            answered.merge(call.name + (want >= 0 ? " answers" : " " + want), 1, Integer::sum);
            if (got != want) {
                broken.add(NAMES.indexOf(call.name) + 2);
                complaints.add("object " + object + ", call " + i + ": " + call + " answered " + got + ", due is " + want);
                // What follows would only tell of the same fault.
                return;
            }
        }
    }

    private void useAll(int objects) {
        for (int object = 0; object < objects && complaints.size() < 40; object++) {
            useOne(object);
        }
    }

    public static void main(String[] args) {
        CallsTest test = new CallsTest(args.length > 1 ? Long.parseLong(args[1]) : 20261118L);
        test.useAll(args.length > 0 ? Integer.parseInt(args[0]) : OBJECTS);
        test.complaints.forEach(System.out::println);
        boolean all = true;
        for (String must : List.of("colours -2", "way -2", "say -2", "say -4", "load -5", "instruction -1", "instruction -2", "instruction -6",
                "live -1", "edges -1", "weight -1", "weight -2", "step -6", "spilled -6", "rounds -2", "rounds -3", "colour -1", "colour -3",
                "colour -6", "code -1", "code -2", "code -3", "code -6", "run -2", "out -6", "spent -2", "spent -3", "image -2", "restore -2",
                "restore -3", "told -2", "fault -6", "fault answers")) {
            if (!test.answered.containsKey(must)) {
                all = false;
                System.out.println("no call came to: " + must);
            }
        }
        System.out.println(test.answered);
        System.out.println(test.complaints.isEmpty() ? "all answers are those of the model" : "promises that are broken: " + test.broken);
        if (!all || !test.complaints.isEmpty()) {
            System.exit(1);
        }
    }
}
