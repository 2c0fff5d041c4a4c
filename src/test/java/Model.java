import java.util.ArrayDeque;
import java.util.ArrayList;
import java.util.Deque;
import java.util.HashMap;
import java.util.List;
import java.util.Map;
import java.util.TreeMap;
import java.util.TreeSet;

/**
 * The document's words once more, written plainly and apart from RegisterDesk: sets instead of
 * bits, a search along ways instead of rounds from behind, neighbours found anew each time they
 * are asked for, and floats of the machine.
 */
final class Model {
    static final int NONE = -6;

    record Ins(int kind, int a, int b, int c) {
        List<Integer> reads() {
            return switch (kind) {
                case 1, 3 -> List.of(b);
                case 2 -> List.of(b, c);
                case 4, 6, 8 -> List.of(a);
                default -> List.of();
            };
        }

        int write() {
            return switch (kind) {
                case 0, 1, 2, 3, 7 -> a;
                default -> NONE;
            };
        }
    }

    final List<Ins> program;
    final int k;
    final int way;

    final List<Integer> steps = new ArrayList<>();
    final List<Integer> spilledFirst = new ArrayList<>();
    final Map<Integer, Integer> slotOf = new HashMap<>();
    final List<Ins> code = new ArrayList<>();
    Map<Integer, Integer> registers = new HashMap<>();
    String unknownBecause = null;
    int rounds = 0;
    int slots = 0;
    int newValues = 0;
    int leftOut = 0;

    Model(List<Ins> program, int k, int way) {
        this.program = program;
        this.k = k;
        this.way = way;
        allot();
    }

    static int name(char sign) {
        int at = "ABCDabcdefghijkl".indexOf(sign);
        if (at < 0) {
            throw new IllegalStateException("no name: " + sign);
        }
        return at;
    }

    static List<Ins> parse(String text) {
        List<Ins> list = new ArrayList<>();
        int i = 0;
        while (i < text.length()) {
            char sign = text.charAt(i);
            switch (sign) {
                case '#' -> list.add(new Ins(0, name(text.charAt(i + 1)), text.charAt(i + 2) - '0', NONE));
                case '=' -> list.add(new Ins(1, name(text.charAt(i + 1)), name(text.charAt(i + 2)), NONE));
                case '+' -> list.add(new Ins(2, name(text.charAt(i + 1)), name(text.charAt(i + 2)), name(text.charAt(i + 3))));
                case '-' -> list.add(new Ins(3, name(text.charAt(i + 1)), name(text.charAt(i + 2)), NONE));
                case '.' -> list.add(new Ins(4, name(text.charAt(i + 1)), NONE, NONE));
                case '@' -> list.add(new Ins(5, text.charAt(i + 1) - '0', NONE, NONE));
                case '^' -> list.add(new Ins(6, name(text.charAt(i + 1)), text.charAt(i + 2) - '0', NONE));
                default -> throw new IllegalStateException("no instruction: " + sign);
            }
            i += sign == '+' ? 4 : sign == '.' || sign == '@' ? 2 : 3;
        }
        return list;
    }

    static int target(List<Ins> list, Ins jump) {
        for (int i = 0; i < list.size(); i++) {
            if (list.get(i).kind == 5 && list.get(i).a == jump.b) {
                return i;
            }
        }
        return NONE;
    }

    private static List<Integer> successors(List<Ins> list, int i) {
        List<Integer> next = new ArrayList<>();
        if (i + 1 < list.size()) {
            next.add(i + 1);
        }
        if (list.get(i).kind == 6 && target(list, list.get(i)) >= 0) {
            next.add(target(list, list.get(i)));
        }
        return next;
    }

    static TreeSet<Integer> names(List<Ins> list) {
        TreeSet<Integer> names = new TreeSet<>();
        for (Ins ins : list) {
            names.addAll(ins.reads());
            if (ins.write() >= 0) {
                names.add(ins.write());
            }
        }
        return names;
    }

    /** Walks every way from behind an instruction until the name is read or written. */
    private static boolean needed(List<Ins> list, int i, int name) {
        boolean[] seen = new boolean[list.size()];
        Deque<Integer> open = new ArrayDeque<>(successors(list, i));
        while (!open.isEmpty()) {
            int at = open.pop();
            if (seen[at]) {
                continue;
            }
            seen[at] = true;
            if (list.get(at).reads().contains(name)) {
                return true;
            }
            if (list.get(at).write() != name) {
                open.addAll(successors(list, at));
            }
        }
        return false;
    }

    static TreeSet<Integer> live(List<Ins> list, int i) {
        TreeSet<Integer> live = new TreeSet<>();
        for (int name : names(list)) {
            if (needed(list, i, name)) {
                live.add(name);
            }
        }
        return live;
    }

    static TreeMap<Integer, TreeSet<Integer>> edges(List<Ins> list) {
        TreeMap<Integer, TreeSet<Integer>> edges = new TreeMap<>();
        for (int n = 0; n < 64; n++) {
            edges.put(n, new TreeSet<>());
        }
        for (int r = 0; r < 4; r++) {
            for (int s = 0; s < 4; s++) {
                if (r != s) {
                    edges.get(r).add(s);
                }
            }
        }
        for (int i = 0; i < list.size(); i++) {
            Ins ins = list.get(i);
            if (ins.write() < 0) {
                continue;
            }
            for (int other : live(list, i)) {
                if (other != ins.write() && !(ins.kind == 1 && other == ins.b)) {
                    edges.get(ins.write()).add(other);
                    edges.get(other).add(ins.write());
                }
            }
        }
        return edges;
    }

    static int cost(List<Ins> list, int value) {
        if (value >= 16) {
            return 10000;
        }
        int cost = 0;
        for (int i = 0; i < list.size(); i++) {
            boolean loop = false;
            for (int j = i; j < list.size(); j++) {
                if (list.get(j).kind == 6) {
                    int to = target(list, list.get(j));
                    loop |= to >= 0 && to <= i;
                }
            }
            int times = list.get(i).write() == value ? 1 : 0;
            for (int read : list.get(i).reads()) {
                times += read == value ? 1 : 0;
            }
            cost += times * (loop ? 10 : 1);
        }
        return cost;
    }

    static float weight(int way, int cost, int neighbours) {
        float by = neighbours == 0 ? 1f : (float) neighbours;
        return way == 0 ? (float) cost / by : way == 1 ? (float) cost : 1f / by;
    }

    /** One round on one list; nodes are known by their least name. */
    private final class Round {
        final List<Ins> list;
        final TreeMap<Integer, TreeSet<Integer>> base;
        final TreeMap<Integer, TreeSet<Integer>> members = new TreeMap<>();
        final TreeSet<Integer> gone = new TreeSet<>();
        final List<Ins> moves = new ArrayList<>();
        final TreeSet<Integer> open = new TreeSet<>();
        final List<Integer> taken = new ArrayList<>();
        final Map<Integer, TreeSet<Integer>> met = new HashMap<>();
        final List<Integer> told = new ArrayList<>();
        final TreeSet<Integer> spilled = new TreeSet<>();
        final Map<Integer, Integer> found = new HashMap<>();

        Round(List<Ins> list) {
            this.list = list;
            base = edges(list);
            for (int r = 0; r < 4; r++) {
                members.put(r, new TreeSet<>(List.of(r)));
            }
            for (int n : names(list)) {
                members.put(n, new TreeSet<>(List.of(n)));
            }
            for (Ins ins : list) {
                if (ins.kind == 1) {
                    open.add(moves.size());
                    moves.add(ins);
                }
            }
        }

        int node(int name) {
            for (Map.Entry<Integer, TreeSet<Integer>> e : members.entrySet()) {
                if (e.getValue().contains(name)) {
                    return e.getKey();
                }
            }
            throw new IllegalStateException("no node of " + name);
        }

        TreeSet<Integer> near(int node) {
            TreeSet<Integer> near = new TreeSet<>();
            for (int member : members.get(node)) {
                for (int other : base.get(member)) {
                    near.add(node(other));
                }
            }
            near.removeAll(gone);
            near.remove(node);
            return near;
        }

        List<Integer> valuesLeft() {
            List<Integer> values = new ArrayList<>();
            for (int n : members.keySet()) {
                if (n >= 4 && !gone.contains(n)) {
                    values.add(n);
                }
            }
            return values;
        }

        boolean low(int node) {
            return node >= 4 && near(node).size() < k;
        }

        boolean inMove(int node, int m) {
            return node(moves.get(m).a) == node || node(moves.get(m).b) == node;
        }

        boolean moved(int node) {
            return open.stream().anyMatch(m -> inMove(node, m));
        }

        void take(int node) {
            met.put(node, near(node));
            gone.add(node);
            taken.add(node);
        }

        boolean safe(int x, int y) {
            int less = Math.min(x, y);
            int more = Math.max(x, y);
            if (less < 4) {
                for (int n : near(more)) {
                    if (!(low(n) || n < 4 || near(less).contains(n))) {
                        return false;
                    }
                }
                return true;
            }
            TreeSet<Integer> all = new TreeSet<>(near(x));
            all.addAll(near(y));
            int many = 0;
            for (int n : all) {
                int has = near(n).size();
                if (near(x).contains(n) && near(y).contains(n)) {
                    has--;
                }
                if (n < 4 || has >= k) {
                    many++;
                }
            }
            return many < k;
        }

        boolean first() {
            for (int v : valuesLeft()) {
                if (low(v) && !moved(v)) {
                    take(v);
                    told.add(100 + v);
                    return true;
                }
            }
            return false;
        }

        boolean second() {
            for (int m : new ArrayList<>(open)) {
                int x = node(moves.get(m).a);
                int y = node(moves.get(m).b);
                if (x == y || x < 4 && y < 4 || near(x).contains(y)) {
                    open.remove(m);
                    told.add(200 + m);
                    return true;
                }
                if (safe(x, y)) {
                    open.remove(m);
                    members.get(Math.min(x, y)).addAll(members.remove(Math.max(x, y)));
                    told.add(300 + m);
                    return true;
                }
            }
            return false;
        }

        boolean third() {
            for (int v : valuesLeft()) {
                if (low(v)) {
                    open.removeIf(m -> inMove(v, m));
                    told.add(400 + v);
                    return true;
                }
            }
            return false;
        }

        void fourth() {
            int best = NONE;
            float least = 0f;
            for (int v : valuesLeft()) {
                int cost = 0;
                for (int member : members.get(v)) {
                    cost += cost(list, member);
                }
                float weight = weight(way, cost, near(v).size());
                if (best < 0 || weight < least) {
                    best = v;
                    least = weight;
                }
            }
            int v = best;
            open.removeIf(m -> inMove(v, m));
            take(v);
            told.add(500 + v);
        }

        void play() {
            while (!valuesLeft().isEmpty()) {
                if (!first() && !second() && !third()) {
                    fourth();
                }
            }
            for (int r = 0; r < 4; r++) {
                found.put(r, r);
            }
            for (int i = taken.size() - 1; i >= 0; i--) {
                TreeSet<Integer> free = new TreeSet<>();
                for (int r = 0; r < k; r++) {
                    free.add(r);
                }
                for (int n : met.get(taken.get(i))) {
                    Integer r = found.get(node(n));
                    if (r != null) {
                        free.remove(r);
                    }
                }
                if (free.isEmpty()) {
                    spilled.add(taken.get(i));
                } else {
                    found.put(taken.get(i), free.first());
                }
            }
        }
    }

    private void allot() {
        List<Ins> list = program;
        while (true) {
            if (rounds == 6) {
                unknownBecause = "rounds";
                return;
            }
            Round round = new Round(list);
            round.play();
            rounds++;
            if (rounds == 1) {
                steps.addAll(round.told);
                spilledFirst.addAll(round.spilled);
            }
            if (round.spilled.isEmpty()) {
                finish(list, round);
                return;
            }
            Map<Integer, Integer> inSlot = new HashMap<>();
            for (int node : round.spilled) {
                for (int member : round.members.get(node)) {
                    inSlot.put(member, slots);
                }
                slots++;
            }
            slotOf.putAll(inSlot);
            list = rewrite(list, inSlot);
            if (list.size() > 90) {
                unknownBecause = "instructions";
                return;
            }
            if (16 + newValues - 1 > 63) {
                unknownBecause = "names";
                return;
            }
        }
    }

    private List<Ins> rewrite(List<Ins> list, Map<Integer, Integer> inSlot) {
        List<Ins> out = new ArrayList<>();
        for (Ins ins : list) {
            int a = ins.a;
            int b = ins.b;
            int c = ins.c;
            if (ins.kind == 4 || ins.kind == 6 || ins.kind == 8) {
                a = loaded(out, a, inSlot);
            }
            if (ins.kind == 1 || ins.kind == 2 || ins.kind == 3) {
                b = loaded(out, b, inSlot);
            }
            if (ins.kind == 2) {
                c = loaded(out, c, inSlot);
            }
            if (ins.write() >= 0 && inSlot.containsKey(ins.write())) {
                a = 16 + newValues++;
                out.add(new Ins(ins.kind, a, b, c));
                out.add(new Ins(8, a, inSlot.get(ins.write()), NONE));
            } else {
                out.add(new Ins(ins.kind, a, b, c));
            }
        }
        return out;
    }

    private int loaded(List<Ins> out, int name, Map<Integer, Integer> inSlot) {
        if (!inSlot.containsKey(name)) {
            return name;
        }
        int made = 16 + newValues++;
        out.add(new Ins(7, made, inSlot.get(name), NONE));
        return made;
    }

    private void finish(List<Ins> list, Round round) {
        for (int name : names(list)) {
            registers.put(name, round.found.get(round.node(name)));
        }
        for (Ins ins : list) {
            int a = ins.kind == 5 ? ins.a : registers.get(ins.a);
            int b = ins.kind >= 1 && ins.kind <= 3 ? registers.get(ins.b) : ins.b;
            int c = ins.kind == 2 ? registers.get(ins.c) : ins.c;
            if (ins.kind == 1 && a == b) {
                leftOut++;
            } else {
                code.add(new Ins(ins.kind, a, b, c));
            }
        }
    }

    int colour(int value) {
        if (!names(program).contains(value)) {
            return NONE;
        }
        return slotOf.containsKey(value) ? 10 + slotOf.get(value) : registers.get(value);
    }

    static final class Run {
        final List<Integer> told = new ArrayList<>();
        long digest = 0;
        int steps = 0;
        int loads = 0;
        int stores = 0;
        boolean ended;

        Run(List<Ins> list, int most) {
            Map<Integer, Integer> held = new HashMap<>();
            Map<Integer, Integer> slots = new HashMap<>();
            int at = 0;
            while (at < list.size() && steps < most) {
                Ins ins = list.get(at);
                steps++;
                at++;
                int a = held.getOrDefault(ins.a, 0);
                int b = held.getOrDefault(ins.b, 0);
                int c = held.getOrDefault(ins.c, 0);
                switch (ins.kind) {
                    case 0 -> held.put(ins.a, ins.b);
                    case 1 -> held.put(ins.a, b);
                    case 2 -> held.put(ins.a, (b + c) % 1000);
                    case 3 -> held.put(ins.a, b == 0 ? 0 : b - 1);
                    case 4 -> {
                        told.add(a);
                        digest = (31 * digest + a) % 1000003;
                    }
                    case 6 -> {
                        if (a != 0) {
                            int to = target(list, ins);
                            at = to < 0 ? list.size() : to;
                        }
                    }
                    case 7 -> {
                        loads++;
                        held.put(ins.a, slots.getOrDefault(ins.b, 0));
                    }
                    case 8 -> {
                        stores++;
                        slots.put(ins.b, a);
                    }
                    default -> { }
                }
            }
            ended = at >= list.size();
        }
    }
}
