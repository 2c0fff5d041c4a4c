/**
 * One object, used again: behind another PROGRAM, another K or WAY, or an IMAGE it answers as a new
 * one does that was never used for anything else (promises 9 to 19).
 */
final class AgainSentences extends Sentences {
    /** Each has something of its own: SLOTS, LOOPS, MOVES made one or left out, much that is told. */
    private static final String[] PROGRAMS = {
        "#a1#b2#c3#d4@1.a.b.c.d-aa^a1",
        "=ab=ba=cc#d1.d.c.b",
        "#k1#l2+jkl.j=ij.i",
        "=eD=bb=bB.e.b",
        "@1+abc+bcd+cde.a.b.c^e9",
        "",
        "#a1.a.A.B",
        "=aC.a.A.B"};

    private AgainSentences() {
    }

    static void all() {
        newObject();
        again(9, "LIVE behind an INSTRUCTION, as bits.");
        again(10, "EDGES of a NAME, as bits.");
        again(11, "COST of a VALUE (what = 0), its WEIGHT");
        again(12, "MOVES are OPEN at first (all, by their places)");
        again(13, "SPILLED in the first ROUND: how many NODES (i = -1)");
        again(14, "How many ROUNDS (what = 0), SLOTS (1), NEW VALUES (2)");
        again(15, "has a SLOT, the next one from 0 on");
        again(16, "INSTRUCTIONS behind the last ROUND, with REGISTERS for NAMES");
        again(17, "all NAMES are 0 at first");
        again(18, "What was told the i-th time");
        again(19, "all REGISTERS, SLOTS are 0 at first");
    }

    private static void newObject() {
        sentence(10, "between each two REGISTERS", () -> {
            Desk x = new Desk();
            for (int name = 0; name < 16; name++) {
                due("edges(" + name + ") of a new object", x.edges(name), name < 4 ? 15 & ~(1 << name) : 0);
            }
        });
        sentence(11, "COST of a VALUE (what = 0)", () -> {
            due("weight(4, 0) of a new object", new Desk().weight(4, 0), 0);
            due("weight(15, 1) of a new object", new Desk().weight(15, 1), 0);
        });
    }

    private static void again(int promise, String words) {
        sentence(promise, words, () -> {
            for (String first : PROGRAMS) {
                for (String second : PROGRAMS) {
                    Desk twin = Desk.of(second, 2, 1);
                    Desk loaded = used(first, 2, 1).loaded(second);
                    dueSame(promise, loaded, twin, second + " behind " + first);
                    Desk changed = used(second, 4, 0).with(2, 1);
                    dueSame(promise, changed, Desk.of(second, 2, 1), second + " under another K and WAY");
                    dueSame(promise, restored(first, second), Desk.of(second, 2, 1), second + " out of an IMAGE");
                }
            }
        });
    }

    /** One that had all of it worked out. */
    private static Desk used(String text, int k, int way) {
        return asked(Desk.of(text, k, way));
    }

    private static Desk asked(Desk x) {
        x.live(0);
        x.step(0);
        x.run(0);
        x.spent(0);
        return x;
    }

    private static Desk restored(String first, String second) {
        Desk x = Desk.of(second, 2, 1);
        x.image(1);
        x.with(3, 2).loaded(first);
        asked(x).restore(1);
        return x;
    }

    private static void dueSame(int promise, Desk x, Desk twin, String about) {
        for (int i = -1; i < 24; i++) {
            due("promise " + promise + " at " + i + " of " + about, answer(x, promise, i), answer(twin, promise, i));
        }
    }

    /** Several answers in one, where a call has two arguments. */
    private static long answer(Desk x, int promise, int i) {
        return switch (promise) {
            case 9 -> x.live(i);
            case 10 -> x.edges(i);
            case 11 -> 1000L * x.weight(i, 1) + x.weight(i, 0);
            case 12 -> x.step(i);
            case 13 -> x.spilled(i);
            case 14 -> x.rounds(i);
            case 15 -> x.colour(i);
            case 16 -> ((x.code(i, 0) * 100L + x.code(i, 1)) * 100L + x.code(i, 2)) * 100L + x.code(i, 3);
            case 17 -> x.run(i);
            case 18 -> x.out(i);
            default -> x.spent(i);
        };
    }
}
