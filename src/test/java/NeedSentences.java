/** Boundary cases of promises 9 to 11, and of the terms that they use. */
final class NeedSentences extends Sentences {
    private NeedSentences() {
    }

    static void all() {
        needed();
        neededOnWays();
        edges();
        edgesOfMoves();
        costs();
        loops();
        weights();
    }

    private static void dueLive(String text, int... want) {
        Desk x = Desk.of(text, 3, 0);
        for (int i = 0; i < want.length; i++) {
            due("live(" + i + ") of " + text, x.live(i), want[i]);
        }
        due("live(" + want.length + ") of " + text, x.live(want.length), UNKNOWN);
    }

    private static void needed() {
        sentence(9, "LIVE behind an INSTRUCTION, as bits.", () -> {
            dueLive(".a", 0);
            dueLive(".A.D.a.l", 1 << 3 | 1 << 4 | 1 << 15, 1 << 4 | 1 << 15, 1 << 15, 0);
            dueLive("@1+ABC+Dab+cde+fgh+ijk.l", 0xEDB6, 0xEDB0, 0xED80, 0xEC00, 0xE000, 0x8000, 0);
        });
        sentence(9, "all NAMES that on some way from there on are READ, not being WRITTEN ahead of that", () -> {
            dueLive("#a1#a2.a", 0, 16, 0);
            // An INSTRUCTION that does both READS first.
            dueLive("#a1-aa.a", 16, 16, 0);
            dueLive("#a1+aaa.a", 16, 16, 0);
            dueLive("#a1+bab.b", 48, 32, 0);
            dueLive("#a1=aa.a", 16, 16, 0);
            // What is WRITTEN and never READ is not needed.
            dueLive("#a1#b2", 0, 0);
        });
        sentence(9, "SET, MOVE, SUM, LESS, LOAD WRITE their first NAME; all other NAMES are READ", () -> {
            dueLive("@0#a1.a", 0, 16, 0);
            dueLive("@0=ab.a", 32, 16, 0);
            dueLive("@0+abc.a", 96, 16, 0);
            dueLive("@0-ab.a", 32, 16, 0);
            dueLive("@0.a", 16, 0);
            dueLive("@0^a1", 16, 0);
            dueLive(".b@4", 0, 0);
        });
        sentence(9, "UNKNOWN.", () -> {
            Desk x = Desk.of(".a.b", 3, 0);
            due("live(-1)", x.live(-1), UNKNOWN);
            due("live(1), the last", x.live(1), 0);
            due("live(2)", x.live(2), UNKNOWN);
            due("live(least)", x.live(LEAST), UNKNOWN);
            due("live(most)", x.live(MOST), UNKNOWN);
        });
    }

    private static void neededOnWays() {
        sentence(9, "on some way from there on", () -> {
            // The way on, and the way of the JUMP, over a writing.
            dueLive("^a1#b1@1.b", 32, 32, 32, 0);
            dueLive("^a1#b1.b@1.c", 64, 96, 64, 64, 0);
            // Back: what is READ at the head is needed behind the JUMP.
            dueLive("@1.a^b1", 48, 48, 48);
            dueLive("@1#a1.a^b1", 32, 48, 32, 32);
        });
        sentence(9, "on at the first LABEL of that figure", () -> {
            dueLive("^c1@1.a@1.b", 48, 48, 32, 32, 0);
            dueLive("@1.a@1.b^c1", 112, 112, 112, 112, 112);
        });
        sentence(9, "if there is none, it ends", () -> {
            dueLive("^a2.b", 32, 0);
            dueLive(".b@1^a2", 16, 16, 0);
        });
        sentence(9, "which values are needed at once is found from behind, round after round", () -> {
            dueLive("@1@2.a^b2^c1.d", 240, 240, 240, 240, 240, 0);
            // Each JUMP hands the need of a on to the one ahead of it.
            dueLive("^b1@3.a^b9@2^b3^b9@1^b2", 48, 48, 48, 48, 48, 48, 48, 48, 48);
        });
    }

    private static void dueEdges(String text, int... namesAndWants) {
        Desk x = Desk.of(text, 3, 0);
        for (int i = 0; i + 1 < namesAndWants.length; i += 2) {
            due("edges(" + namesAndWants[i] + ") of " + text, x.edges(namesAndWants[i]), namesAndWants[i + 1]);
        }
    }

    private static void edges() {
        sentence(10, "between each two REGISTERS", () -> {
            dueEdges("", 0, 14, 1, 13, 2, 11, 3, 7);
            dueEdges("#a1.a", 0, 14, 1, 13, 2, 11, 3, 7);
        });
        sentence(10, "between the NAME that an INSTRUCTION WRITES, and each other one that is LIVE behind it", () -> {
            dueEdges("#a1#b2.a.b", 4, 32, 5, 16);
            // The one that is written need not be needed.
            dueEdges("#b2.a", 4, 32, 5, 16);
            // Two that are needed at once, but never written so, have none.
            dueEdges(".a.b", 4, 0, 5, 0);
            // Not with itself.
            dueEdges("#a1.a", 4, 0);
            dueEdges("-aa.a", 4, 0);
            // Ahead of it is not behind it.
            dueEdges("+cab.c", 4, 0, 5, 0, 6, 0);
            dueEdges("-ba.b", 4, 0, 5, 0);
            dueEdges("-ba.a", 4, 32, 5, 16);
        });
        sentence(10, "each other one that is LIVE behind it", () -> {
            dueEdges("#A1#a2.a.A", 0, 14 | 16, 4, 1);
            dueEdges("#a1#D2.a", 3, 7 | 16, 4, 8);
            dueEdges("#A1.B.l", 0, 14 | 1 << 15, 1, 13, 15, 1);
            dueEdges("#l1.a.b.c.d.e.f.g.h.i.j.k", 15, 0x7FF0, 4, 1 << 15, 14, 1 << 15);
        });
        sentence(10, "EDGES of a NAME, as bits.", () -> {
            // Those of the PROGRAM: what is made one in a ROUND, or SPILLED, changes none.
            Desk x = Desk.of("=bA=cA.b.c", 3, 0);
            due("step(-1)", x.step(-1), 3);
            due("edges(0)", x.edges(0), 14);
            due("edges(5)", x.edges(5), 64);
            due("edges(6)", x.edges(6), 32);
            x.loaded("#a1#b2#c3.a.b.c").with(2, 0);
            due("spilled(0)", x.spilled(0), 4);
            due("edges(4)", x.edges(4), 96);
            due("live(2)", x.live(2), 112);
        });
        sentence(10, "UNKNOWN: 0 to 15.", () -> {
            Desk x = Desk.of("#k1.l", 3, 0);
            due("edges(-1)", x.edges(-1), UNKNOWN);
            due("edges(0)", x.edges(0), 14);
            due("edges(4), not in the PROGRAM", x.edges(4), 0);
            due("edges(15)", x.edges(15), 1 << 14);
            due("edges(16)", x.edges(16), UNKNOWN);
            due("edges(least)", x.edges(LEAST), UNKNOWN);
            due("edges(most)", x.edges(MOST), UNKNOWN);
        });
    }

    private static void edgesOfMoves() {
        sentence(10, "but for a MOVE the one that it READS", () -> {
            dueEdges("#a5=ba.a.b", 4, 0, 5, 0);
            // None but that one is spared.
            dueEdges("=ba.a.b.c", 4, 0, 5, 64, 6, 32);
            // Nothing but a MOVE spares it.
            dueEdges("#a5-ba.a.b", 4, 32, 5, 16);
            dueEdges("#a5+baa.a.b", 4, 32, 5, 16);
            // It is spared there alone: another writing beside it counts.
            dueEdges("#a5=ba#a6.a.b", 4, 32, 5, 16);
            dueEdges("=ba#b1.a.b", 4, 32, 5, 16);
            dueEdges("=aA.a.A", 0, 14, 4, 0);
            dueEdges("=aa.a", 4, 0);
            // Two REGISTERS stay beside each other.
            dueEdges("=AB.A.B", 0, 14, 1, 13);
        });
    }

    private static void dueCost(String text, int value, int want) {
        due("weight(" + value + ", 0) of " + text, Desk.of(text, 3, 0).weight(value, 0), want);
    }

    private static void costs() {
        sentence(11, "for each time that it is READ or WRITTEN 10, if that INSTRUCTION lies in a LOOP", () -> {
            dueCost("", 4, 0);
            dueCost(".b", 4, 0);
            dueCost("#a1", 4, 1);
            dueCost(".a", 4, 1);
            dueCost("^a1", 4, 1);
            dueCost("-aa", 4, 2);
            dueCost("=aa", 4, 2);
            dueCost("+aaa", 4, 3);
            dueCost("@1+aaa^b1", 4, 30);
            dueCost("+aaa".repeat(15), 4, 45);
            dueCost("@1" + "+aaa".repeat(13) + "^a1", 4, 400);
        });
        sentence(11, "UNKNOWN: 4 to 15; OUTSIDE.", () -> {
            Desk x = Desk.of(".a.l.D", 3, 0);
            due("weight(3, 0)", x.weight(3, 0), UNKNOWN);
            due("weight(4, 0)", x.weight(4, 0), 1);
            due("weight(15, 0)", x.weight(15, 0), 1);
            due("weight(16, 0)", x.weight(16, 0), UNKNOWN);
            due("weight(4, -1)", x.weight(4, -1), OUTSIDE);
            due("weight(4, 2)", x.weight(4, 2), OUTSIDE);
            due("weight(3, 2)", x.weight(3, 2), UNKNOWN);
            due("weight(16, -1)", x.weight(16, -1), UNKNOWN);
            due("weight(least, 0)", x.weight(LEAST, 0), UNKNOWN);
            due("weight(most, 1)", x.weight(MOST, 1), UNKNOWN);
        });
    }

    private static void loops() {
        sentence(11, "between a LABEL and a later JUMP to it, these two, too", () -> {
            dueCost("@1^a1", 4, 10);
            dueCost(".a@1^b1", 4, 1);
            dueCost("@1^b1.a", 4, 1);
            dueCost(".a@1.a^b1.a", 4, 12);
        });
        sentence(11, "a later JUMP to it", () -> {
            dueCost("^a1.a@1.a", 4, 3);
            dueCost("^a1@1.a^b2", 4, 2);
            dueCost("@1.a^a2", 4, 2);
        });
        sentence(11, "the first LABEL of that figure", () -> {
            dueCost("@1.a@1.b^c1", 4, 10);
            dueCost("@2.a@1.a^b1", 4, 11);
            // The first LABEL lies behind the JUMP, though a second one follows.
            dueCost("^b1.a@1.a@1.a", 4, 3);
        });
        sentence(11, "10, if that INSTRUCTION lies in a LOOP", () -> {
            // In two LOOPS it is 10 still.
            dueCost("@1@2.a^b2^b1", 4, 10);
            dueCost("@1.a@2.a^b1.a^b2", 4, 30);
            dueCost("@1.a^b1.a^b1", 4, 20);
        });
    }

    private static void dueWeight(String text, int way, int value, int bits) {
        due("weight(" + value + ", 1) of " + text + " by WAY " + way, Desk.of(text, 3, way).weight(value, 1), bits);
    }

    private static void weights() {
        String clique = "#a1#b1#c1#d1.a.b.b.b.b.c.c.c.d";
        sentence(11, "as a single number (32 bits; the nearest", () -> {
            dueWeight(clique, 0, 4, 0x3F2AAAAB);
            dueWeight(clique, 0, 5, 0x3FD55555);
            dueWeight(clique, 0, 6, 0x3FAAAAAB);
            dueWeight(clique, 2, 4, 0x3EAAAAAB);
        });
        sentence(11, "its COST by how many NEIGHBOURS it has (1, if it has none)", () -> {
            dueWeight("#a1.a.a", 0, 4, Float.floatToIntBits(3f));
            dueWeight("#a1.a.b", 0, 4, Float.floatToIntBits(2f));
            dueWeight("#a1.a.b.c", 0, 4, Float.floatToIntBits(1f));
            dueWeight("", 0, 4, 0);
            dueWeight("#l1.a.b.c.d.e.f.g.h.i.j.k", 0, 15, Float.floatToIntBits(1f / 11f));
        });
        sentence(11, "1: its COST", () -> {
            dueWeight(clique, 1, 4, Float.floatToIntBits(2f));
            dueWeight(clique, 1, 5, Float.floatToIntBits(5f));
            dueWeight("@1" + "+aaa".repeat(13) + "^a1", 1, 4, Float.floatToIntBits(400f));
            dueWeight("", 1, 4, 0);
        });
        sentence(11, "2: 1 by how many", () -> {
            dueWeight(clique, 2, 5, 0x3EAAAAAB);
            dueWeight("#a1.a", 2, 4, Float.floatToIntBits(1f));
            dueWeight("", 2, 4, Float.floatToIntBits(1f));
            dueWeight("#l1.a.b.c.d.e.f.g.h.i.j.k", 2, 15, Float.floatToIntBits(1f / 11f));
        });
        sentence(11, "its WEIGHT, with all its EDGES, in its bits (1)", () -> {
            // REGISTERS count, and those that would be TAKEN away first.
            dueWeight("#a1.A.D.b", 0, 4, Float.floatToIntBits(1f / 3f));
            dueWeight("#a1.A.D.b", 2, 5, Float.floatToIntBits(1f));
            Desk x = Desk.of("=bA=cA.b.c", 3, 0);
            due("step(-1), b is made one with A", x.step(-1), 3);
            due("weight(5, 1), as ahead of it", x.weight(5, 1), Float.floatToIntBits(2f));
            due("weight(6, 1), as ahead of it", x.weight(6, 1), Float.floatToIntBits(2f));
        });
    }
}
