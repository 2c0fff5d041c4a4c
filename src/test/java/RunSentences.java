/** Boundary cases of promises 17 to 21, and of the terms that they use. */
final class RunSentences extends Sentences {
    /** 4 STEPS, and 45 times 11. */
    private static final String STEPS_499 = "#b9+abb+aaa+aab@1.a.a.a.a.a.a.a.a-aa^a1";
    /** 8 STEPS, and 181 times 11. */
    private static final String STEPS_1999 = "#b9+abb+aaa+aab+aaa+aaa#c1+aac@1.a.a.a.a.a.a.a.a-aa^a1";
    /** a lives in a SLOT, if K is 2. */
    private static final String A_IN_SLOT = "#a7#b1#c1.b.c.a";

    private RunSentences() {
    }

    static void all() {
        sums();
        jumps();
        stepsOfRuns();
        digests();
        outs();
        startsOfCode();
        stepsOfCode();
        answersOfCode();
        imagesKept();
        imagesRestored();
        imagesApart();
    }

    private static void sums() {
        sentence(17, "the first becomes the two others, added, left over by 1000", () -> {
            String make999 = "#a9+baa+bba+cbb+dcc+edd+fee+gff+ggd+ggb";
            dueOuts(make999 + ".g", 999);
            dueOuts(make999 + "#a1+gga.g", 0);
            dueOuts(make999 + "#a2+gga.g", 1);
            dueOuts(make999 + "+ggg.g", 998);
            dueOuts("+aaa.a", 0);
            dueOuts("#a4+aaa.a", 8);
        });
        sentence(17, "the first becomes one less than the second; of 0: 0", () -> {
            dueOuts("-ab.a", 0);
            dueOuts("#a1-aa.a-aa.a", 0, 0);
            dueOuts("#a2-ba.b.a", 1, 2);
            dueOuts("#a7-ab.a", 0);
        });
        sentence(17, "SET: that NAME becomes it", () -> {
            dueOuts("#a9.a#a0.a", 9, 0);
            dueOuts("#A9.A#D1.D.A", 9, 1, 9);
        });
        sentence(17, "MOVE: the first becomes the second", () -> {
            dueOuts("#a3=ba#a4.a.b", 4, 3);
            dueOuts("#a3=aa.a", 3);
            dueOuts("#B3=AB.A=aA.a", 3, 3);
        });
    }

    private static void jumps() {
        sentence(17, "if that NAME is not 0, on at the first LABEL of that figure", () -> {
            dueOuts("^a1.b@1.c", 0, 0);
            dueOuts("#a1^a1.b@1.c", 0);
            dueOuts("#a1#c5^a0#c6@0.c", 5);
            dueOuts("#a1#c5^a9#c6@9.c", 5);
            // The first one, ahead or behind, and none of another figure.
            dueOuts("#a2@1.a-aa@1^a1", 2, 1);
            dueOuts("#a1^a1@2.a@1.b@1.c", 0, 0);
        });
        sentence(17, "if there is none, it ends", () -> {
            dueRun("#a1^a1.a", 0, 0, 2, 1);
            dueRun("^a1.a", 1, 0, 2, 1);
            dueRun("#a1^a1@2.a", 0, 0, 2, 1);
        });
    }

    private static void stepsOfRuns() {
        sentence(17, "an INSTRUCTION is a STEP", () -> {
            dueRun("", 0, 0, 0, 1);
            dueRun("@1", 0, 0, 1, 1);
            dueRun("@1@1^a1#a1=ab+aaa-aa.a", 1, 0, 8, 1);
            // The LABEL is done anew behind each JUMP: 1 and 3 times 3.
            dueRun("#a3@1-aa^a1", 0, 0, 10, 1);
        });
        sentence(17, "it ends behind the last one, or behind 500 STEPS", () -> {
            dueEndOfRun(STEPS_499, 499, 1, 360);
            dueEndOfRun(STEPS_499 + ".a", 500, 1, 361);
            dueEndOfRun(STEPS_499 + ".a.a", 500, 0, 361);
        });
        sentence(17, "whether it ended by itself (3: 1, 0)", () -> {
            dueRun("@1#a1^a1", 0, 0, 500, 0);
            dueRun(".a", 1, 0, 1, 1);
        });
        sentence(17, "all NAMES are 0 at first", () -> {
            dueOuts(".a.l.A.D", 0, 0, 0, 0);
            Desk x = Desk.of("#a5#A6.a.A", 3, 0);
            due("out(0)", x.out(0), 5);
            x.loaded(".a.A");
            due("out(0), nothing is left of before", x.out(0), 0);
            due("out(1), nothing is left of before", x.out(1), 0);
        });
        sentence(17, "STEPS (2), whether it ended by itself (3: 1, 0). OUTSIDE.", () -> {
            Desk x = Desk.of(".a", 3, 0);
            due("run(-1)", x.run(-1), OUTSIDE);
            due("run(0), the least", x.run(0), 1);
            due("run(3), the greatest", x.run(3), 1);
            due("run(4)", x.run(4), OUTSIDE);
            due("run(least)", x.run(LEAST), OUTSIDE);
            due("run(most)", x.run(MOST), OUTSIDE);
        });
    }

    private static void digests() {
        sentence(17, "h is 0; for each it becomes 31 times h and that, left over by 1000003", () -> {
            dueRun("@1", 0, 0);
            dueRun("#a5.a", 1, 5);
            dueRun("#a5.a.a", 2, 160);
            dueRun(".a#a5.a", 2, 5);
            // 1, 2, 17, 18 make 32258; with 4 it is one less than 1000003, with 5 as much, with 6 one more.
            String text = "#a1.a#b2.b#c9+dcc-ed.e.d";
            dueRun(text, 4, 32258);
            dueRun(text + "#f4.f", 5, 1000002);
            dueRun(text + "#f5.f", 5, 0);
            dueRun(text + "#f6.f", 5, 1);
        });
        sentence(19, "DIGEST of what is told by OUT", () -> {
            String text = "#a1.a#b2.b#c9+dcc-ed.e.d";
            dueSpent(text + "#f4.f", 3, 0, 5, 1000002);
            dueSpent(text + "#f5.f", 3, 0, 5, 0);
            dueSpent("@1", 3, 0, 0, 0);
        });
    }

    private static void outs() {
        sentence(18, "What was told the i-th time; NONE.", () -> {
            Desk x = Desk.of("#a3.a-aa.a", 3, 0);
            due("out(-1)", x.out(-1), NONE);
            due("out(0), the first", x.out(0), 3);
            due("out(1), the last", x.out(1), 2);
            due("out(2)", x.out(2), NONE);
            due("out(least)", x.out(LEAST), NONE);
            due("out(most)", x.out(MOST), NONE);
            due("out(0) of none", Desk.of("@1", 3, 0).out(0), NONE);
        });
        sentence(18, "What was told the i-th time", () -> {
            // As many as can be: behind the first STEP 26 of 28 are told, 17 times, and 22 of the last 23.
            Desk x = Desk.of("#a9@1" + ".a".repeat(26) + "^a1", 3, 0);
            due("run(0)", x.run(0), 464);
            due("out(463), the last", x.out(463), 9);
            due("out(464)", x.out(464), NONE);
        });
    }

    private static void startsOfCode() {
        sentence(19, "all REGISTERS, SLOTS are 0 at first", () -> {
            dueSpent(".A.D.a", 3, 0, 3, 0, 3, 1, 0, 0);
            // a lives in SLOT 0, and is told ahead of any writing.
            Desk x = Desk.of(A_IN_SLOT, 2, 0);
            due("spent(1)", x.spent(1), 999);
            due("spent(5)", x.spent(5), 1);
            x.loaded(".a#b1#c1.b.c.a");
            due("spent(1), nothing is left of before", x.spent(1), 992);
            due("spent(4)", x.spent(4), 2);
            due("spent(5)", x.spent(5), 0);
            x.loaded("#A5#D5.A.D");
            due("spent(1)", x.spent(1), 160);
            x.loaded(".A.D");
            due("spent(1), no REGISTER is left of before", x.spent(1), 0);
        });
    }

    private static void stepsOfCode() {
        sentence(19, "behind 2000 STEPS", () -> {
            dueEndOfCode(STEPS_1999, 1999, 1, 1448);
            dueEndOfCode(STEPS_1999 + ".a", 2000, 1, 1449);
            dueEndOfCode(STEPS_1999 + ".a.a", 2000, 0, 1449);
            dueSpent("@1#a1^a1", 3, 0, 0, 0, 2000, 0, 0, 0);
        });
        sentence(19, "MOVES of a REGISTER to itself are left out", () -> {
            // They are no STEPS any more.
            dueSpent("=aa.a", 3, 0, 1, 0, 1, 1, 0, 0);
            dueRun("=aa.a", 1, 0, 2, 1);
            // 500 STEPS end the PROGRAM's RUN, not that of the CODE.
            Desk x = Desk.of(STEPS_499 + ".a.a", 3, 0);
            due("spent(2)", x.spent(2), 501);
            due("spent(3)", x.spent(3), 1);
            due("spent(0)", x.spent(0), 362);
        });
    }

    private static void dueEndOfRun(String text, int steps, int ended, int told) {
        Desk x = Desk.of(text, 3, 0);
        due("run(2) of " + text, x.run(2), steps);
        due("run(3) of " + text, x.run(3), ended);
        due("run(0) of " + text, x.run(0), told);
    }

    private static void dueEndOfCode(String text, int steps, int ended, int told) {
        Desk x = Desk.of(text, 3, 0);
        due("spent(2) of " + text, x.spent(2), steps);
        due("spent(3) of " + text, x.spent(3), ended);
        due("spent(0) of " + text, x.spent(0), told);
    }

    private static void answersOfCode() {
        sentence(19, "how many (what = 0), the DIGEST (1), STEPS (2), whether it ended (3), LOADS (4), STORES (5)", () -> {
            dueSpent(A_IN_SLOT, 2, 0, 3, 999, 8, 1, 1, 1);
            dueSpent("", 2, 0, 0, 0, 0, 1, 0, 0);
            // They are counted as they are done: b and c are LOADED three times.
            dueSpent("#a3#b1#c1@1.b.c-aa^a1", 2, 0, 6, 583369, 26, 1, 6, 2);
        });
        sentence(19, "OUTSIDE; STATE, likewise.", () -> {
            Desk x = Desk.of("#a1.a.A.B", 2, 0);
            due("spent(0), not known", x.spent(0), STATE);
            due("spent(5), not known", x.spent(5), STATE);
            due("spent(6), not known", x.spent(6), OUTSIDE);
            due("spent(-1), not known", x.spent(-1), OUTSIDE);
            due("run(0) is known", x.run(0), 3);
            x.colours(3);
            due("spent(0), known", x.spent(0), 3);
            due("spent(6)", x.spent(6), OUTSIDE);
            due("spent(-1)", x.spent(-1), OUTSIDE);
            due("spent(least)", x.spent(LEAST), OUTSIDE);
            due("spent(most)", x.spent(MOST), OUTSIDE);
        });
        sentence(19, "the program runs as before", () -> {
            Desk x = Desk.of("#b1#c2#d3#a5@1.b.c.d-aa^a1", 2, 1);
            due("spent(0)", x.spent(0), x.run(0));
            due("spent(1)", x.spent(1), x.run(1));
            due("spent(4), from SLOTS", x.spent(4), 15);
        });
    }

    private static void imagesKept() {
        sentence(20, "(0, 1): 1. OUTSIDE.", () -> {
            Desk x = new Desk();
            due("image(-1)", x.image(-1), OUTSIDE);
            due("image(0)", x.image(0), 1);
            due("image(1)", x.image(1), 1);
            due("image(2)", x.image(2), OUTSIDE);
            due("image(least)", x.image(LEAST), OUTSIDE);
            due("image(most)", x.image(MOST), OUTSIDE);
        });
        sentence(20, "All but the PAD is kept", () -> {
            Desk x = Desk.of("=ab.a^a1", 4, 2).said("#a");
            x.image(0);
            due("told(0), the PAD stays as it is", x.told(0), 2);
            x.loaded(".l").said("?");
            x.colours(2);
            x.way(1);
            x.restore(0);
            due("told(0), the PAD of now", x.told(0), 1);
            due("fault()", x.fault(), 0);
            int[] want = {1, 3, 4, 2, 48, 1};
            for (int what = 1; what < want.length; what++) {
                due("told(" + what + ")", x.told(what), want[what]);
            }
            due("instruction(2, 2)", x.instruction(2, 2), 1);
        });
        sentence(20, "is kept in an IMAGE", () -> {
            Desk x = Desk.of(".a", 3, 0);
            x.image(0);
            x.loaded(".a.b");
            due("image(0) again", x.image(0), 1);
            x.loaded(".a.b.c");
            x.restore(0);
            due("told(1), the later one", x.told(1), 2);
        });
    }

    private static void imagesRestored() {
        sentence(21, "OUTSIDE; STATE: it was not.", () -> {
            Desk x = new Desk();
            due("restore(0)", x.restore(0), STATE);
            due("restore(1)", x.restore(1), STATE);
            due("restore(-1)", x.restore(-1), OUTSIDE);
            due("restore(2)", x.restore(2), OUTSIDE);
            due("restore(least)", x.restore(LEAST), OUTSIDE);
            due("restore(most)", x.restore(MOST), OUTSIDE);
            x.image(1);
            due("restore(0), the other one was kept", x.restore(0), STATE);
            due("restore(1)", x.restore(1), 1);
            x.image(0);
            due("restore(0)", x.restore(0), 1);
        });
        sentence(21, "It is as it was when it was kept: 1.", () -> {
            Desk x = new Desk();
            x.image(0);
            x.loaded("#a1.a").colours(2);
            x.way(1);
            due("restore(0) of a new one", x.restore(0), 1);
            for (int what = 0; what < 6; what++) {
                due("told(" + what + ")", x.told(what), what == 2 ? 3 : 0);
            }
            due("rounds(3)", x.rounds(3), 0);
            due("run(2)", x.run(2), 0);
        });
        sentence(21, "It is as it was when it was kept", () -> {
            Desk x = Desk.of("@1#a1#b2#c3.a.b.c^a1", 2, 1);
            x.image(0);
            Desk twin = Desk.of("@1#a1#b2#c3.a.b.c^a1", 2, 1);
            x.loaded("@2@1.l").colours(4);
            x.way(0);
            due("all that was worked out is of the new one", x.step(0), 115);
            due("spent(2)", x.spent(2), 3);
            due("run(2)", x.run(2), 3);
            due("live(0)", x.live(0), 1 << 15);
            x.restore(0);
            dueTwins(x, twin);
        });
    }

    private static void dueTwins(Desk x, Desk twin) {
        due("live(6)", x.live(6), twin.live(6));
        due("edges(4)", x.edges(4), twin.edges(4));
        due("weight(4, 0)", x.weight(4, 0), twin.weight(4, 0));
        due("weight(4, 1)", x.weight(4, 1), twin.weight(4, 1));
        due("step(0)", x.step(0), twin.step(0));
        due("spilled(0)", x.spilled(0), twin.spilled(0));
        for (int what = 0; what < 5; what++) {
            due("rounds(" + what + ")", x.rounds(what), twin.rounds(what));
        }
        due("colour(4)", x.colour(4), twin.colour(4));
        due("code(2, 2)", x.code(2, 2), twin.code(2, 2));
        for (int what = 0; what < 4; what++) {
            due("run(" + what + ")", x.run(what), twin.run(what));
            due("spent(" + what + ")", x.spent(what), twin.spent(what));
        }
        due("out(2)", x.out(2), twin.out(2));
    }

    private static void imagesApart() {
        sentence(21, "when it was kept", () -> {
            Desk x = Desk.of(".a", 2, 1);
            x.image(0);
            x.loaded(".b.c").colours(4);
            x.way(2);
            x.image(1);
            for (int time = 0; time < 2; time++) {
                due("restore(0)", x.restore(0), 1);
                due("told(4) of IMAGE 0", x.told(4), 16);
                due("told(2) of IMAGE 0", x.told(2), 2);
                due("told(3) of IMAGE 0", x.told(3), 1);
                due("restore(1)", x.restore(1), 1);
                due("told(4) of IMAGE 1", x.told(4), 96);
                due("told(2) of IMAGE 1", x.told(2), 4);
                due("told(3) of IMAGE 1", x.told(3), 2);
            }
            // What is done behind restore does not reach the IMAGE.
            x.restore(0);
            x.loaded(".l.l.l").colours(3);
            x.restore(0);
            due("told(1)", x.told(1), 1);
            due("told(2)", x.told(2), 2);
        });
    }
}
