/** Boundary cases of promises 12 to 16, and of the terms that they use. */
final class RoundSentences extends Sentences {
    /** a, b and c are beside each other, and weigh the same. */
    private static final String THREE = "#a1#b2#c3.a.b.c";

    private RoundSentences() {
    }

    static void all() {
        answersOfSteps();
        low();
        shut();
        madeOne();
        safeForRegisters();
        safeForValues();
        givenUp();
        inHope();
    }

    private static void answersOfSteps() {
        sentence(12, "how many (i = -1); the i-th", () -> {
            Desk x = Desk.of(THREE, 3, 0);
            due("step(-1)", x.step(-1), 3);
            due("step(0), the first", x.step(0), 104);
            due("step(2), the last", x.step(2), 106);
            due("step(3)", x.step(3), NONE);
            due("step(-2)", x.step(-2), NONE);
            due("step(least)", x.step(LEAST), NONE);
            due("step(most)", x.step(MOST), NONE);
        });
        sentence(12, "STEPS of the first ROUND", () -> {
            Desk x = Desk.of(THREE, 2, 0);
            due("rounds(0), there are more", x.rounds(0) > 1 ? 1 : 0, 1);
            due("step(-1)", x.step(-1), 3);
            // They are told, though what comes of them is not known.
            dueSteps("#a1.a.A.B", 2, 0, 504);
        });
        sentence(12, "the NODE (1, 4, 5), the place of the MOVE among MOVES, from 0 on (2, 3)", () -> {
            dueSteps("#l1.l", 3, 0, 115);
            // Other INSTRUCTIONS have no place there.
            dueSteps("#c1.c=aa.c=ba.c", 3, 0, 106, 200, 301, 104);
            dueSteps("=aa".repeat(20), 3, 0, 200, 201, 202, 203, 204, 205, 206, 207, 208, 209, 210,
                211, 212, 213, 214, 215, 216, 217, 218, 219, 104);
        });
        sentence(12, "As long as a VALUE is left", () -> {
            dueSteps("", 3, 0);
            dueSteps("#A1.A", 3, 0);
            dueSteps("=AB=AA", 3, 0);
            // A MOVE is OPEN still when the last VALUE is TAKEN, or is made one with a REGISTER.
            dueSteps("=AB.a", 3, 0, 104);
            dueSteps("=aA=bA=ab", 3, 0, 300, 301);
        });
        sentence(12, "its NODES are all NAMES that are READ or WRITTEN in the program, and the four REGISTERS", () -> {
            dueSteps("#l1", 3, 0, 115);
            dueSteps(".d", 3, 0, 107);
            dueSteps("@4^e5", 3, 0, 108);
        });
    }

    private static void low() {
        sentence(12, "A VALUE is LOW, if it has fewer than K NEIGHBOURS", () -> {
            dueSteps(THREE, 3, 0, 104, 105, 106);
            dueSteps(THREE, 2, 0, 504, 105, 106);
            dueSteps("#a1#b1.a.b", 2, 0, 104, 105);
            dueSteps("#a1#b1#c1#d1.a.b.c.d", 4, 0, 104, 105, 106, 107);
            dueSteps("#a1#b1#c1#d1.a.b.c.d", 3, 0, 504, 105, 106, 107);
            // REGISTERS are NEIGHBOURS, those that are not given to VALUES, too.
            dueSteps("#a1.C.D", 2, 0, 504);
            dueSteps("#a1.C", 2, 0, 104);
        });
        sentence(12, "the least VALUE that is LOW and not MOVED is TAKEN away", () -> {
            dueSteps(".c.a.b", 3, 0, 104, 105, 106);
            // a is less than b, but has as many NEIGHBOURS as K until b and c are gone.
            dueSteps("#a1#b1.b#c1.c.a", 2, 0, 105, 104, 106);
        });
        sentence(12, "it is MOVED, if it is in an OPEN MOVE", () -> {
            dueSteps("=ab.b.c", 3, 0, 106, 300, 104);
            // Of one NODE, each MOVE of those in it counts: a waits, for c is moved into b.
            dueSteps("=ab=cb.c.d", 3, 0, 107, 300, 301, 104);
        });
        sentence(12, "the first of these that can be is done", () -> {
            // Each time 1 is looked for first, though a MOVE could be made one.
            dueSteps("=ab.a#c1.c=de.d", 3, 0, 106, 300, 104, 301, 107);
        });
    }

    private static void shut() {
        sentence(12, "both are one NODE already", () -> {
            dueSteps("=aa.a", 3, 0, 200, 104);
            dueSteps("=ab=ba.a", 3, 0, 300, 201, 104);
            dueSteps("=aA=bA=ab=de.d", 3, 0, 300, 301, 202, 303, 107);
        });
        sentence(12, "both are REGISTERS, or NEIGHBOURS, is SHUT", () -> {
            dueSteps("=AB=ab.a", 3, 0, 200, 301, 104);
            dueSteps("=AA=ab.a", 3, 0, 200, 301, 104);
            dueSteps("#a5=ba#a6.a.b", 3, 0, 200, 104, 105);
            dueSteps("=aA#A1.a.A", 3, 0, 200, 104);
        });
        sentence(12, "In 2 the first OPEN MOVE by place of which any of a, b, c is so", () -> {
            // c ahead of a; a ahead of c.
            dueSteps("=bd=cc", 2, 0, 300, 105, 201, 106);
            dueSteps("=bb=db", 2, 0, 200, 301, 105);
            // The first one is none of them, and is passed by.
            dueSteps("=ab+aCA=cd.c", 2, 0, 301, 106, 405, 105, 504);
        });
    }

    private static void madeOne() {
        sentence(12, "both become one NODE (the REGISTER, if one is; else the one that is less)", () -> {
            dueSteps("=Aa", 3, 0, 300);
            dueSteps("=aA", 3, 0, 300);
            dueSteps("=fd.f", 3, 0, 300, 107);
            dueSteps("=df.d", 3, 0, 300, 107);
            dueColours("=aD.a", 4, 0, 3);
        });
        sentence(12, "with the NEIGHBOURS of both", () -> {
            // f is beside A, e is not; both are B then.
            dueColours("=fe.A", 3, 0, NONE, NONE, NONE, NONE, 1, 1);
            dueColours("=ef.A", 3, 0, NONE, NONE, NONE, NONE, 1, 1);
            // c, beside b, is beside A when b is one with A.
            dueSteps("=bA=cA.b.c", 3, 0, 300, 201, 106);
            dueColours("=bA=cA.b.c", 3, 0, NONE, 0, 1);
        });
        sentence(15, "one that became one NODE with another one since counts as that", () -> {
            dueColours("=bA.a", 4, 0, 1, 0);
            dueSteps("=bA.a", 4, 0, 104, 300);
            dueColours("=bc.a", 4, 0, 1, 0, 0);
        });
    }

    private static void safeForRegisters() {
        sentence(12, "A MOVE of a REGISTER and a VALUE is SAFE, if each NEIGHBOUR of the VALUE is LOW", () -> {
            // b is LOW, though MOVED; a has as many NEIGHBOURS as K.
            dueSteps("=aA=bB.a.b", 2, 0, 300, 301);
            // b has as many as K, and is not beside A.
            dueSteps("#a1=cA.b", 2, 0, 406, 106, 105, 104);
            dueSteps("#a1=cA.b", 3, 0, 104, 105, 300);
        });
        sentence(12, "or a REGISTER, or a NEIGHBOUR of that REGISTER", () -> {
            dueSteps("#a1.B=Bc", 2, 0, 300, 104);
            dueSteps("=aA.B.C.D", 2, 0, 300);
        });
    }

    private static void safeForValues() {
        sentence(12, "if fewer than K of all NEIGHBOURS of either have K or more NEIGHBOURS", () -> {
            dueSteps("=bd.B", 2, 0, 300, 105);
            dueSteps("=fd.B=cC", 2, 0, 301, 407, 107, 509);
            dueSteps("=fd.B=cC", 3, 0, 300, 107, 301);
            // A is beside both, and counts once.
            dueSteps("#a1=ba.A", 2, 0, 300, 104);
            // e has two NEIGHBOURS, as many as K: it is one of two when a is tried.
            dueSteps("=db=ca.e", 2, 0, 300, 404, 104, 105, 106, 108);
        });
        sentence(12, "a REGISTER always has", () -> {
            dueSteps("=ab=aA.B", 2, 0, 201, 405, 105, 504);
            dueSteps("=ab.A.B.C", 4, 0, 300, 104);
            dueSteps("=ab.A.B.C.D", 4, 0, 405, 105, 504);
        });
        sentence(12, "one that is a NEIGHBOUR of both has one fewer then", () -> {
            dueSteps("=ec=cB=ff", 2, 0, 300, 201, 202, 109, 106);
            dueSteps("#c1=dc#a2=ba.b.c.d", 2, 0, 300, 301, 104, 106);
        });
    }

    private static void givenUp() {
        sentence(12, "the least VALUE that is LOW: all OPEN MOVES that it is in are SHUT", () -> {
            dueSteps("=db=ea.c", 2, 2, 300, 404, 104, 105, 106, 108);
            dueSteps("=bd=ee=da", 2, 2, 201, 407, 107, 504, 105, 108);
        });
        sentence(12, "if nobody is so, a move is given up", () -> {
            // Ahead of 4: b is LOW, so nobody is TAKEN in hope yet.
            dueSteps("=ab+aCA", 2, 0, 405, 105, 504);
        });
    }

    private static void inHope() {
        sentence(12, "the VALUE of the least WEIGHT (the least of as little", () -> {
            dueSteps(THREE, 2, 0, 504, 105, 106);
            dueSteps(THREE, 2, 1, 504, 105, 106);
            dueSteps(THREE, 2, 2, 504, 105, 106);
            dueSteps("#a1#b2#c3.a.a.b.b.c", 2, 0, 506, 104, 105);
        });
        sentence(12, "WAY 0: its COST by how many NEIGHBOURS it has", () -> {
            // 4 by 3 (a, b) is less than 3 by 2 (c, d), but 3 is less than 4.
            String text = "#a1#b1#c1.c.c#d1.d.d.a.a.a.b.b.b";
            dueSteps(text, 2, 0, 504, 106, 105, 107);
            dueSteps(text, 2, 1, 506, 507, 104, 105);
            dueSteps(text, 2, 2, 504, 106, 105, 107);
        });
        sentence(12, "NEIGHBOURS as they are left", () -> {
            // d, beside c alone, is gone when a, b and c have two each.
            dueSteps("#c1#d1.d#a1#b1.a.b.c", 2, 2, 107, 504, 105, 106);
        });
        sentence(12, "is TAKEN, in hope; its MOVES are SHUT, too", () -> {
            dueSteps("=be=ac=cA.e", 2, 0, 504, 300, 302, 105);
            // d, moved into a, is not MOVED any more when a is gone.
            dueSteps("#b1#c1#d1.d.d.d=ad.a.b.b.b.b.c.c.c.c.c", 2, 0, 504, 505, 106, 107);
        });
        sentence(13, "in hope", () -> {
            // b is beside A and C; B is free.
            dueSteps("=bb.C.A", 2, 0, 200, 505);
            dueSpilled("=bb.C.A", 2, 0);
            dueColours("=bb.C.A", 2, 0, NONE, 1);
        });
    }
}
