/** Boundary cases of promises 13 to 16: coming back, SLOTS, the limits, the CODE. */
final class BackSentences extends Sentences {
    /** a, b and c are beside each other, and weigh the same. */
    private static final String THREE = "#a1#b2#c3.a.b.c";
    /** a, b, c and d are beside each other; e is the sum of a and b. */
    private static final String SUM_OF_TWO = "#a3#b4#c1#d1.c.d+eab.e";
    /** A and B are needed all along, so that a never finds a place. */
    private static final String HOPELESS = "#a1.a.A.B";

    private BackSentences() {
    }

    static void all() {
        comingBack();
        spilled();
        slots();
        loadsAndStores();
        newValues();
        limits();
        notKnown();
        leftOut();
        codeOfAll();
        codeParts();
    }

    private static void comingBack() {
        sentence(15, "all that were TAKEN come back, the last one first", () -> {
            dueColours("#a1#b2.a.b", 2, 0, 1, 0);
            dueColours(THREE, 3, 0, 2, 1, 0);
        });
        sentence(15, "each has the least REGISTER below K that is not that of a NEIGHBOUR", () -> {
            dueColours(".a.l", 3, 0, 0, NONE, NONE, NONE, NONE, NONE, NONE, NONE, NONE, NONE, NONE, 0);
            dueColours("#a1.B", 3, 0, 0);
            dueColours("#a1.A", 3, 0, 1);
            dueColours("#a1.A.B", 3, 0, 2);
            dueColours("#a1.A.B.C", 4, 0, 3);
        });
        sentence(15, "below K", () -> {
            // C and D are beside a, but are not given to VALUES; A is free.
            dueColours("#a1.C.D", 2, 0, 0);
            // C is free, but is not given.
            dueSpilled(HOPELESS, 2, 0, 4);
            dueSpilled(HOPELESS, 3, 0);
            dueColours(HOPELESS, 3, 0, 2);
        });
        sentence(15, "of those that are back, and have one, and REGISTERS", () -> {
            // b is SPILLED when a comes back: only B is in its way.
            dueSpilled("#b1.A#a1.B.b.b.a", 2, 1, 5);
            dueSteps("#b1.A#a1.B.b.b.a", 2, 1, 504, 505);
        });
    }

    private static void spilled() {
        sentence(13, "how many NODES (i = -1), the i-th, rising; NONE", () -> {
            Desk x = Desk.of(SUM_OF_TWO, 2, 2);
            due("spilled(-1)", x.spilled(-1), 2);
            due("spilled(0)", x.spilled(0), 4);
            due("spilled(1), the last", x.spilled(1), 5);
            due("spilled(2)", x.spilled(2), NONE);
            due("spilled(-2)", x.spilled(-2), NONE);
            due("spilled(least)", x.spilled(LEAST), NONE);
            due("spilled(most)", x.spilled(MOST), NONE);
            dueSpilled("", 2, 0);
            due("spilled(0) of none", Desk.of(".a", 2, 0).spilled(0), NONE);
        });
        sentence(13, "SPILLED in the first ROUND", () -> {
            // b is SPILLED, too, but in the second.
            dueSpilled(THREE + ".c", 2, 0, 4);
            dueRounds(THREE + ".c", 2, 0, 3, 2, 4, 11, 0);
            // They are told, though what comes of them is not known.
            dueSpilled(HOPELESS, 2, 0, 4);
        });
        sentence(13, "if there is none, it is SPILLED", () -> {
            dueSpilled("#a1.A", 2, 0);
            dueSpilled("#a1.A.C", 2, 0);
            dueSpilled("#a1.A.B", 2, 0, 4);
            dueSpilled("#a1.A.B.C", 3, 0, 4);
            dueSpilled("#a1.A.B.C", 4, 0);
            dueSpilled("#a1.A.B.C.D", 4, 0, 4);
        });
    }

    private static void slots() {
        sentence(15, "each SPILLED NODE, by number, has a SLOT, the next one from 0 on", () -> {
            // b comes back, and is SPILLED, ahead of a.
            dueColours(SUM_OF_TWO, 2, 2, 10, 11, 1, 0, 0);
            dueRounds(SUM_OF_TWO, 2, 2, 2, 2, 4, 12, 0);
        });
        sentence(15, "the next one from 0 on", () -> {
            // a in the first ROUND, b in the second.
            dueColours(THREE + ".c", 2, 0, 10, 11, 1);
        });
        sentence(15, "The REGISTER of a VALUE; 10 and its SLOT; NONE: it is not in the PROGRAM.", () -> {
            Desk x = Desk.of("=aD.a#b1#c2.c.b", 4, 0);
            due("colour(4)", x.colour(4), 3);
            due("colour(6)", x.colour(6), 0);
            due("colour(7), not in it", x.colour(7), NONE);
            due("colour(15), not in it", x.colour(15), NONE);
            due("colour(3)", x.colour(3), UNKNOWN);
            due("colour(16)", x.colour(16), UNKNOWN);
        });
    }

    private static void loadsAndStores() {
        sentence(16, "ahead of each INSTRUCTION that READS a VALUE of it, a NEW VALUE is LOADED from its SLOT", () -> {
            dueCode(THREE + ".c", 2, 0, "#A1>A0#A2>A1#B3<A0.A<A1.A.B.B");
            // A JUMP READS, too; each READING has its own.
            dueCode(".a#b1#c1.b.c^a1", 2, 0, "<A0.A#B1#A1.B.A<A0^A1");
        });
        sentence(16, "for each time that it READS, from left to right, and is READ instead", () -> {
            dueCode(SUM_OF_TWO, 2, 2, "#A3>A0#A4>A1#B1#A1.B.A<B0<A1+ABA.A");
            dueCode("#a3#b4#c1#d1.c.d+eba.e", 2, 2, "#A3>A0#A4>A1#B1#A1.B.A<B1<A0+ABA.A");
            // Twice the same one is LOADED twice.
            dueCode("#a3#b4#c1#d1.c.d+baa.b", 2, 2, "#A3>A0#A4#B1#A1.B.A<B0<A0+ABA.A");
            dueCode("#A3-cc+caa", 2, 1, "#A3-BB<B0<A0+BBA");
        });
        sentence(16, "one that WRITES it WRITES a NEW VALUE, which is STORED behind it", () -> {
            dueCode("#a7#b1#c1.b.c.a", 2, 0, "#A7>A0#B1#A1.B.A<A0.A");
            // One that does both.
            dueCode("=AA-aa-bb", 2, 1, "<A0-AA>A0-BB");
            dueRounds("=AA-aa-bb", 2, 1, 2, 1, 2, 4, 1);
        });
        sentence(16, "STORE READS its NAME", () -> {
            dueCode("=bA=bB=AA", 2, 0, ">A0>B0");
            dueCode("=cB.A=cc.B", 2, 0, ">B0.A<A0>A0.B");
        });
        sentence(16, "SET, MOVE, SUM, LESS, LOAD WRITE their first NAME", () -> {
            dueCode("=bb=BA.b", 2, 0, "<B0>B0=BA<A0.A");
        });
    }

    private static void newValues() {
        sentence(14, "in the order of INSTRUCTIONS, what is READ first", () -> {
            // What is READ is given B when c is there still, what is WRITTEN finds A.
            dueCode("-db=cc+aad-db", 3, 1, "-CB<A0+AAC>A0-CB");
            // Those of c are made beside those of a, not behind all of them.
            dueCode("#B8+AAB+cca", 2, 0, "#B8+AAB<B1<A0+ABA>A1");
        });
        sentence(14, "of a NEW VALUE 10000", () -> {
            dueRounds("#a1+Bca+acC", 2, 1, 2, 1, 2, 5, 0);
            dueRounds("=eD=bb=bB", 2, 0, 2, 1, 1, 2, 2);
            // In a LOOP a VALUE may well cost 100 and more.
            dueRounds("@0^d0.d-dc+cdc.d=db-dd.d+dbc+cbb^a0=dd", 2, 1, 3, 3, 17, 28, 2);
        });
        sentence(16, "MOVES are OPEN at first (all, by their places)", () -> {
            // Given up in the first ROUND, made one in the second, so that c comes back behind it.
            dueSteps("#a7#b1#c1.c=db.a.d", 2, 0, 407, 107, 504, 105, 106);
            dueCode("#a7#b1#c1.c=db.a.d", 2, 0, "#A7>A0#A1#B1.B<B0.B.A");
        });
        sentence(14, "Then there is another ROUND.", () -> {
            dueRounds(".a", 2, 0, 1, 0, 0, 1, 0);
            dueRounds("#a7#b1#c1.b.c.a", 2, 0, 2, 1, 2, 8, 0);
            dueRounds(THREE + ".c", 2, 0, 3, 2, 4, 11, 0);
        });
    }

    private static void limits() {
        sentence(14, "It is not known, if there would be more than 6 ROUNDS", () -> {
            dueRounds("=ca+bda+ecc.b.a.b", 2, 0, 6, 5, 11, 16, 1);
            dueRounds("#B2.f.a#c3.e.f.B.g.i", 2, 2, 6, 9, 13, 22, 0);
            // Seven would do.
            dueRounds("#a1.g.C.f.b.B.i.h.c#i7#j0.e.k.d", 2, 2, STATE, STATE, STATE, STATE, STATE);
            // No number would do.
            dueRounds(HOPELESS, 2, 0, STATE, STATE, STATE, STATE, STATE);
        });
        sentence(14, "or a NAME above 63", () -> {
            // 48 NEW VALUES are 16 to 63; one more would be 64.
            dueRounds(".a+abb.j+bhg.k.i=bc.k=ac=cf.f.c.d=ch=aa.b=gc+caa=ca+bce=bb.c", 2, 2, 4, 16, 48, 62, 8);
            dueRounds(".a+bAg+aje.c.g.c=hk=Bf.i=ba-DC=cb#f7.d=ab=Ah.b.b=dc^c0=cb=gd", 2, 2, STATE, STATE, STATE, STATE, STATE);
            dueRounds(".a.b=ga=Af+cfD.j+cCe.e.f.a.b+haA+fci.g+bgf#c8#c9.c.b.b.c+acb", 2, 2, STATE, STATE, STATE, STATE, STATE);
            // Found out at a reading; without the rest of that PROGRAM there would be CODE.
            dueRounds("+deC.e=ca.d=cd=cD.a=ec+eaa=cc=bb=eB+dce.A=AD", 3, 0, STATE, STATE, STATE, STATE, STATE);
            dueRounds("=cB=Cb=CA^B0=cC=cb.C^e0+bcB=bb^b0+cef=fA#f1=bb#a7=cb=da", 2, 2, STATE, STATE, STATE, STATE, STATE);
        });
        sentence(16, "or a NAME above 63", () -> {
            // 63 itself has a REGISTER, as all have: it is LOADED last.
            dueCode(".a+abb.j+bhg.k.i=bc.k=ac=cf.f.c.d=ch=aa.b=gc+caa=ca+bce=bb.c", 2, 2,
                "<A0>A3<A3.A<A1>A4<A1>A5<B4<A5+ABA>A6<A6>A0<A14.A<B12<A11+ABA>A7<A7>A1<A15.A<A13.A<A8>A1<A15.A<A8>A0<A10>A8<A10.A"
                + "<A8.A<A9.A<A12>A8<A0>A0<A1.A<A8>A11<B0<A0+ABA>A8<A0>A8<B2<A8+AAB>A1<A1>A1<A8.A");
        });
    }

    private static void notKnown() {
        sentence(14, "OUTSIDE; STATE: it is not known.", () -> {
            Desk x = Desk.of(HOPELESS, 2, 0);
            due("rounds(0)", x.rounds(0), STATE);
            due("rounds(4)", x.rounds(4), STATE);
            due("rounds(5)", x.rounds(5), OUTSIDE);
            due("rounds(-1)", x.rounds(-1), OUTSIDE);
            x.colours(3);
            due("rounds(0) under another K", x.rounds(0), 1);
            x.colours(2);
            due("rounds(0) under the first K again", x.rounds(0), STATE);
            x.loaded(".a");
            due("rounds(0) of another PROGRAM", x.rounds(0), 1);
        });
        sentence(15, "UNKNOWN: 4 to 15; STATE, likewise.", () -> {
            Desk x = Desk.of(HOPELESS, 2, 0);
            due("colour(4)", x.colour(4), STATE);
            due("colour(15), not in the PROGRAM", x.colour(15), STATE);
            due("colour(3)", x.colour(3), UNKNOWN);
            due("colour(16)", x.colour(16), UNKNOWN);
        });
        sentence(16, "STATE, likewise; UNKNOWN; OUTSIDE; in this order.", () -> {
            Desk x = Desk.of(HOPELESS, 2, 0);
            due("code(0, 0), not known", x.code(0, 0), STATE);
            due("code(-1, 0), not known", x.code(-1, 0), STATE);
            due("code(0, 4), not known", x.code(0, 4), STATE);
            due("code(99, 99), not known", x.code(99, 99), STATE);
            x.colours(3);
            due("code(3, 3), the last", x.code(3, 3), NONE);
            due("code(4, 0)", x.code(4, 0), UNKNOWN);
            due("code(-1, 0)", x.code(-1, 0), UNKNOWN);
            due("code(4, 4)", x.code(4, 4), UNKNOWN);
            due("code(-1, -1)", x.code(-1, -1), UNKNOWN);
            due("code(0, 4)", x.code(0, 4), OUTSIDE);
            due("code(0, -1)", x.code(0, -1), OUTSIDE);
        });
        sentence(12, "STEPS of the first ROUND: how many (i = -1)", () -> {
            due("step(-1), though it is not known", Desk.of(HOPELESS, 2, 0).step(-1), 1);
            due("step(0), though it is not known", Desk.of(HOPELESS, 2, 0).step(0), 504);
        });
    }

    private static void leftOut() {
        sentence(14, "How many ROUNDS (what = 0), SLOTS (1), NEW VALUES (2), INSTRUCTIONS of the CODE (3), MOVES that were left out (4)", () -> {
            dueRounds("", 3, 0, 1, 0, 0, 0, 0);
            dueRounds("=aa", 3, 0, 1, 0, 0, 0, 1);
            dueRounds("=ba#c1.c.b", 3, 0, 1, 0, 0, 3, 1);
            dueRounds(SUM_OF_TWO, 2, 2, 2, 2, 4, 12, 0);
        });
        sentence(16, "MOVES of a REGISTER to itself are left out", () -> {
            dueCode("=AA=ab.a", 3, 0, ".B");
            dueRounds("=AA=ab.a", 3, 0, 1, 0, 0, 1, 2);
            dueCode("=AB", 3, 0, "=AB");
            // Only MOVES are: a is A, and is one less than A.
            dueCode("-aA.a", 3, 0, "-AA.A");
            dueCode("+aAA.a", 3, 0, "+AAA.A");
            dueCode("#a0.a", 3, 0, "#A0.A");
            // A MOVE that was given up is left out, too, if both have one REGISTER all the same.
            dueCode("=fd.B=cC", 2, 0, ".B");
            dueRounds("=fd.B=cC", 2, 0, 1, 0, 0, 1, 2);
            dueCode("=ab+aCA", 2, 0, "=BA+BCA");
        });
    }

    private static void codeOfAll() {
        sentence(16, "INSTRUCTIONS behind the last ROUND, with REGISTERS for NAMES", () -> {
            dueCode("", 3, 0, "");
            dueCode("#a9#b0+cab-dc.d@7^d7", 3, 0, "#B9#A0+ABA-AA.A@7^A7");
            dueCode("#D1.D", 2, 0, "#D1.D");
            dueCode("=aD.a", 2, 0, ".D");
        });
        sentence(16, "The CODE: KIND (what = 0), the first REGISTER, or the figure of a LABEL (1)", () -> {
            dueParts(Desk.of("#A1@9^a1", 3, 0), new int[][] {{0, 0, 1, NONE}, {5, 9, NONE, NONE}, {6, 1, 1, NONE}});
        });
    }

    private static void codeParts() {
        sentence(16, "the second REGISTER, the figure, or the SLOT (2; NONE), the third REGISTER (3; NONE)", () -> {
            dueParts(Desk.of("=AB-CD+DBC.C", 3, 0),
                new int[][] {{1, 0, 1, NONE}, {3, 2, 3, NONE}, {2, 3, 1, 2}, {4, 2, NONE, NONE}});
        });
        sentence(16, "(Of STORE, LOAD the REGISTER is the first.)", () -> {
            dueParts(Desk.of("#a1-cc.b.d", 2, 0), new int[][] {{0, 0, 1, NONE}, {8, 0, 0, NONE}, {3, 1, 1, NONE},
                {7, 0, 1, NONE}, {4, 0, NONE, NONE}, {7, 0, 2, NONE}, {4, 0, NONE, NONE}});
        });
    }

    private static void dueParts(Desk x, int[][] want) {
        due("rounds(3)", x.rounds(3), want.length);
        for (int i = 0; i < want.length; i++) {
            for (int what = 0; what < 4; what++) {
                due("code(" + i + ", " + what + ")", x.code(i, what), want[i][what]);
            }
        }
    }
}
