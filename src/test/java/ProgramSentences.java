/** Boundary cases of promises 1 to 8, and of the terms that they use. */
final class ProgramSentences extends Sentences {
    private ProgramSentences() {
    }

    static void all() {
        newObject();
        numbers();
        signs();
        faultPlaces();
        faultNames();
        loads();
        parts();
    }

    private static void newObject() {
        sentence(1, "No INSTRUCTION.", () -> {
            Desk x = new Desk();
            due("told(1)", x.told(1), 0);
            due("instruction(0, 0)", x.instruction(0, 0), UNKNOWN);
            due("live(0)", x.live(0), UNKNOWN);
            due("step(-1)", x.step(-1), 0);
            due("step(0)", x.step(0), NONE);
            due("spilled(-1)", x.spilled(-1), 0);
            due("code(0, 0)", x.code(0, 0), UNKNOWN);
            due("rounds(0)", x.rounds(0), 1);
            due("rounds(3)", x.rounds(3), 0);
            due("colour(4)", x.colour(4), NONE);
            due("run(2)", x.run(2), 0);
            due("run(3)", x.run(3), 1);
            due("out(0)", x.out(0), NONE);
            due("spent(2)", x.spent(2), 0);
            due("spent(3)", x.spent(3), 1);
        });
        sentence(1, "A new object", () -> {
            Desk old = Desk.of("#a1.a", 4, 2);
            old.image(0);
            old.said("???");
            Desk x = new Desk();
            for (int what = 0; what < 6; what++) {
                due("told(" + what + ") beside an older object", x.told(what), what == 2 ? 3 : 0);
            }
            due("restore(0) beside an older object", x.restore(0), STATE);
        });
        sentence(1, "An object is used for at most 512 calls after it has been made", () -> {
            Desk x = new Desk();
            while (x.callsLeft() > 5) {
                x.image(x.callsLeft() % 2);
            }
            x.said(".a");
            due("the 510th call, load()", x.load(), 1);
            due("the 511th call, live(0)", x.live(0), 0);
            due("the 512th call, spent(0)", x.spent(0), 1);
        });
    }

    private static void numbers() {
        sentence(2, "2 to 4 (3 at first)", () -> {
            Desk x = new Desk();
            due("told(2) at first", x.told(2), 3);
            due("colours(2), the least", x.colours(2), 3);
            due("colours(1), too small", x.colours(1), OUTSIDE);
            due("told(2)", x.told(2), 2);
            due("colours(4), the greatest", x.colours(4), 2);
            due("colours(5), too large", x.colours(5), OUTSIDE);
            due("told(2)", x.told(2), 4);
        });
        sentence(2, "K: which it was.", () -> {
            Desk x = new Desk();
            due("colours(3), as it is", x.colours(3), 3);
            due("colours(4)", x.colours(4), 3);
            due("colours(4) again", x.colours(4), 4);
            due("colours(2)", x.colours(2), 4);
        });
        sentence(2, "K is how many REGISTERS may be given to VALUES, from 0 on", () -> {
            dueColours("#a1#b1#c1#d1.a.b.c.d", 4, 0, 3, 2, 1, 0);
            dueColours("#a1#b1#c1.a.b.c", 3, 0, 2, 1, 0);
            dueColours("#a1#b1.a.b", 2, 0, 1, 0);
            Desk x = Desk.of("#a1#b1#c1.a.b.c", 3, 0);
            due("rounds(1) under K 3", x.rounds(1), 0);
            x.colours(2);
            due("rounds(1) under K 2, asked behind it", x.rounds(1) > 0 ? 1 : 0, 1);
        });
        sentence(3, "0 to 2 (0 at first)", () -> {
            Desk x = new Desk();
            due("told(3) at first", x.told(3), 0);
            due("way(-1), too small", x.way(-1), OUTSIDE);
            due("way(2), the greatest", x.way(2), 0);
            due("way(3), too large", x.way(3), OUTSIDE);
            due("told(3)", x.told(3), 2);
            due("way(0), the least", x.way(0), 2);
        });
        sentence(3, "The WAY: which it was.", () -> {
            Desk x = Desk.of("#a1#b1#c1#d1.a.a.b.c.d", 2, 0);
            due("way(0), as it is", x.way(0), 0);
            due("weight(4, 1) by WAY 0", x.weight(4, 1), Float.floatToIntBits(1f));
            due("way(1)", x.way(1), 0);
            due("weight(4, 1) by WAY 1, asked behind it", x.weight(4, 1), Float.floatToIntBits(3f));
            due("step(0) by WAY 1", x.step(0), 505);
            due("way(2)", x.way(2), 1);
            due("step(0) by WAY 2, asked behind it", x.step(0), 504);
            due("told(3)", x.told(3), 2);
        });
    }

    private static void signs() {
        sentence(4, "codes 33 to 126", () -> {
            Desk x = new Desk();
            due("say(32), too small", x.say(32), OUTSIDE);
            due("say(33), the least", x.say(33), 1);
            due("say(127), too large", x.say(127), OUTSIDE);
            due("say(126), the greatest", x.say(126), 2);
            due("say(35 + 256)", x.say(35 + 256), OUTSIDE);
            due("say(35 + 65536)", x.say(35 + 65536), OUTSIDE);
            due("told(0)", x.told(0), 2);
        });
        sentence(4, "60 SIGNS at most", () -> {
            Desk x = new Desk();
            for (int i = 1; i <= 60; i++) {
                due("say the sign " + i, x.say('@'), i);
            }
            due("say a 61st", x.say('@'), FULL);
            due("told(0)", x.told(0), 60);
        });
        sentence(4, "A sign more: how many. OUTSIDE; FULL.", () -> {
            Desk x = new Desk().said("@1".repeat(30));
            due("say(32) on a full PAD", x.say(32), OUTSIDE);
            due("say(127) on a full PAD", x.say(127), OUTSIDE);
            due("say(126) on a full PAD", x.say(126), FULL);
            due("load(), nothing was added", x.load(), 30);
            due("say on the empty PAD", x.say('.'), 1);
        });
        sentence(5, "Signs go: how many there were.", () -> {
            Desk x = new Desk();
            due("wipe() of an empty PAD", x.wipe(), 0);
            x.said("?".repeat(60));
            due("wipe() of a full PAD", x.wipe(), 60);
            due("wipe() again", x.wipe(), 0);
            due("fault(), the signs are gone", x.fault(), NONE);
            due("say()", x.say('.'), 1);
            due("say()", x.say('a'), 2);
            due("fault(), no older sign is left", x.fault(), NONE);
        });
        sentence(5, "Signs go", () -> {
            Desk x = Desk.of("#a1.a", 4, 1).said("=");
            x.wipe();
            due("told(1), the PROGRAM stays", x.told(1), 2);
            due("told(2)", x.told(2), 4);
            due("told(3)", x.told(3), 1);
            due("out(0)", x.out(0), 1);
        });
    }

    private static void dueFault(String text, int want) {
        Desk x = new Desk().said(text);
        due("fault() of " + text, x.fault(), want);
        due("told(0) behind fault() of " + text, x.told(0), text.length());
        due("load() of " + text, x.load() == NO ? 1 : 0, want == NONE ? 0 : 1);
    }

    private static void faultPlaces() {
        sentence(6, "the place (from 0 on) of the first sign that can not stand there", () -> {
            dueFault("?", 0);
            dueFault("?#m", 0);
            dueFault("#mz", 1);
            dueFault(".a?", 2);
            dueFault("+ab?", 3);
            dueFault("@1".repeat(29) + "@a", 59);
            dueFault("@1".repeat(29) + "?a", 58);
        });
        sentence(6, "the number of signs, if more must come", () -> {
            for (String text : new String[] {"#", "#a", "=", "=a", "+", "+a", "+ab", "-", "-a", ".", "@", "^", "^a"}) {
                dueFault(text, text.length());
                dueFault(".l" + text, 2 + text.length());
            }
            dueFault("@1".repeat(29) + "#a", 60);
        });
        sentence(6, "THE FAULT; NONE.", () -> {
            dueFault("", NONE);
            for (String text : new String[] {"#a1", "=ab", "+abc", "-ab", ".a", "@1", "^a1"}) {
                dueFault(text, NONE);
                dueFault(text + text, NONE);
            }
            dueFault("@1".repeat(30), NONE);
            dueFault("+abc".repeat(15), NONE);
        });
        sentence(6, "A PROGRAM is told on a PAD (60 SIGNS at most, codes 33 to 126) of INSTRUCTIONS", () -> {
            for (char sign = 33; sign <= 126; sign++) {
                dueFault("" + sign, "#=+-.@^".indexOf(sign) >= 0 ? 1 : 0);
            }
        });
    }

    private static void faultNames() {
        sentence(6, "REGISTERS 0 to 3 (A to D), VALUES 4 to 15 (a to l)", () -> {
            for (char sign = 33; sign <= 126; sign++) {
                boolean name = sign >= 'A' && sign <= 'D' || sign >= 'a' && sign <= 'l';
                dueFault("." + sign, name ? NONE : 1);
                dueFault("#" + sign, name ? 2 : 1);
                dueFault("=a" + sign, name ? NONE : 2);
                dueFault("+ab" + sign, name ? NONE : 3);
            }
        });
        sentence(6, "# a NAME's letter and a figure 0 to 9", () -> {
            for (char sign = 33; sign <= 126; sign++) {
                dueFault("#a" + sign, sign >= '0' && sign <= '9' ? NONE : 2);
            }
        });
        sentence(6, "@ and a figure 0 to 9 (LABEL)", () -> {
            for (char sign = 33; sign <= 126; sign++) {
                dueFault("@" + sign, sign >= '0' && sign <= '9' ? NONE : 1);
            }
        });
        sentence(6, "^, a NAME, and a figure 0 to 9", () -> {
            dueFault("^1", 1);
            dueFault("^A0", NONE);
            dueFault("^l9", NONE);
            dueFault("^a/", 2);
            dueFault("^a:", 2);
            dueFault("^ab", 2);
        });
        sentence(6, "- and two NAMES", () -> {
            dueFault("-1", 1);
            dueFault("-a1", 2);
            dueFault("-aE", 2);
            dueFault("-abc", 3);
            dueFault("-Dl", NONE);
        });
    }

    private static void loads() {
        sentence(7, "(it is empty then)", () -> {
            Desk x = new Desk().said(".a.b");
            due("load()", x.load(), 2);
            due("told(0)", x.told(0), 0);
            due("wipe()", x.wipe(), 0);
            due("say()", x.say('.'), 1);
        });
        sentence(7, "The PROGRAM is what the PAD tells", () -> {
            Desk x = new Desk().said("@1".repeat(30));
            due("load() of as many as can be", x.load(), 30);
            due("instruction(29, 0)", x.instruction(29, 0), 5);
            due("instruction(30, 0)", x.instruction(30, 0), UNKNOWN);
            x.said("#l9");
            due("load() of fewer", x.load(), 1);
            due("instruction(1, 0), none is left of before", x.instruction(1, 0), UNKNOWN);
            due("told(4)", x.told(4), 1 << 15);
        });
        sentence(7, "INSTRUCTIONS. NO", () -> {
            Desk x = Desk.of("=ab.a", 3, 0);
            due("load() of an empty PAD", x.load(), 0);
            due("told(1)", x.told(1), 0);
            due("told(4)", x.told(4), 0);
            due("told(5)", x.told(5), 0);
            due("run(2)", x.run(2), 0);
            due("step(-1)", x.step(-1), 0);
        });
        sentence(7, "NO: there is a FAULT.", () -> {
            Desk x = Desk.of(".a.b", 3, 0).said("#a");
            due("load(), if more must come", x.load(), NO);
            due("told(0), the PAD stays", x.told(0), 2);
            due("told(1), the PROGRAM stays", x.told(1), 2);
            due("say() goes on", x.say('7'), 3);
            due("load()", x.load(), 1);
            x.said(".a?");
            due("load(), if a sign can not stand there", x.load(), NO);
            due("told(0)", x.told(0), 3);
            due("instruction(0, 2)", x.instruction(0, 2), 7);
        });
        sentence(7, "The PROGRAM is what the PAD tells (it is empty then)", () -> {
            Desk x = Desk.of("#a1.a", 4, 2);
            due("live(0)", x.live(0), 16);
            due("run(0)", x.run(0), 1);
            due("spent(0)", x.spent(0), 1);
            x.loaded("#b2.b.b");
            due("told(2), K stays", x.told(2), 4);
            due("told(3), the WAY stays", x.told(3), 2);
            due("live(0) is of the new one", x.live(0), 32);
            due("run(0) is of the new one", x.run(0), 2);
            due("spent(0) is of the new one", x.spent(0), 2);
            due("rounds(3) is of the new one", x.rounds(3), 3);
        });
    }

    private static void dueParts(String text, int... want) {
        Desk x = Desk.of(text, 3, 0);
        for (int what = 0; what < 4; what++) {
            due("instruction(0, " + what + ") of " + text, x.instruction(0, what), want[what]);
        }
    }

    private static void parts() {
        sentence(8, "The KIND of an INSTRUCTION (what = 0), its first NAME, or the figure of a LABEL (1)", () -> {
            dueParts("#a0", 0, 4, 0, NONE);
            dueParts("#l9", 0, 15, 9, NONE);
            dueParts("=Da", 1, 3, 4, NONE);
            dueParts("+abc", 2, 4, 5, 6);
            dueParts("-lA", 3, 15, 0, NONE);
            dueParts(".D", 4, 3, NONE, NONE);
            dueParts("@0", 5, 0, NONE, NONE);
            dueParts("@9", 5, 9, NONE, NONE);
            dueParts("^A0", 6, 0, 0, NONE);
            dueParts("^l9", 6, 15, 9, NONE);
        });
        sentence(8, "NAMES are 0 to 15: REGISTERS 0 to 3 (A to D), VALUES 4 to 15 (a to l)", () -> {
            String letters = "ABCDabcdefghijkl";
            for (int name = 0; name < 16; name++) {
                dueParts("." + letters.charAt(name), 4, name, NONE, NONE);
            }
        });
        sentence(8, "UNKNOWN; OUTSIDE.", () -> {
            Desk x = Desk.of(".a.b", 3, 0);
            due("instruction(1, 3), the last", x.instruction(1, 3), NONE);
            due("instruction(2, 0)", x.instruction(2, 0), UNKNOWN);
            due("instruction(-1, 0)", x.instruction(-1, 0), UNKNOWN);
            due("instruction(0, 4)", x.instruction(0, 4), OUTSIDE);
            due("instruction(0, -1)", x.instruction(0, -1), OUTSIDE);
            due("instruction(2, 4)", x.instruction(2, 4), UNKNOWN);
            due("instruction(-1, -1)", x.instruction(-1, -1), UNKNOWN);
        });
        sentence(22, "0 signs, 1 INSTRUCTIONS, 2 K, 3 the WAY, 4 NAMES in the PROGRAM (bits), 5 MOVES in it.", () -> {
            Desk x = Desk.of("=AD=ll@4^d3#B5", 2, 1).said("??");
            int[] want = {2, 5, 2, 1, 1 | 1 << 3 | 1 << 15 | 1 << 7 | 1 << 1, 2};
            for (int what = 0; what < want.length; what++) {
                due("told(" + what + ")", x.told(what), want[what]);
            }
            due("told(6)", x.told(6), OUTSIDE);
            due("told(-1)", x.told(-1), OUTSIDE);
        });
        sentence(22, "NAMES in the PROGRAM (bits)", () -> {
            due("told(4), a figure is no NAME", Desk.of("@4^A5#B6", 3, 0).told(4), 3);
            due("told(4) of all NAMES", Desk.of("+ABC+Dab+cde+fgh+ijk.l", 3, 0).told(4), 65535);
            due("told(5), none is a MOVE", Desk.of("+ABC-ab#a1", 3, 0).told(5), 0);
            due("told(5) of as many as can be", Desk.of("=aa".repeat(20), 3, 0).told(5), 20);
        });
    }
}
