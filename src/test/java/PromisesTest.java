/** Each promise by itself: ordinary inputs, edges and wrong inputs, worked out by hand from the document. */
public final class PromisesTest {
    private static final int NONE = -6, UNKNOWN = -1, OUTSIDE = -2, STATE = -3, FULL = -4, NO = -5;
    private static final int[] WILD = {Integer.MIN_VALUE, -1000, -7, 1000, 65536, Integer.MAX_VALUE};
    private static int wrong = 0;
    private static int checks = 0;

    private static void due(String call, long got, long want) {
        checks++;
        if (got != want) {
            wrong++;
            System.out.println(call + " answered " + got + ", due is " + want);
        }
    }

    private static void say(RegisterDesk desk, String text) {
        for (int i = 0; i < text.length(); i++) {
            due("say in " + text, desk.say(text.charAt(i)), i + 1);
        }
    }

    private static RegisterDesk desk(String text, int k, int way) {
        RegisterDesk desk = new RegisterDesk();
        desk.colours(k);
        desk.way(way);
        return loaded(desk, text);
    }

    private static RegisterDesk loaded(RegisterDesk desk, String text) {
        desk.wipe();
        say(desk, text);
        due("fault of " + text, desk.fault(), NONE);
        due("load of " + text + " is taken", desk.load() >= 0 ? 1 : 0, 1);
        return desk;
    }

    private static void dueSteps(String about, RegisterDesk desk, int... want) {
        due(about + ": step(-1)", desk.step(-1), want.length);
        for (int i = 0; i < want.length; i++) {
            due(about + ": step(" + i + ")", desk.step(i), want[i]);
        }
        due(about + ": step behind the last", desk.step(want.length), NONE);
    }

    private static void dueColours(String about, RegisterDesk desk, int... want) {
        for (int i = 0; i < want.length; i++) {
            due(about + ": colour(" + (4 + i) + ")", desk.colour(4 + i), want[i]);
        }
    }

    private static void dueRounds(String about, RegisterDesk desk, int... want) {
        for (int i = 0; i < 5; i++) {
            due(about + ": rounds(" + i + ")", desk.rounds(i), want[i]);
        }
    }

    private static void dueCode(String about, RegisterDesk desk, int... want) {
        due(about + ": length of the code", desk.rounds(3), want.length / 4);
        for (int i = 0; i < want.length; i++) {
            due(about + ": code(" + i / 4 + ", " + i % 4 + ")", desk.code(i / 4, i % 4), want[i]);
        }
    }

    // 1
    private static void newObject() {
        RegisterDesk x = new RegisterDesk();
        int[] told = {0, 0, 3, 0, 0, 0};
        for (int what = 0; what < told.length; what++) {
            due("new: told(" + what + ")", x.told(what), told[what]);
        }
        due("new: instruction(0, 0)", x.instruction(0, 0), UNKNOWN);
        due("new: live(0)", x.live(0), UNKNOWN);
        due("new: edges(0)", x.edges(0), 14);
        due("new: fault()", x.fault(), NONE);
        dueSteps("new", x);
        dueRounds("new", x, 1, 0, 0, 0, 0);
        due("new: run(3)", x.run(3), 1);
        due("new: spent(3)", x.spent(3), 1);
        due("new: restore(0)", x.restore(0), STATE);
        due("new: restore(1)", x.restore(1), STATE);
    }

    // 2, 3
    private static void coloursAndWay() {
        RegisterDesk x = new RegisterDesk();
        due("colours(1)", x.colours(1), OUTSIDE);
        due("colours(5)", x.colours(5), OUTSIDE);
        due("way(-1)", x.way(-1), OUTSIDE);
        due("way(3)", x.way(3), OUTSIDE);
        for (int wild : WILD) {
            due("colours(" + wild + ")", x.colours(wild), OUTSIDE);
            due("way(" + wild + ")", x.way(wild), OUTSIDE);
        }
        due("colours(2)", x.colours(2), 3);
        due("colours(4)", x.colours(4), 2);
        due("colours(4) again", x.colours(4), 4);
        due("told(2)", x.told(2), 4);
        due("way(2)", x.way(2), 0);
        due("way(1)", x.way(1), 2);
        due("told(3)", x.told(3), 1);
        due("way(0)", x.way(0), 1);
    }

    // 4, 5
    private static void sayAndWipe() {
        RegisterDesk x = new RegisterDesk();
        due("say(32)", x.say(32), OUTSIDE);
        due("say(127)", x.say(127), OUTSIDE);
        for (int wild : WILD) {
            due("say(" + wild + ")", x.say(wild), OUTSIDE);
        }
        due("wipe of nothing", x.wipe(), 0);
        due("say(33)", x.say(33), 1);
        due("say(126)", x.say(126), 2);
        for (int i = 3; i <= 60; i++) {
            due("say the " + i + "th", x.say('.'), i);
        }
        due("say the 61st", x.say('.'), FULL);
        due("say a wrong 61st", x.say(32), OUTSIDE);
        due("told(0)", x.told(0), 60);
        due("wipe", x.wipe(), 60);
        due("wipe again", x.wipe(), 0);
        due("say behind wipe", x.say('.'), 1);
    }

    private static void dueFault(String text, int want) {
        RegisterDesk x = new RegisterDesk();
        say(x, text);
        due("fault of " + text, x.fault(), want);
        due("fault of " + text + " again", x.fault(), want);
        due("signs behind fault of " + text, x.told(0), text.length());
    }

    // 6
    private static void faults() {
        String[] good = {"", "#a0", "#l9", "#A0", "#D9", "=ab", "=Da", "+abc", "+AlD", "-ab", ".a", ".D", "@0", "@9", "^a0", "^D9",
            "#a1=ba+cab-dc.d@3^d3"};
        for (String text : good) {
            dueFault(text, NONE);
        }
        String[] wrongAtLast = {"a", "1", "!", "~", "#m", "#E", "#@", "#`", "#1", "#aa", "#a/", "#a:", "=1", "=a1", "=am", "+1", "+a1",
            "+ab1", "+ab+", "-1", "-a-", ".1", ".m", "@a", "@/", "@:", "^1", "^aa", "^a/", ".a?", ".aa", "@1a", "#a12", "+abca", ".a.b.?"};
        for (String text : wrongAtLast) {
            dueFault(text, text.length() - 1);
        }
        String[] wantsMore = {"#", "#a", "=", "=a", "+", "+a", "+ab", "-", "-a", ".", "@", "^", "^a", ".a#", "#a1+ab"};
        for (String text : wantsMore) {
            dueFault(text, text.length());
        }
        dueFault("#m1.z", 1);
        dueFault("?#m", 0);
        dueFault("@1".repeat(29) + "#a", 60);
        dueFault("@1".repeat(30), NONE);
    }

    // 7
    private static void loads() {
        RegisterDesk x = desk(".a.b", 3, 0);
        due("told(1)", x.told(1), 2);
        due("pad behind load", x.told(0), 0);
        say(x, "#a");
        due("load with a fault", x.load(), NO);
        due("pad behind a refused load", x.told(0), 2);
        due("program behind a refused load", x.told(1), 2);
        due("say goes on", x.say('7'), 3);
        due("load", x.load(), 1);
        due("instruction(0, 2)", x.instruction(0, 2), 7);
        due("load of an empty pad", x.load(), 0);
        due("instruction(0, 0) then", x.instruction(0, 0), UNKNOWN);
        due("told(4) then", x.told(4), 0);
        loaded(x, "@1".repeat(30));
        due("30 instructions", x.told(1), 30);
        due("instruction(29, 1)", x.instruction(29, 1), 1);
    }

    // 8
    private static void instructions() {
        RegisterDesk x = desk("#a7=bC+cDl-de.A@8^k9", 3, 0);
        int[][] want = {{0, 4, 7, NONE}, {1, 5, 2, NONE}, {2, 6, 3, 15}, {3, 7, 8, NONE}, {4, 0, NONE, NONE}, {5, 8, NONE, NONE}, {6, 14, 9, NONE}};
        for (int i = 0; i < want.length; i++) {
            for (int what = 0; what < 4; what++) {
                due("instruction(" + i + ", " + what + ")", x.instruction(i, what), want[i][what]);
            }
        }
        due("instruction(7, 0)", x.instruction(7, 0), UNKNOWN);
        due("instruction(-1, 0)", x.instruction(-1, 0), UNKNOWN);
        due("instruction(0, 4)", x.instruction(0, 4), OUTSIDE);
        due("instruction(0, -1)", x.instruction(0, -1), OUTSIDE);
        due("instruction(7, 4)", x.instruction(7, 4), UNKNOWN);
        for (int wild : WILD) {
            due("instruction(wild, 0)", x.instruction(wild, 0), UNKNOWN);
            due("instruction(0, wild)", x.instruction(0, wild), OUTSIDE);
            due("live(wild)", x.live(wild), UNKNOWN);
        }
    }

    private static void dueLive(String text, int... want) {
        RegisterDesk x = desk(text, 3, 0);
        for (int i = 0; i < want.length; i++) {
            due("live(" + i + ") of " + text, x.live(i), want[i]);
        }
        due("live behind the end of " + text, x.live(want.length), UNKNOWN);
        due("live(-1) of " + text, x.live(-1), UNKNOWN);
    }

    // 9
    private static void lives() {
        dueLive("#a1#b2+cab.c", 16, 48, 64, 0);
        dueLive("+aaa.a", 16, 0);
        dueLive("=ba.b", 32, 0);
        dueLive("#a1#a2.a", 0, 16, 0);
        dueLive("#A1.A.D", 9, 8, 0);
        // A jump leads both ways; without its label it leads on alone.
        dueLive("^a1#b1@1.b", 32, 32, 32, 0);
        dueLive("^a2.b", 32, 0);
        // The first label of a figure is the one that is meant.
        dueLive("@1.a@1.b^c1", 112, 112, 112, 112, 112);
        // Round after round: the need goes back through two jumps behind each other.
        dueLive("@1@2.a^b2^c1.d", 240, 240, 240, 240, 240, 0);
    }

    private static void dueEdges(String text, int... namesAndWants) {
        RegisterDesk x = desk(text, 3, 0);
        for (int i = 0; i + 1 < namesAndWants.length; i += 2) {
            due("edges(" + namesAndWants[i] + ") of " + text, x.edges(namesAndWants[i]), namesAndWants[i + 1]);
        }
    }

    // 10
    private static void edges() {
        dueEdges("", 0, 14, 1, 13, 2, 11, 3, 7, 4, 0, 15, 0, 16, UNKNOWN, -1, UNKNOWN, Integer.MIN_VALUE, UNKNOWN, Integer.MAX_VALUE, UNKNOWN);
        dueEdges("#a1#b2+cab.c", 4, 32, 5, 16, 6, 0);
        // A move spares the one that it reads, and none else.
        dueEdges("#a5=ba.a.b", 4, 0, 5, 0);
        dueEdges("#a5=ba#a6.a.b", 4, 32, 5, 16);
        dueEdges("#c1#a2=ba.c.b", 4, 64, 5, 64, 6, 48);
        // Only a move does.
        dueEdges("#a5-ba.a.b", 4, 32, 5, 16);
        // What is written need not be needed.
        dueEdges("#a1#b2.a", 4, 32, 5, 16);
        dueEdges("#A1#a2.a.A", 0, 14 + 16, 4, 1);
        dueEdges("#a1#A2.a", 0, 14 + 16, 4, 1);
        // What is but read from the start on has no edge with its like.
        dueEdges(".a.b", 4, 0, 5, 0);
    }

    private static void dueWeight(RegisterDesk x, int value, int cost, float weight) {
        due("weight(" + value + ", 0)", x.weight(value, 0), cost);
        due("weight(" + value + ", 1)", x.weight(value, 1), Float.floatToIntBits(weight));
    }

    // 11
    private static void weights() {
        RegisterDesk x = desk("+aaa.b", 3, 0);
        dueWeight(x, 4, 3, 3f);
        // A loop reaches from the first label of its figure to the jump.
        x = desk("#a1@1.a@1.b^b1.a", 3, 0);
        dueWeight(x, 4, 12, 12f / 1f);
        dueWeight(x, 5, 20, 20f);
        x = desk("^a1.a@1.a", 3, 0);
        dueWeight(x, 4, 3, 3f);
        x = desk("@1@2.a^a2^a1", 3, 0);
        dueWeight(x, 4, 30, 30f);
        x = desk("@1.a^a2@2", 3, 0);
        dueWeight(x, 4, 2, 2f);
        // #d has three neighbours, c has three: a and b (behind its writing), d.
        x = desk("#a1#b1#c1#d1.a.b.c.d.d.d.d.d", 3, 0);
        dueWeight(x, 4, 2, 2f / 3f);
        dueWeight(x, 7, 6, 6f / 3f);
        x.way(1);
        dueWeight(x, 4, 2, 2f);
        dueWeight(x, 7, 6, 6f);
        x.way(2);
        dueWeight(x, 4, 2, 1f / 3f);
        dueWeight(x, 8, 0, 1f);
        x.way(0);
        dueWeight(x, 8, 0, 0f);
        due("2 by 3 in bits", x.weight(4, 1), 0x3F2AAAAB);
        due("weight(3, 0)", x.weight(3, 0), UNKNOWN);
        due("weight(16, 0)", x.weight(16, 0), UNKNOWN);
        due("weight(3, 2)", x.weight(3, 2), UNKNOWN);
        due("weight(4, 2)", x.weight(4, 2), OUTSIDE);
        due("weight(4, -1)", x.weight(4, -1), OUTSIDE);
        due("weight(15, 0)", x.weight(15, 0), 0);
        for (int wild : WILD) {
            due("weight(wild, 0)", x.weight(wild, 0), UNKNOWN);
            due("weight(4, wild)", x.weight(4, wild), OUTSIDE);
        }
    }

    // 12
    private static void steps() {
        RegisterDesk x = desk("=aA#b1#c2.a.b.c", 3, 0);
        dueSteps("a move waits", x, 105, 106, 300);
        // c meets a, which is the register A by then; b meets A and c.
        dueColours("a move waits", x, 0, 2, 1);
        x.colours(2);
        dueSteps("not safe for a register", x, 504, 105, 106);
        // Both neighbours of the one are neighbours of the other, too, and have one fewer then.
        x = desk("#c1=dc#a2=ba.b.c.d", 2, 0);
        dueSteps("one fewer", x, 300, 301, 104, 106);
        dueColours("one fewer", x, 1, 1, 0, 0);
        dueRounds("one fewer", x, 1, 0, 0, 5, 2);
        // A move that is not safe is given up for the least that is low.
        x = desk("=ab+aCA", 2, 0);
        dueSteps("given up", x, 405, 105, 504);
        dueColours("given up", x, 1, 0);
        dueCode("given up", x, 1, 1, 0, NONE, 2, 1, 2, 0);
        // Both registers; then both one node already.
        dueSteps("registers", desk("=AB=ab.a", 3, 0), 200, 301, 104);
        dueSteps("one already", desk("=ab=ba.a", 3, 0), 300, 201, 104);
        dueSteps("itself", desk("=aa.a", 3, 0), 200, 104);
        dueSteps("neighbours", desk("#a5=ba#a6.a.b", 3, 0), 200, 104, 105);
        // A register may be met that is not given to values.
        x = desk("=Da.D", 2, 0);
        dueSteps("beyond K", x, 300);
        dueColours("beyond K", x, 3);
        weighing();
        x = desk(".a", 3, 0);
        due("step(-2)", x.step(-2), NONE);
        for (int wild : WILD) {
            due("step(wild)", x.step(wild), NONE);
        }
    }

    /** a, b and c are all beside each other; the ways pick another one in hope. */
    private static void weighing() {
        String text = "#a1#b2#c3.a.a.b.c.c";
        RegisterDesk x = desk(text, 2, 0);
        dueSteps("by cost and neighbours", x, 505, 104, 106);
        x.way(1);
        dueSteps("by cost", x, 505, 104, 106);
        x.way(2);
        dueSteps("by neighbours", x, 504, 105, 106);
        // c and d are no neighbours: 4 by 3 (a, b) is less than 3 by 2 (c, d), but 3 is less than 4.
        x = desk("#a1#b1#c1.c.c#d1.d.d.a.a.a.b.b.b", 2, 0);
        dueSteps("4 by 3", x, 504, 106, 105, 107);
        due("4 by 3: spilled(-1)", x.spilled(-1), 1);
        due("4 by 3: spilled(0)", x.spilled(0), 4);
        x.way(1);
        dueSteps("3", x, 506, 507, 104, 105);
        due("3: spilled(-1)", x.spilled(-1), 2);
        due("3: spilled(0)", x.spilled(0), 6);
        due("3: spilled(1)", x.spilled(1), 7);
        due("3: spilled(2)", x.spilled(2), NONE);
        x.way(2);
        dueSteps("1 by 3", x, 504, 106, 105, 107);
    }

    // 13, 14, 15, 16, 19
    private static void spills() {
        RegisterDesk x = desk("=aA#b1#c2.a.b.c", 2, 0);
        due("spilled(-1)", x.spilled(-1), 1);
        due("spilled(0)", x.spilled(0), 4);
        due("spilled(1)", x.spilled(1), NONE);
        due("spilled(-2)", x.spilled(-2), NONE);
        for (int wild : WILD) {
            due("spilled(wild)", x.spilled(wild), NONE);
        }
        dueRounds("spills", x, 3, 2, 4, 9, 1);
        dueColours("spills", x, 10, 11, 1, NONE);
        dueCode("spills", x,
            8, 0, 0, NONE, 0, 0, 1, NONE, 8, 0, 1, NONE, 0, 1, 2, NONE, 7, 0, 0, NONE,
            4, 0, NONE, NONE, 7, 0, 1, NONE, 4, 0, NONE, NONE, 4, 1, NONE, NONE);
        int[] run = {3, 33, 6, 1};
        int[] spent = {3, 33, 9, 1, 2, 2};
        for (int what = 0; what < 4; what++) {
            due("spills: run(" + what + ")", x.run(what), run[what]);
        }
        for (int what = 0; what < 6; what++) {
            due("spills: spent(" + what + ")", x.spent(what), spent[what]);
        }
        due("code(9, 0)", x.code(9, 0), UNKNOWN);
        due("code(-1, 0)", x.code(-1, 0), UNKNOWN);
        due("code(9, 4)", x.code(9, 4), UNKNOWN);
        due("code(0, 4)", x.code(0, 4), OUTSIDE);
        due("code(0, -1)", x.code(0, -1), OUTSIDE);
        due("colour(3)", x.colour(3), UNKNOWN);
        due("colour(16)", x.colour(16), UNKNOWN);
        due("rounds(-1)", x.rounds(-1), OUTSIDE);
        due("rounds(5)", x.rounds(5), OUTSIDE);
        due("spent(-1)", x.spent(-1), OUTSIDE);
        due("spent(6)", x.spent(6), OUTSIDE);
        for (int wild : WILD) {
            due("rounds(wild)", x.rounds(wild), OUTSIDE);
            due("colour(wild)", x.colour(wild), UNKNOWN);
            due("code(wild, 0)", x.code(wild, 0), UNKNOWN);
            due("code(0, wild)", x.code(0, wild), OUTSIDE);
            due("spent(wild)", x.spent(wild), OUTSIDE);
        }
        limits();
        notKnown();
    }

    /** The last that is known: 6 rounds, the name 63; and one that would need a 7th round. */
    private static void limits() {
        RegisterDesk x = desk("#B2.f.a#c3.e.f.B.g.i", 2, 2);
        dueRounds("6 rounds", x, 6, 9, 13, 22, 0);
        x = desk(".a+abb.j+bhg.k.i=bc.k=ac=cf.f.c.d=ch=aa.b=gc+caa=ca+bce=bb.c", 2, 2);
        due("name 63: rounds(0)", x.rounds(0), 4);
        due("name 63: rounds(2)", x.rounds(2), 48);
        String[] oneNameMore = {".a+bAg+aje.c.g.c=hk=Bf.i=ba-DC=cb#f7.d=ab=Ah.b.b=dc^c0=cb=gd",
            ".a.b=ga=Af+cfD.j+cCe.e.f.a.b+haA+fci.g+bgf#c8#c9.c.b.b.c+acb"};
        for (String text : oneNameMore) {
            dueRounds("name 64", desk(text, 2, 2), STATE, STATE, STATE, STATE, STATE);
        }
        x = desk("=bk.k.e.h.a.B+fgd=ah+cii=fa", 2, 2);
        dueRounds("7 rounds", x, STATE, STATE, STATE, STATE, STATE);
    }

    /** A and B are needed all along, so that a never finds a place. */
    private static void notKnown() {
        RegisterDesk x = desk("#a1.a.A.B", 2, 0);
        dueSteps("not known", x, 504);
        due("not known: spilled(-1)", x.spilled(-1), 1);
        dueRounds("not known", x, STATE, STATE, STATE, STATE, STATE);
        dueColours("not known", x, STATE, STATE);
        due("not known: code(0, 0)", x.code(0, 0), STATE);
        due("not known: code(99, 99)", x.code(99, 99), STATE);
        due("not known: rounds(5)", x.rounds(5), OUTSIDE);
        due("not known: colour(3)", x.colour(3), UNKNOWN);
        due("not known: spent(0)", x.spent(0), STATE);
        due("not known: spent(6)", x.spent(6), OUTSIDE);
        due("not known: run(0)", x.run(0), 3);
        x.colours(3);
        dueRounds("known", x, 1, 0, 0, 4, 0);
        due("known: colour(4)", x.colour(4), 2);
        due("known: spent(2)", x.spent(2), 4);
    }

    // 17, 18, 19
    private static void runs() {
        RegisterDesk x = desk("#a5+baa+cbb+cca+dcc+edd+fec+fff.f+fff+fff.f-gg.g", 4, 0);
        due("run(0)", x.run(0), 3);
        due("250", x.out(0), 250);
        due("1000 left over by 1000", x.out(1), 0);
        due("less of 0", x.out(2), 0);
        due("out(3)", x.out(3), NONE);
        due("out(-1)", x.out(-1), NONE);
        due("digest", x.run(1), 250L * 31 * 31 % 1000003);
        due("run(4)", x.run(4), OUTSIDE);
        due("run(-1)", x.run(-1), OUTSIDE);
        for (int wild : WILD) {
            due("run(wild)", x.run(wild), OUTSIDE);
            due("out(wild)", x.out(wild), NONE);
        }
        x = desk("#a9+aaa+aaa+aaa+aaa+aaa+aaa+aaa.a", 3, 0);
        due("9 times 128, left over", x.out(0), 152);
        endless();
        lastStep();
        // A jump that is taken without a label ends it; one that is not goes on.
        x = desk("#a1^a1.a", 3, 0);
        due("ended by a jump: run(2)", x.run(2), 2);
        due("ended by a jump: run(3)", x.run(3), 1);
        due("ended by a jump: spent(3)", x.spent(3), 1);
        x = desk("^a1.a", 3, 0);
        due("no jump of 0: run(0)", x.run(0), 1);
        // The first label of a figure is where a jump goes: a is told twice, then it is 0.
        x = desk("#a2@1.a-aa@1^a1", 3, 0);
        due("first label: run(0)", x.run(0), 2);
    }

    private static void endless() {
        RegisterDesk x = desk("#a9@1.a^a1", 3, 0);
        long digest = 0;
        for (int i = 0; i < 166; i++) {
            digest = (31 * digest + 9) % 1000003;
        }
        due("endless: run(0)", x.run(0), 166);
        due("endless: run(1)", x.run(1), digest);
        due("endless: run(2)", x.run(2), 500);
        due("endless: run(3)", x.run(3), 0);
        due("endless: out(165)", x.out(165), 9);
        due("endless: out(166)", x.out(166), NONE);
        due("endless: spent(0)", x.spent(0), 666);
        due("endless: spent(2)", x.spent(2), 2000);
        due("endless: spent(3)", x.spent(3), 0);
    }

    /** 4 steps, 45 times 11, and the rest: one that ends with the 500th step, and one that would go on. */
    private static void lastStep() {
        String text = "#b9+abb+aaa+aab@1.a.a.a.a.a.a.a.a-aa^a1";
        RegisterDesk x = desk(text + ".a", 3, 0);
        due("500 steps: run(2)", x.run(2), 500);
        due("500 steps: run(3)", x.run(3), 1);
        x = desk(text + ".a.a", 3, 0);
        due("501 steps: run(2)", x.run(2), 500);
        due("501 steps: run(3)", x.run(3), 0);
        due("501 steps: run(0)", x.run(0), 361);
        due("501 steps: spent(2)", x.spent(2), 501);
        due("501 steps: spent(3)", x.spent(3), 1);
        due("501 steps: spent(0)", x.spent(0), 362);
    }

    // 20, 21
    private static void images() {
        RegisterDesk x = desk("#a1.a", 4, 2);
        due("image(0)", x.image(0), 1);
        due("image(2)", x.image(2), OUTSIDE);
        due("image(-1)", x.image(-1), OUTSIDE);
        due("restore(2)", x.restore(2), OUTSIDE);
        due("restore(-1)", x.restore(-1), OUTSIDE);
        due("restore(1)", x.restore(1), STATE);
        for (int wild : WILD) {
            due("image(wild)", x.image(wild), OUTSIDE);
            due("restore(wild)", x.restore(wild), OUTSIDE);
        }
        loaded(x, "@1=bc.b^b1.b");
        x.colours(2);
        x.way(1);
        due("image(1)", x.image(1), 1);
        say(x, "#a");
        due("restore(0)", x.restore(0), 1);
        due("pad behind restore", x.told(0), 2);
        due("told(1)", x.told(1), 2);
        due("told(2)", x.told(2), 4);
        due("told(3)", x.told(3), 2);
        due("told(4)", x.told(4), 16);
        due("told(5)", x.told(5), 0);
        due("live(0)", x.live(0), 16);
        due("run(0)", x.run(0), 1);
        due("spent(2)", x.spent(2), 2);
        dueSteps("restored", x, 104);
        due("restore(1)", x.restore(1), 1);
        due("pad behind restore", x.told(0), 2);
        due("told(1)", x.told(1), 5);
        due("told(2)", x.told(2), 2);
        due("told(3)", x.told(3), 1);
        due("told(5)", x.told(5), 1);
        dueSteps("restored 1", x, 300, 105);
        due("weight(5, 0)", x.weight(5, 0), 31);
        due("live(3)", x.live(3), 96);
        // An image is not changed by what comes behind it, and can be kept anew.
        due("load", loaded(x, ".l").told(1), 1);
        due("restore(1) again", x.restore(1), 1);
        due("told(1)", x.told(1), 5);
        due("image(0) anew", x.image(0), 1);
        loaded(x, "");
        due("restore(0)", x.restore(0), 1);
        due("told(1)", x.told(1), 5);
        due("jump of what is restored", x.live(3), 96);
    }

    // 22
    private static void tolds() {
        RegisterDesk x = desk("=aB=CC#l1@5.d", 2, 1);
        say(x, "???");
        int[] want = {3, 5, 2, 1, 1 << 4 | 1 << 1 | 1 << 2 | 1 << 15 | 1 << 7, 2};
        for (int what = 0; what < want.length; what++) {
            due("told(" + what + ")", x.told(what), want[what]);
        }
        due("told(6)", x.told(6), OUTSIDE);
        due("told(-1)", x.told(-1), OUTSIDE);
        for (int wild : WILD) {
            due("told(wild)", x.told(wild), OUTSIDE);
        }
    }

    private static void constants() {
        int[] got = {RegisterDesk.NONE, RegisterDesk.UNKNOWN, RegisterDesk.OUTSIDE, RegisterDesk.STATE, RegisterDesk.FULL, RegisterDesk.NO};
        int[] want = {NONE, UNKNOWN, OUTSIDE, STATE, FULL, NO};
        for (int i = 0; i < want.length; i++) {
            due("constant " + i, got[i], want[i]);
        }
    }

    public static void main(String[] args) {
        constants();
        newObject();
        coloursAndWay();
        sayAndWipe();
        faults();
        loads();
        instructions();
        lives();
        edges();
        weights();
        steps();
        spills();
        runs();
        images();
        tolds();
        System.out.println(checks + " checks, " + wrong + " wrong");
        if (wrong != 0) {
            System.exit(1);
        }
    }
}
