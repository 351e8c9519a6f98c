import java.util.function.Consumer;
import java.util.function.ToIntFunction;

/**
 * Each refusal of each call: its answer, its number, and that all stays as it was. Of two objects that were
 * made alike one makes the refused call; behind it all that can be seen of both must be the same.
 */
public final class RefusalTest {
    private static final int MIN = Integer.MIN_VALUE;
    private static final int MAX = Integer.MAX_VALUE;
    /** Numbers out of 0 .. n - 1, on either side and far away. */
    private static final int[] FAR = {-1, MIN, MAX};
    private static final String RICH = "law of 10;look a,b,c;point p,q,r;set a,b tells 1,2,3,4;set b tells 4,6;set a,c tells 3,0,0,7;"
        + "line p,q,r is odd;ray 1,0,0,0;ray 0,1,0,0;run a 1,a 0;run b 1";

    private static String promise = "";
    private static Consumer<NotAtOnce> setup = x -> { };

    public static void main(String[] args) {
        withoutBook();
        books();
        hidden();
        cycles();
        bets();
        lines();
        rays();
        runs();
        acts();
        undoAndRedo();
        marks();
        seen();
        nothingThrows();
        Edge.end("RefusalTest");
    }

    // ---- states

    private static void nothing(NotAtOnce x) {
    }

    /** No BOOK, but a tape and a fault. */
    private static void fed(NotAtOnce x) {
        Edge.give(x, "law of 0");
        Edge.feed(x, "law of 9;look u,v");
    }

    /** A BOOK with coins, acts to undo and to redo, a mark, and a tape. */
    private static void rich(NotAtOnce x) {
        Edge.give(x, RICH);
        x.shift(0, 3, 0, 2);
        x.mark();
        x.flip(1);
        x.drop(1);
        x.undo();
        stake(x);
        Edge.feed(x, "law of 9;look u,v");
    }

    private static void stake(NotAtOnce x) {
        for (int set = 0; set < 3; set++) {
            for (int outcome = 0; outcome < 4; outcome++) {
                x.stake(set, outcome, 7 * set + outcome + 1);
            }
        }
    }

    private static Consumer<NotAtOnce> rich(String text) {
        return x -> {
            Edge.give(x, text);
            x.mark();
            x.flip(0);
            x.flip(0);
            x.undo();
            x.stake(0, 1, 9);
            Edge.feed(x, "law of 9;look u,v");
        };
    }

    // ---- the check

    private static void at(String words, Consumer<NotAtOnce> made) {
        promise = words;
        setup = made;
        Edge.sentence(words);
    }

    private static void no(String what, int answer, int trouble, ToIntFunction<NotAtOnce> call) {
        NotAtOnce untouched = new NotAtOnce();
        setup.accept(untouched);
        NotAtOnce x = new NotAtOnce();
        setup.accept(x);
        Edge.is(promise + " " + what, call.applyAsInt(x), answer);
        Edge.is(promise + " " + what + ", trouble", x.trouble(), trouble);
        Edge.is(promise + " " + what + ", where", x.where(), -1);
        Edge.is(promise + " " + what + ": what stays", Dump.of(x, 50), Dump.of(untouched, 50));
    }

    private static void none(String what, int trouble, ToIntFunction<NotAtOnce> call) {
        no(what, -1, trouble, call);
    }

    private static int bit(boolean answer) {
        return answer ? 1 : 0;
    }

    // ---- 1 (no BOOK), of every call

    private static void withoutBook() {
        for (Consumer<NotAtOnce> made : java.util.List.<Consumer<NotAtOnce>>of(RefusalTest::nothing, RefusalTest::fed)) {
            at("No BOOK.", made);
            none("share", 1, x -> x.share(false));
            none("share", 1, x -> x.share(true));
            none("together", 1, x -> x.together(0, 0, 1, 0, true, true));
            none("extend", 1, x -> x.extend(0, 0));
            none("level", 1, x -> x.level());
            none("hidden", 1, x -> x.hidden());
            none("answer", 1, x -> x.answer(0));
            none("disturbed", 1, x -> x.disturbed());
            no("same", -1000, 1, x -> x.same(0));
            none("cycles", 1, x -> x.cycles());
            none("cycle", 1, x -> x.cycle(0));
            no("excess", -1000, 1, x -> x.excess(7));
            no("excess", -1000, 1, x -> x.excess(-1));
            none("widest", 1, x -> x.widest());
            no("stake", 0, 1, x -> bit(x.stake(0, 0, 1)));
            no("stake", 0, 1, x -> bit(x.stake(0, 0, 100)));
            none("wins", 1, x -> x.wins());
            none("worst", 1, x -> x.worst());
            none("worstAt", 1, x -> x.worstAt());
            none("bars", 1, x -> x.bars());
            none("fair", 1, x -> x.fair(false));
            none("fair", 1, x -> x.fair(true));
            none("ways", 1, x -> x.ways());
            none("forced", 1, x -> x.forced(0));
            none("core", 1, x -> x.core());
            none("can", 1, x -> x.can(0));
            none("can", 1, x -> x.can(-1));
            none("game", 1, x -> x.game());
            none("square", 1, x -> x.square(0, 1));
            none("corners", 1, x -> x.corners());
            none("colours", 1, x -> x.colours());
            none("ones", 1, x -> x.ones());
            none("spare", 1, x -> x.spare());
            none("critical", 1, x -> x.critical());
            none("memory", 1, x -> x.memory());
            none("machine", 1, x -> x.machine(0, 0, false));
            no("flip", 0, 1, x -> bit(x.flip(0)));
            no("drop", 0, 1, x -> bit(x.drop(0)));
            no("forget", 0, 1, x -> bit(x.forget(0)));
            no("shift", 0, 1, x -> bit(x.shift(0, 0, 1, 1)));
            no("shift", 0, 1, x -> bit(x.shift(0, 0, 1, 0)));
            no("undo", 0, 6, x -> bit(x.undo()));
            no("redo", 0, 6, x -> bit(x.redo()));
            none("mark", 1, x -> x.mark());
            no("back", 0, 1, x -> bit(x.back(0)));
            none("act", 1, x -> x.act(0, 0));
            none("times", 1, x -> x.times(0, 0));
            none("look", 1, x -> x.look(0, false));
            none("coins", 1, x -> x.coins(0, 0));
        }
    }

    // ---- 3

    private static void books() {
        at("NONE: 2 (THE TAPE stays); 4 (the BOOK stays).", RefusalTest::rich);
        for (int n : new int[] {-1, 21, 900, 901, MIN, MAX}) {
            none("book " + n, 2, x -> x.book(n));
        }
        setup = RefusalTest::fed;
        for (int n : new int[] {-1, 21, 900, 901, MIN, MAX}) {
            none("book " + n, 2, x -> x.book(n));
        }
        // by 4 the tape is empty, the fault is another, all else stays
        String[] faulty = {"", "law", "law of 1;look a;run b 1", "law of 1;look a,a", "law of 61", "look a,b,c,d,e,f,g", "look a",
            "law of 2;look z,y;set z tells 1,1;set y tells 2,1"};
        for (String text : faulty) {
            NotAtOnce x = new NotAtOnce();
            rich(x);
            x.book(0);
            Edge.is("book of " + text, Edge.give(x, text), -1);
            Edge.is("trouble of " + text, x.trouble(), 4);
            Edge.is("tape behind " + text, x.size(10), 0);
            NotAtOnce untouched = new NotAtOnce();
            rich(untouched);
            untouched.book(0);
            String seen = Dump.of(x, 60).replaceFirst("fault \\d", "fault .");
            Edge.is("what stays behind " + text, seen, Dump.of(untouched, 60).replaceFirst("fault \\d", "fault ."));
        }
    }

    // ---- 6 .. 13

    private static void hidden() {
        at("NONE: 1 (looks, unlike; answers); 6 (not MIXED).", RefusalTest::rich);
        for (int look : new int[] {-1, 3, 6, MIN, MAX}) {
            none("together", 1, x -> x.together(look, 0, 1, 0, true, false));
            none("together", 1, x -> x.together(1, 0, look, 0, true, false));
        }
        for (int answer : new int[] {-1, 2, MIN, MAX}) {
            none("together", 1, x -> x.together(0, answer, 1, 0, true, false));
            none("together", 1, x -> x.together(0, 0, 1, answer, true, false));
        }
        none("together", 1, x -> x.together(1, 0, 1, 1, true, false));
        none("together", 6, x -> x.together(0, 0, 1, 0, true, false));
        at("Whether an OUTCOME EXTENDS: 1, 0. NONE: 1.", RefusalTest::rich);
        outcomes((x, set, outcome) -> x.extend(set, outcome));
        at("The i-th of them, by numbers. NONE: 1 (no BOOK, i).", RefusalTest::rich);
        for (int i : FAR) {
            none("answer " + i, 1, x -> x.answer(i));
        }
        none("answer", 1, x -> x.answer(x.hidden()));
        at("SAME. -1,000: 1 (set; of one look).", RefusalTest::rich);
        for (int set : new int[] {-1, 1, 3, MIN, MAX}) {
            no("same " + set, -1000, 1, x -> x.same(set));
        }
    }

    private interface OutcomeCall {
        int answer(NotAtOnce x, int set, int outcome);
    }

    /** Sets 0 and 2 have four OUTCOMES, set 1 has two. */
    private static void outcomes(OutcomeCall call) {
        int[][] wrong = {{-1, 0}, {3, 0}, {8, 0}, {MIN, 0}, {MAX, 0}, {0, -1}, {0, 4}, {0, MIN}, {0, MAX}, {1, 2}, {1, 3}, {1, -1}, {2, 4},
            {3, 4}, {1 << 30, 0}, {0, 1 << 30}};
        for (int[] w : wrong) {
            none("of " + w[0] + " " + w[1], 1, x -> call.answer(x, w[0], w[1]));
        }
    }

    // ---- 15, 16

    private static void cycles() {
        String ring = "law of 1;look a,b,c;set a,b tells 1,0,0,0;set b,c tells 1,0,0,0;set c,a tells 1,0,0,0";
        at("The i-th CYCLE, by bits. NONE: 1 (no BOOK, i).", rich(ring));
        for (int i : new int[] {-1, 1, 2, MIN, MAX}) {
            none("cycle " + i, 1, x -> x.cycle(i));
        }
        at("EXCESS of a CYCLE (bits). -1,000: 1 (no BOOK); 5 (it is none).", rich(ring));
        for (int bits : new int[] {0, 1, 2, 3, 4, 5, 6, 8, 15, -1, MIN, MAX}) {
            no("excess " + bits, -1000, 5, x -> x.excess(bits));
        }
    }

    // ---- 18

    private static void bets() {
        at("So many coins (0 .. 99) on an OUTCOME: true; false: 1; 2.", RefusalTest::rich);
        outcomes((x, set, outcome) -> bit(x.stake(set, outcome, 5)) - 1);
        outcomes((x, set, outcome) -> bit(x.stake(set, outcome, 100)) - 1);
        for (int coins : new int[] {-1, 100, MIN, MAX}) {
            no("stake " + coins, 0, 2, x -> bit(x.stake(0, 0, coins)));
            no("stake " + coins, 0, 2, x -> bit(x.stake(1, 1, coins)));
        }
    }

    // ---- 25, 27

    private static void lines() {
        at("FORCED of a point; -2 if it isn't. NONE: 1; 6 (no WAY).", RefusalTest::rich);
        for (int point : new int[] {-1, 3, 9, MIN, MAX}) {
            none("forced " + point, 1, x -> x.forced(point));
        }
        at("6 (no WAY).", rich("law of 1;look a;set a tells 1,0;point p,q,r;line p,q,r is odd;line p,q,r is even"));
        none("forced", 6, x -> x.forced(0));
        none("forced, no point", 1, x -> x.forced(3));
        at("NONE: 1 (no BOOK); 2 (bits of none such).", RefusalTest::rich);
        for (int bits : new int[] {-1, 2, 3, 256, MIN, MAX}) {
            none("can " + bits, 2, x -> x.can(bits));
        }
    }

    // ---- 29, 32, 34

    private static void rays() {
        at("Whether two rays are SQUARE: 1, 0. NONE: 1 (one twice, too).", RefusalTest::rich);
        for (int ray : new int[] {-1, 2, 18, MIN, MAX, 0, 1}) {
            none("one twice " + ray, 1, x -> x.square(ray, ray));
        }
        for (int ray : new int[] {-1, 2, 18, MIN, MAX}) {
            none("square", 1, x -> x.square(0, ray));
            none("square", 1, x -> x.square(ray, 1));
        }
        at("CRITICAL, as bits. NONE: 1 (no BOOK); 6 (there is a COLOUR).", RefusalTest::rich);
        none("critical", 6, x -> x.critical());
        at("NONE: 1 (no BOOK); 6 (there is none).", rich("law of 1;look a;set a tells 1,0;ray 0,0,0,1;ray 0,0,1,0;ray 1,1,0,0;ray 1,-1,0,0;"
            + "ray 0,1,0,0;ray 1,0,1,0;ray 1,0,-1,0;ray 1,-1,1,-1;ray 1,-1,-1,1;ray 0,0,1,1;ray 1,1,1,1;ray 0,1,0,-1;ray 1,0,0,1;"
            + "ray 1,0,0,-1;ray 0,1,-1,0;ray 1,1,-1,1;ray 1,1,1,-1;ray -1,1,1,1"));
        none("ones", 6, x -> x.ones());
    }

    // ---- 36

    private static void runs() {
        at("NONE: 1 (state 0 .. 2, look); 6 (3 don't do).", RefusalTest::rich);
        for (int state : new int[] {-1, 3, MIN, MAX}) {
            none("machine, state " + state, 1, x -> x.machine(state, 0, false));
        }
        for (int look : new int[] {-1, 3, 6, MIN, MAX}) {
            none("machine, look " + look, 1, x -> x.machine(0, look, true));
        }
        setup = rich("law of 1;look a;set a tells 1,0;run a 1;run a 0");
        none("machine", 6, x -> x.machine(0, 0, false));
        none("machine", 6, x -> x.machine(2, 0, true));
        none("machine, no look", 1, x -> x.machine(0, 1, true));
    }

    // ---- 37 .. 40

    private static void acts() {
        at("FLIP: true; false: 1.", RefusalTest::rich);
        for (int look : new int[] {-1, 3, 6, 32, MIN, MAX}) {
            no("flip " + look, 0, 1, x -> bit(x.flip(look)));
        }
        at("DROP: true; false: 1.", RefusalTest::rich);
        for (int set : new int[] {-1, 3, 8, MIN, MAX}) {
            no("drop " + set, 0, 1, x -> bit(x.drop(set)));
        }
        at("FORGET: true; false: 1; 5 (no set has it).", RefusalTest::rich);
        for (int look : new int[] {-1, 3, 6, 32, MIN, MAX}) {
            no("forget " + look, 0, 1, x -> bit(x.forget(look)));
        }
        setup = rich("law of 1;look a,b;set a tells 1,0;set a tells 0,1");
        no("forget", 0, 5, x -> bit(x.forget(1)));
        at("SHIFT (n 1 .. 60): true; false: 1 (OUTCOMES, unlike); 2; 5 (it didn't come so often).", RefusalTest::rich);
        outcomes((x, set, outcome) -> bit(x.shift(set, outcome, 1, 1)) - 1);
        outcomes((x, set, outcome) -> bit(x.shift(set, 1, outcome, 1)) - 1);
        outcomes((x, set, outcome) -> bit(x.shift(set, outcome, 0, 61)) - 1);
        for (int outcome = 0; outcome < 4; outcome++) {
            int one = outcome;
            no("shift, alike", 0, 1, x -> bit(x.shift(0, one, one, 1)));
            no("shift, alike, a number too", 0, 1, x -> bit(x.shift(0, one, one, 0)));
        }
        for (int n : new int[] {0, -1, 61, MIN, MAX}) {
            no("shift of " + n, 0, 2, x -> bit(x.shift(0, 0, 1, n)));
        }
        // of set 0 now 2, 3 came as 0, 1, and 2, 3 as 2, 3
        no("shift of too many", 0, 5, x -> bit(x.shift(0, 0, 1, x.times(0, 0) + 1)));
        no("shift of too many", 0, 5, x -> bit(x.shift(0, 3, 1, 60)));
        no("shift of what never came", 0, 5, x -> bit(x.shift(2, 1, 0, 1)));
    }

    // ---- 41, 42

    private static void undoAndRedo() {
        at("UNDO: true; false: 6.", x -> {
            Edge.give(x, RICH);
            stake(x);
            x.mark();
        });
        no("undo, nothing", 0, 6, x -> bit(x.undo()));
        no("redo, nothing", 0, 6, x -> bit(x.redo()));
        at("REDO: true; false: 6.", x -> {
            Edge.give(x, RICH);
            x.flip(0);
            x.drop(2);
            stake(x);
            x.mark();
        });
        no("redo, nothing was undone", 0, 6, x -> bit(x.redo()));
        at("if no ACT came since", x -> {
            Edge.give(x, RICH);
            x.flip(0);
            x.undo();
            x.flip(1);
            stake(x);
        });
        no("redo, an act came since", 0, 6, x -> bit(x.redo()));
        at("UNDO: true; false: 6.", x -> {
            Edge.give(x, RICH);
            x.flip(0);
            x.flip(1);
            x.undo();
            x.undo();
            stake(x);
        });
        no("undo, all was undone", 0, 6, x -> bit(x.undo()));
    }

    // ---- 43, 44

    private static void marks() {
        at("A MARK: its number. NONE: 1 (no BOOK); 3.", x -> {
            Edge.give(x, RICH);
            x.mark();
            x.flip(0);
            x.mark();
            x.mark();
            x.flip(1);
            x.mark();
            x.flip(2);
            x.undo();
            stake(x);
        });
        none("mark", 3, x -> x.mark());
        at("THE TABLE is as by a MARK (all MARKS stay): true; false: 1.", RefusalTest::rich);
        for (int mark : new int[] {-1, 1, 2, 4, MIN, MAX}) {
            no("back " + mark, 0, 1, x -> bit(x.back(mark)));
        }
    }

    // ---- 2, 45 .. 50

    private static void seen() {
        at("2 from (-2), 3 to (-2), 4 n (-2). NONE: 1.", RefusalTest::rich);
        for (int i : new int[] {-1, 2, 3, 20, MIN, MAX}) {
            none("act " + i, 1, x -> x.act(i, 0));
        }
        for (int what : new int[] {-1, 5, MIN, MAX}) {
            none("act, part " + what, 1, x -> x.act(0, what));
        }
        at("How often an OUTCOME came. NONE: 1.", RefusalTest::rich);
        outcomes((x, set, outcome) -> x.times(set, outcome));
        at("The first look of a set, or the second (-2). NONE: 1.", RefusalTest::rich);
        for (int set : new int[] {-1, 3, 8, MIN, MAX}) {
            none("look " + set, 1, x -> x.look(set, false));
            none("look " + set, 1, x -> x.look(set, true));
        }
        at("Coins on an OUTCOME. NONE: 1.", RefusalTest::rich);
        outcomes((x, set, outcome) -> x.coins(set, outcome));
        // these leave trouble, too, as it was
        at("NONE for others; 0 for what there isn't.", RefusalTest::rich);
        for (int what : new int[] {-1, 11, MIN, MAX}) {
            none("size " + what, 0, x -> x.size(what));
        }
        at("NoSuchElementException if there is none such.", RefusalTest::rich);
        for (int i : new int[] {-1, 32, MIN, MAX}) {
            no("led " + i, -77, 0, x -> Edge.led(x, i));
        }
        at("NONE, and none comes, if there would be more than 900.", x -> {
            Edge.give(x, RICH);
            Edge.feed(x, "law of 9;look u,v" + " ".repeat(883));
        });
        none("feed", 0, x -> x.feed(0x21212121, 0x21212121, 0x21212121, 0x21212121, 0x21212121));
    }

    // ---- no call throws but led, whatever it is given

    private static void nothingThrows() {
        Edge.sentence("NoSuchElementException if there is none such.");
        int[] numbers = {MIN, MIN + 1, -65536, -33, -32, -2, -1, 0, 1, 2, 3, 4, 5, 6, 7, 8, 9, 15, 17, 18, 19, 20, 21, 31, 32, 33, 60, 61, 63,
            64, 99, 100, 255, 256, 900, 901, 65536, 1 << 30, MAX - 1, MAX};
        for (Consumer<NotAtOnce> made : java.util.List.<Consumer<NotAtOnce>>of(RefusalTest::nothing, RefusalTest::fed, RefusalTest::rich)) {
            for (int one : numbers) {
                for (int other : numbers) {
                    NotAtOnce x = new NotAtOnce();
                    made.accept(x);
                    askAll(x, one, other);
                    doAll(x, one, other);
                    askAll(x, other, one);
                }
            }
        }
    }

    private static void askAll(NotAtOnce x, int i, int j) {
        int sum = x.together(i, j, j, i, true, false) + x.together(i, 1, j, 0, false, true) + x.extend(i, j) + x.answer(i)
            + x.same(i) + x.cycle(i) + x.excess(i) + x.forced(i) + x.can(i) + x.square(i, j) + x.machine(i, j, true)
            + x.act(i, j) + x.times(i, j) + x.look(i, true) + x.coins(i, j) + Edge.led(x, i) + x.size(i);
        Edge.is("never above what there may be", sum < 100000, true);
    }

    private static void doAll(NotAtOnce x, int i, int j) {
        x.stake(i, j, i);
        x.stake(i, 0, j);
        x.shift(i, j, 0, 1);
        x.shift(i, 0, j, 1);
        x.shift(0, i, j, i);
        x.shift(1, 0, i, j);
        x.flip(i);
        x.forget(j);
        x.drop(i);
        x.undo();
        x.back(j);
        x.feed(i, j, i, j, i);
        x.book(j);
        x.book(i);
    }
}
