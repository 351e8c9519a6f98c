/** Each sentence of Terms III on ACTS and MARKS, of Terms IV, and of promises 37 to 45, 50 and 51, that names an edge. */
public final class ActEdgeTest {
    private static final String TWO = "law of 10;look a,b,c;set a,b tells 1,2,3,4;set b tells 4,6";
    private static final int FAR = Integer.MAX_VALUE;

    public static void main(String[] args) {
        flipForms();
        flipRefused();
        dropEach();
        dropRefused();
        forgetForms();
        forgetRefused();
        shiftAtEdges();
        shiftRefused();
        undoNothing();
        undoTwenty();
        undoKeepsTheRest();
        undoOfEight();
        redoLatest();
        redoBarred();
        redoNotBarred();
        coinsBehindActs();
        coinsBehindUndo();
        marksFour();
        marksKeepTheTable();
        markRefused();
        backRefused();
        backEndsActs();
        actParts();
        actNumbers();
        actRefused();
        sizes();
        sizesOfNothing();
        troubles();
        troubleStays();
        lastCalls();
        Edge.end("ActEdgeTest");
    }

    // ---- 37

    private static void flipForms() {
        Edge.sentence("FLIP a look: in all sets its answers 0 and 1 change places.");
        NotAtOnce x = Edge.of("law of 10;look a,b,c,d,e,f;set a,f tells 1,2,3,4;set f,a tells 1,2,3,4;set f tells 4,6;set a tells 3,7;"
            + "set b,c tells 1,2,3,4;set a,f tells 1,2,3,4;set f,a tells 1,2,3,4;set f tells 9,1");
        Edge.is("the last look", x.flip(5), true);
        Edge.times("the second of two", x, 0, 2, 1, 4, 3);
        Edge.times("the first of two", x, 1, 3, 4, 1, 2);
        Edge.times("alone", x, 2, 6, 4);
        Edge.times("not in it", x, 3, 3, 7);
        Edge.times("not in it", x, 4, 1, 2, 3, 4);
        Edge.times("the last sets, too", x, 5, 2, 1, 4, 3);
        Edge.times("the last sets, too", x, 6, 3, 4, 1, 2);
        Edge.times("the last sets, too", x, 7, 1, 9);
        Edge.is("the first look", x.flip(0), true);
        Edge.times("both", x, 0, 4, 3, 2, 1);
        Edge.times("both", x, 1, 4, 3, 2, 1);
        Edge.times("alone", x, 3, 7, 3);
        Edge.is("twice is as before", x.flip(5), true);
        Edge.times("as before", x, 2, 4, 6);
        Edge.times("as before", x, 7, 9, 1);
        Edge.is("three acts", x.size(7), 3);
    }

    private static void flipRefused() {
        Edge.sentence("FLIP: true; false: 1.");
        NotAtOnce x = Edge.of(TWO);
        Edge.is("of no set, an act still", x.flip(2), true);
        Edge.is("trouble", x.trouble(), 0);
        Edge.is("one act", x.size(7), 1);
        for (int look : new int[] {-1, 3, 6, 31, 32, FAR, FAR + 1}) {
            Edge.refused("flip " + look, x, x.flip(look), 1);
        }
        Edge.is("no act", x.size(7), 1);
        Edge.times("as told", x, 0, 1, 2, 3, 4);
        Edge.give(x, "law of 1;look a");
        Edge.is("without sets, an act still", x.flip(0), true);
        Edge.is("one act", x.size(7), 1);
    }

    // ---- 38

    private static void dropEach() {
        Edge.sentence("DROP a set.");
        for (int gone = 0; gone < 8; gone++) {
            StringBuilder text = new StringBuilder("law of 60;look a,b");
            for (int set = 0; set < 8; set++) {
                text.append(set % 2 == 0 ? ";set a tells " : ";set a,b tells 0,0,").append(60 - set).append(",").append(set);
            }
            NotAtOnce x = Edge.of(text.toString());
            Edge.is("drop " + gone, x.drop(gone), true);
            Edge.is("seven are left", x.size(2), 7);
            for (int set = 0; set < 7; set++) {
                int was = set < gone ? set : set + 1;
                Edge.is("its last outcome", x.times(set, was % 2 == 0 ? 1 : 3), was);
                Edge.is("its second look", x.look(set, true), was % 2 == 0 ? -2 : 1);
            }
            Edge.refused("the last is gone", x, x.times(7, 0), -1, 1);
        }
        NotAtOnce x = Edge.of("law of 1;look a;set a tells 1,0");
        Edge.is("the only one", x.drop(0), true);
        Edge.is("none is left", x.size(2), 0);
        Edge.refused("none is left", x, x.drop(0), 1);
        x.undo();
        Edge.times("it is there again", x, 0, 1, 0);
    }

    private static void dropRefused() {
        Edge.sentence("DROP: true; false: 1.");
        NotAtOnce x = Edge.of(TWO);
        for (int set : new int[] {-1, 2, 3, 8, FAR, FAR + 1}) {
            Edge.refused("drop " + set, x, x.drop(set), 1);
        }
        Edge.is("no act", x.size(7), 0);
        Edge.is("two sets", x.size(2), 2);
        Edge.is("the last", x.drop(1), true);
        Edge.is("trouble", x.trouble(), 0);
        Edge.refused("no more", x, x.drop(1), 1);
        Edge.is("one act", x.size(7), 1);
    }

    // ---- 39

    private static void forgetForms() {
        Edge.sentence("FORGET a look: sets of it alone go; of others its answers are put together, and that one look stays.");
        NotAtOnce x = Edge.of("law of 10;look a,b,c;set a tells 1,9;set a,b tells 1,2,3,4;set b,a tells 1,2,3,4;set a tells 2,8;"
            + "set b,c tells 4,3,2,1;set a tells 3,7;set c,a tells 0,0,10,0;set a tells 4,6");
        Edge.is("forget", x.forget(0), true);
        Edge.is("four of it alone go, the first and the last too", x.size(2), 4);
        Edge.times("the second stays", x, 0, 4, 6);
        Edge.times("the first stays", x, 1, 3, 7);
        Edge.times("it isn't in this", x, 2, 4, 3, 2, 1);
        Edge.times("the first stays", x, 3, 0, 10);
        int[][] looks = {{1, -2}, {1, -2}, {1, 2}, {2, -2}};
        for (int set = 0; set < 4; set++) {
            Edge.is("first look of " + set, x.look(set, false), looks[set][0]);
            Edge.is("second look of " + set, x.look(set, true), looks[set][1]);
        }
        Edge.is("one act", x.size(7), 1);
        Edge.is("the look is still there", x.size(0), 3);
        Edge.is("and can be flipped", x.flip(0), true);
        x.undo();
        x.undo();
        Edge.is("all are there again", x.size(2), 8);
        Edge.times("the first", x, 0, 1, 9);
        Edge.times("of two", x, 1, 1, 2, 3, 4);
        Edge.times("the last", x, 7, 4, 6);
        Edge.give(x, "law of 1;look a" + ";set a tells 1,0".repeat(8));
        Edge.is("forget", x.forget(0), true);
        Edge.is("all eight go", x.size(2), 0);
        Edge.give(x, "law of 60;look a,b" + ";set a,b tells 15,15,15,15".repeat(8));
        Edge.is("forget", x.forget(1), true);
        Edge.is("all eight stay", x.size(2), 8);
        Edge.times("of a", x, 7, 30, 30);
        Edge.is("forget", x.forget(0), true);
        Edge.is("all eight go", x.size(2), 0);
    }

    private static void forgetRefused() {
        Edge.sentence("FORGET: true; false: 1; 5 (no set has it).");
        NotAtOnce x = Edge.of(TWO);
        for (int look : new int[] {-1, 3, 6, 32, FAR, FAR + 1}) {
            Edge.refused("forget " + look, x, x.forget(look), 1);
        }
        Edge.refused("no set has it", x, x.forget(2), 5);
        Edge.is("no act", x.size(7), 0);
        Edge.is("as told", x.size(2), 2);
        Edge.is("forget", x.forget(0), true);
        Edge.is("trouble", x.trouble(), 0);
        Edge.refused("no set has it now", x, x.forget(0), 5);
        Edge.is("one act", x.size(7), 1);
        Edge.give(x, "law of 1;look a");
        Edge.refused("no sets", x, x.forget(0), 5);
        NotAtOnce none = new NotAtOnce();
        Edge.refused("no book", none, none.forget(0), 1);
    }

    // ---- 40

    private static void shiftAtEdges() {
        Edge.sentence("SHIFT of n in a set from an OUTCOME to another one.");
        NotAtOnce x = Edge.of("law of 60;look a,b;set a,b tells 60,0,0,0;set a tells 59,1");
        for (int from = 0; from < 4; from++) {
            int to = (from + 1) % 4;
            Edge.is("all of it", x.shift(0, from, to, 60), true);
            Edge.is("trouble", x.trouble(), 0);
            Edge.is("none is left", x.times(0, from), 0);
            Edge.is("all are there", x.times(0, to), 60);
        }
        Edge.is("one of it", x.shift(0, 0, 3, 1), true);
        Edge.times("one of it", x, 0, 59, 0, 0, 1);
        Edge.is("all but one", x.shift(0, 0, 3, 58), true);
        Edge.times("all but one", x, 0, 1, 0, 0, 59);
        Edge.is("the last one", x.shift(1, 1, 0, 1), true);
        Edge.times("the other set", x, 1, 60, 0);
        Edge.times("not the first", x, 0, 1, 0, 0, 59);
    }

    private static void shiftRefused() {
        Edge.sentence("SHIFT (n 1 .. 60): true; false: 1 (OUTCOMES, unlike); 2; 5 (it didn't come so often).");
        NotAtOnce x = Edge.of("law of 60;look a,b;set a,b tells 59,1,0,0;set a tells 30,30");
        for (int n : new int[] {0, -1, 61, 62, FAR, FAR + 1}) {
            Edge.refused("shift of " + n, x, x.shift(0, 0, 1, n), 2);
            Edge.refused("shift of " + n + " of what never came", x, x.shift(0, 3, 1, n), 2);
        }
        Edge.refused("one more than it came", x, x.shift(0, 0, 1, 60), 5);
        Edge.refused("one more than it came", x, x.shift(0, 1, 0, 2), 5);
        Edge.refused("it never came", x, x.shift(0, 2, 0, 1), 5);
        Edge.refused("it never came", x, x.shift(0, 3, 0, 60), 5);
        int[][] wrong = {{-1, 0, 1}, {2, 0, 1}, {8, 0, 1}, {FAR, 0, 1}, {0, -1, 1}, {0, 4, 1}, {0, 0, -1}, {0, 0, 4}, {1, 0, 2}, {1, 2, 0},
            {1, 0, 3}, {0, FAR, 0}, {0, 0, FAR + 1}, {0, 0, 0}, {0, 3, 3}, {1, 1, 1}, {0, 4, 4}, {1, 2, 2}};
        for (int[] w : wrong) {
            for (int n : new int[] {1, 0, 61, 60}) {
                Edge.refused("shift " + w[0] + " " + w[1] + " " + w[2] + " " + n, x, x.shift(w[0], w[1], w[2], n), 1);
            }
        }
        Edge.is("no act", x.size(7), 0);
        Edge.times("as told", x, 0, 59, 1, 0, 0);
        Edge.times("as told", x, 1, 30, 30);
        Edge.is("just as often", x.shift(0, 0, 2, 59), true);
        NotAtOnce none = new NotAtOnce();
        Edge.refused("no book", none, none.shift(0, 0, 1, 1), 1);
    }

    // ---- 41, 42

    private static void undoNothing() {
        Edge.sentence("UNDO: true; false: 6.");
        NotAtOnce x = new NotAtOnce();
        Edge.refused("no book", x, x.undo(), 6);
        Edge.give(x, TWO);
        x.stake(0, 0, 9);
        x.mark();
        Edge.refused("no act", x, x.undo(), 6);
        Edge.is("no coins are taken", x.coins(0, 0), 9);
        x.flip(0);
        Edge.is("one", x.undo(), true);
        Edge.is("trouble", x.trouble(), 0);
        Edge.refused("no more", x, x.undo(), 6);
        Edge.is("it can still be redone", x.size(8), 1);
        Edge.sentence("REDO: true; false: 6.");
        NotAtOnce none = new NotAtOnce();
        Edge.refused("no book", none, none.redo(), 6);
        Edge.is("one", x.redo(), true);
        Edge.is("trouble", x.trouble(), 0);
        x.stake(0, 0, 8);
        Edge.refused("no more", x, x.redo(), 6);
        Edge.is("no coins are taken", x.coins(0, 0), 8);
        Edge.is("it can still be undone", x.size(7), 1);
    }

    private static void undoTwenty() {
        Edge.sentence("UNDO: the latest ACT (of up to 20 kept; BETS and what else stays)");
        for (int acts : new int[] {1, 19, 20, 21, 22, 40, 41, 59}) {
            NotAtOnce x = Edge.of("law of 60;look a;set a tells 60,0");
            for (int i = 1; i <= acts; i++) {
                x.shift(0, 0, 1, 1);
                Edge.is("kept of " + i, x.size(7), Math.min(i, 20));
            }
            int kept = Math.min(acts, 20);
            for (int i = 1; i <= kept; i++) {
                Edge.is("undo " + i + " of " + acts, x.undo(), true);
                Edge.is("the latest is undone", x.times(0, 1), acts - i);
                Edge.is("to undo", x.size(7), kept - i);
                Edge.is("to redo", x.size(8), i);
            }
            Edge.refused("no more are kept", x, x.undo(), 6);
            Edge.times("what is not kept stays", x, 0, 60 - (acts - kept), acts - kept);
            for (int i = 1; i <= kept; i++) {
                Edge.is("redo " + i + " of " + acts, x.redo(), true);
                Edge.is("it is made again", x.times(0, 1), acts - kept + i);
            }
            Edge.refused("no more", x, x.redo(), 6);
            Edge.is("all are there again", x.size(7), kept);
            x.shift(0, 0, 1, 1);
            Edge.is("one more", x.size(7), Math.min(kept + 1, 20));
            x.undo();
            Edge.is("it is undone", x.times(0, 1), acts);
        }
    }

    private static void undoKeepsTheRest() {
        Edge.sentence("BETS and what else stays");
        NotAtOnce x = Edge.of(TWO);
        x.flip(0);
        x.stake(0, 0, 4);
        x.stake(0, 1, 5);
        x.mark();
        Edge.is("bets are no acts, nor are marks", x.size(7), 1);
        Edge.is("undo", x.undo(), true);
        Edge.times("the flip was the latest", x, 0, 1, 2, 3, 4);
        Edge.is("the mark stays", x.size(9), 1);
        Edge.is("the book stays", x.size(0), 3);
        Edge.is("the law stays", x.size(6), 10);
        x.feed(0, 0, 0, 0, 0);
        x.redo();
        Edge.is("the tape stays", x.size(10), 20);
        x.undo();
        Edge.is("the tape stays", x.size(10), 20);
        x.back(0);
        Edge.times("the mark is as it was", x, 0, 3, 4, 1, 2);
    }

    /** Each part of each of eight sets comes back, by undo, redo and a mark. */
    private static void undoOfEight() {
        Edge.sentence("UNDO: the latest ACT");
        StringBuilder text = new StringBuilder("law of 60;look a,b,c,d,e,f");
        for (int set = 0; set < 8; set++) {
            text.append(";set ").append((char) ('a' + set % 5)).append(",f tells ").append(set).append(",").append(10 + set).append(",")
                .append(20 + set).append(",").append(30 - 3 * set);
        }
        NotAtOnce x = Edge.of(text.toString());
        x.mark();
        x.forget(5);
        x.undo();
        eightAre("undone", x, 5);
        x.redo();
        x.drop(0);
        x.undo();
        for (int set = 0; set < 8; set++) {
            Edge.times("redone", x, set, 10 + 2 * set, 50 - 2 * set);
            Edge.is("the other stays", x.look(set, false), set % 5);
            Edge.is("alone", x.look(set, true), -2);
        }
        x.forget(0);
        x.forget(1);
        x.forget(2);
        x.forget(3);
        Edge.is("one is left", x.size(2), 1);
        x.back(0);
        eightAre("gone back to", x, 5);
    }

    private static void eightAre(String what, NotAtOnce x, int second) {
        for (int set = 0; set < 8; set++) {
            Edge.times(what, x, set, set, 10 + set, 20 + set, 30 - 3 * set);
            Edge.is(what + ", first look", x.look(set, false), set % 5);
            Edge.is(what + ", second look", x.look(set, true), second);
        }
        Edge.is(what + ", no more", x.look(8, false), -1);
    }

    private static void redoLatest() {
        Edge.sentence("REDO: the latest that was undone, if no ACT came since.");
        NotAtOnce x = Edge.of(TWO);
        x.flip(0);
        x.shift(0, 0, 1, 3);
        x.drop(1);
        x.undo();
        x.undo();
        x.undo();
        Edge.is("three", x.size(8), 3);
        x.redo();
        Edge.times("the flip", x, 0, 3, 4, 1, 2);
        Edge.is("two sets", x.size(2), 2);
        x.redo();
        Edge.times("the shift", x, 0, 0, 7, 1, 2);
        x.undo();
        Edge.times("the shift undone again", x, 0, 3, 4, 1, 2);
        x.redo();
        x.redo();
        Edge.is("the drop", x.size(2), 1);
        Edge.refused("no more", x, x.redo(), 6);
    }

    private static void redoBarred() {
        Edge.sentence("if no ACT came since");
        for (int kind = 0; kind < 4; kind++) {
            NotAtOnce x = Edge.of(TWO);
            x.flip(1);
            x.flip(0);
            x.undo();
            Edge.is("one", x.size(8), 1);
            Edge.is("an act", kind == 0 ? x.flip(1) : kind == 1 ? x.drop(0) : kind == 2 ? x.forget(1) : x.shift(1, 0, 1, 1), true);
            Edge.is("none", x.size(8), 0);
            Edge.refused("an act came since", x, x.redo(), 6);
            Edge.is("two acts", x.size(7), 2);
            x.undo();
            Edge.is("the act itself can be", x.size(8), 1);
            Edge.is("the act itself can be", x.redo(), true);
        }
        // at the twentieth
        NotAtOnce x = Edge.of("law of 60;look a;set a tells 60,0");
        for (int i = 0; i < 20; i++) {
            x.shift(0, 0, 1, 1);
        }
        x.undo();
        x.shift(0, 0, 1, 7);
        Edge.refused("an act came since", x, x.redo(), 6);
        Edge.is("twenty", x.size(7), 20);
        Edge.times("nineteen and it", x, 0, 34, 26);
        x.shift(0, 0, 1, 9);
        Edge.is("twenty", x.size(7), 20);
        Edge.is("the latest", x.act(19, 4), 9);
        Edge.is("ahead of it", x.act(18, 4), 7);
        Edge.is("ahead of that", x.act(17, 4), 1);
        for (int i = 0; i < 20; i++) {
            x.undo();
        }
        Edge.times("the first is not kept", x, 0, 59, 1);
    }

    private static void redoNotBarred() {
        Edge.sentence("if no ACT came since");
        NotAtOnce x = Edge.of(TWO);
        x.flip(0);
        x.undo();
        x.flip(3);
        x.drop(2);
        x.forget(2);
        x.shift(0, 0, 1, 2);
        x.stake(0, 0, 1);
        x.mark();
        x.back(1);
        x.undo();
        x.feed(0, 0, 0, 0, 0);
        x.book(21);
        x.book(20);
        x.share(true);
        x.together(0, 0, 1, 0, true, true);
        Edge.is("refused acts, bets, marks and questions bar nothing", x.size(8), 1);
        Edge.is("redo", x.redo(), true);
        Edge.times("flipped", x, 0, 3, 4, 1, 2);
    }

    private static void coinsBehindActs() {
        Edge.sentence("A BET's coins on sets that change are 0 behind FORGET, DROP; behind FLIP they go along; behind UNDO, REDO all are 0.");
        NotAtOnce x = staked();
        x.flip(1);
        Edge.coins("the second look", x, 0, 2, 1, 4, 3);
        Edge.coins("alone", x, 1, 6, 5);
        Edge.coins("the first look", x, 2, 9, 10, 7, 8);
        Edge.coins("not in it", x, 3, 11, 12);
        x = staked();
        x.flip(5);
        Edge.coins("of no set", x, 0, 1, 2, 3, 4);
        x = staked();
        x.forget(0);
        Edge.coins("changed", x, 0, 0, 0);
        Edge.coins("not changed", x, 1, 5, 6);
        Edge.coins("not changed", x, 2, 7, 8, 9, 10);
        Edge.is("gone", x.size(2), 3);
        x = staked();
        x.forget(1);
        Edge.coins("changed", x, 0, 0, 0);
        Edge.coins("changed", x, 1, 0, 0);
        Edge.coins("not changed, moved up", x, 2, 11, 12);
        x = staked();
        x.drop(1);
        Edge.coins("not changed", x, 0, 1, 2, 3, 4);
        Edge.coins("not changed, moved up", x, 1, 7, 8, 9, 10);
        Edge.coins("not changed, moved up", x, 2, 11, 12);
        x.drop(2);
        x.drop(1);
        x.drop(0);
        Edge.is("nothing is left", x.wins(), 0);
        x = staked();
        x.shift(0, 3, 0, 4);
        Edge.coins("not changed by a shift", x, 0, 1, 2, 3, 4);
        Edge.coins("nor are others", x, 1, 5, 6);
    }

    private static void coinsBehindUndo() {
        Edge.sentence("behind UNDO, REDO all are 0");
        NotAtOnce x = staked();
        x.flip(5);
        x.undo();
        Edge.is("all are 0", x.wins(), 0);
        for (int set = 0; set < 4; set++) {
            Edge.is("coins on " + set, x.coins(set, 0) + x.coins(set, 1), 0);
        }
        stakeAll(x);
        x.redo();
        for (int set = 0; set < 4; set++) {
            Edge.is("coins on " + set, x.coins(set, 0) + x.coins(set, 1), 0);
        }
        stakeAll(x);
        x.redo();
        Edge.coins("a refused one takes none", x, 0, 1, 2, 3, 4);
        Edge.coins("a refused one takes none", x, 3, 11, 12);
        // coins of a set that was dropped don't come back with it, nor do others come to it
        x = staked();
        x.drop(3);
        x.undo();
        Edge.coins("none comes back", x, 3, 0, 0);
        x = staked();
        x.drop(0);
        x.undo();
        for (int set = 0; set < 4; set++) {
            Edge.is("coins on " + set, x.coins(set, 0) + x.coins(set, 1), 0);
        }
        // what was on two looks' outcomes must not be met again when the set is of two again
        x = staked();
        x.forget(1);
        x.stake(0, 1, 50);
        x.undo();
        Edge.coins("none", x, 0, 0, 0, 0, 0);
        Edge.coins("none", x, 2, 0, 0, 0, 0);
    }

    /** Coins 1, 2, 3 .. on all outcomes of four sets. */
    private static NotAtOnce staked() {
        NotAtOnce x = Edge.of("law of 10;look a,b,c,d,e,f;set a,b tells 1,2,3,4;set b tells 4,6;set b,c tells 4,3,2,1;set a tells 3,7");
        stakeAll(x);
        return x;
    }

    private static void stakeAll(NotAtOnce x) {
        int coins = 1;
        for (int set = 0; set < 4; set++) {
            for (int outcome = 0; outcome < (set % 2 == 0 ? 4 : 2); outcome++) {
                x.stake(set, outcome, coins);
                coins++;
            }
        }
    }

    // ---- 43, 44

    private static void marksFour() {
        Edge.sentence("MARKS: up to 4; each keeps THE TABLE (not the BET); gone back to, nothing can be undone or redone, all coins are 0.");
        NotAtOnce x = Edge.of("law of 60;look a;set a tells 60,0");
        for (int mark = 0; mark < 4; mark++) {
            Edge.is("marks", x.size(9), mark);
            Edge.is("its number", x.mark(), mark);
            Edge.is("trouble", x.trouble(), 0);
            x.shift(0, 0, 1, 1);
        }
        Edge.is("four", x.size(9), 4);
        Edge.refused("no room", x, x.mark(), -1, 3);
        Edge.refused("still none", x, x.mark(), -1, 3);
        Edge.is("four", x.size(9), 4);
        for (int mark : new int[] {3, 0, 2, 1, 1, 3}) {
            Edge.is("back", x.back(mark), true);
            Edge.times("as by the mark", x, 0, 60 - mark, mark);
            Edge.is("all stay", x.size(9), 4);
            x.shift(0, 0, 1, 20);
        }
        Edge.refused("no room still", x, x.mark(), -1, 3);
        Edge.is("another book", Edge.give(x, "law of 60;look a;set a tells 60,0"), 1);
        Edge.is("room again", x.mark(), 0);
    }

    private static void marksKeepTheTable() {
        Edge.sentence("each keeps THE TABLE (not the BET)");
        NotAtOnce x = staked();
        x.mark();
        x.forget(1);
        x.mark();
        x.drop(0);
        x.drop(0);
        x.drop(0);
        Edge.is("none is left", x.size(2), 0);
        x.mark();
        Edge.is("back to all", x.back(0), true);
        Edge.is("four", x.size(2), 4);
        Edge.times("of two", x, 0, 1, 2, 3, 4);
        Edge.is("its second look", x.look(0, true), 1);
        Edge.coins("not the bet", x, 0, 0, 0, 0, 0);
        Edge.coins("not the bet", x, 3, 0, 0);
        stakeAll(x);
        Edge.is("back to less", x.back(1), true);
        Edge.is("three", x.size(2), 3);
        Edge.is("of one look", x.look(0, true), -2);
        Edge.times("put together", x, 0, 3, 7);
        Edge.times("put together", x, 1, 6, 4);
        Edge.coins("no coins", x, 0, 0, 0);
        Edge.is("back to none", x.back(2), true);
        Edge.is("none", x.size(2), 0);
        Edge.is("back to all", x.back(0), true);
        Edge.times("the last", x, 3, 3, 7);
        Edge.coins("no coins", x, 3, 0, 0);
    }

    private static void markRefused() {
        Edge.sentence("A MARK: its number. NONE: 1 (no BOOK); 3.");
        NotAtOnce none = new NotAtOnce();
        Edge.refused("no book", none, none.mark(), -1, 1);
        Edge.is("no mark", none.size(9), 0);
        NotAtOnce x = Edge.of("law of 1;look a");
        Edge.is("without sets", x.mark(), 0);
        x.mark();
        x.mark();
        x.mark();
        Edge.refused("no room", x, x.mark(), -1, 3);
    }

    private static void backRefused() {
        Edge.sentence("THE TABLE is as by a MARK (all MARKS stay): true; false: 1.");
        NotAtOnce x = new NotAtOnce();
        Edge.refused("no book", x, x.back(0), 1);
        Edge.give(x, TWO);
        Edge.refused("no marks", x, x.back(0), 1);
        for (int marks = 1; marks <= 4; marks++) {
            x.mark();
            x.flip(0);
            x.flip(1);
            x.undo();
            x.stake(0, 0, 9);
            int acts = x.size(7);
            for (int mark : new int[] {-1, marks, 4, 5, FAR, FAR + 1}) {
                Edge.refused("back " + mark + " of " + marks, x, x.back(mark), 1);
            }
            Edge.is("acts stay", x.size(7), acts);
            Edge.is("undone ones stay", x.size(8), 1);
            Edge.is("coins stay", x.coins(0, 0), 9);
            Edge.is("the last mark", x.back(marks - 1), true);
            Edge.is("trouble", x.trouble(), 0);
        }
    }

    private static void backEndsActs() {
        Edge.sentence("gone back to, nothing can be undone or redone, all coins are 0");
        NotAtOnce x = staked();
        x.flip(0);
        x.mark();
        x.flip(1);
        x.flip(2);
        x.undo();
        Edge.is("two", x.size(7), 2);
        Edge.is("one", x.size(8), 1);
        stakeAll(x);
        x.back(0);
        Edge.is("none", x.size(7), 0);
        Edge.is("none", x.size(8), 0);
        Edge.refused("nothing can be undone", x, x.undo(), 6);
        Edge.refused("nothing can be redone", x, x.redo(), 6);
        Edge.refused("no act", x, x.act(0, 0), -1, 1);
        Edge.coins("no coins", x, 0, 0, 0, 0, 0);
        Edge.coins("no coins", x, 3, 0, 0);
        x.drop(0);
        Edge.is("acts begin anew", x.size(7), 1);
        Edge.is("the first of them", x.act(0, 0), 1);
        Edge.is("undo", x.undo(), true);
        Edge.times("as by the mark", x, 0, 3, 4, 1, 2);
        // a mark at which nothing changed since ends acts, too
        x.redo();
        x.mark();
        x.back(1);
        Edge.is("none", x.size(7), 0);
    }

    // ---- 45

    private static void actParts() {
        Edge.sentence("Of the i-th ACT that can be undone, the first one 0: 0 its kind (0 FLIP, 1 DROP, 2 FORGET, 3 SHIFT), 1 its look or set,"
            + " 2 from (-2), 3 to (-2), 4 n (-2).");
        NotAtOnce x = Edge.of("law of 60;look a,b,c,d,e,f" + ";set e,f tells 60,0,0,0".repeat(8));
        x.flip(5);
        x.shift(7, 1, 2, 60);
        x.shift(0, 1, 0, 1);
        x.shift(0, 0, 3, 1);
        x.drop(7);
        x.forget(4);
        x.flip(0);
        x.drop(0);
        int[][] due = {{0, 5, -2, -2, -2}, {3, 7, 1, 2, 60}, {3, 0, 1, 0, 1}, {3, 0, 0, 3, 1}, {1, 7, -2, -2, -2}, {2, 4, -2, -2, -2},
            {0, 0, -2, -2, -2}, {1, 0, -2, -2, -2}};
        for (int i = 0; i < due.length; i++) {
            for (int what = 0; what < 5; what++) {
                Edge.is("act " + i + " " + what, x.act(i, what), due[i][what]);
            }
        }
        Edge.is("trouble", x.trouble(), 0);
    }

    private static void actNumbers() {
        Edge.sentence("Of the i-th ACT that can be undone, the first one 0");
        NotAtOnce x = Edge.of("law of 60;look a;set a tells 60,0");
        for (int n = 1; n <= 25; n++) {
            x.shift(0, n % 2 == 1 ? 0 : 1, n % 2 == 1 ? 1 : 0, n % 2 == 1 ? 2 + n : n);
        }
        for (int i = 0; i < 20; i++) {
            int n = i + 6;
            Edge.is("act " + i, x.act(i, 4), n % 2 == 1 ? 2 + n : n);
            Edge.is("from", x.act(i, 2), n % 2 == 1 ? 0 : 1);
            Edge.is("to", x.act(i, 3), n % 2 == 1 ? 1 : 0);
        }
        Edge.refused("no more", x, x.act(20, 0), -1, 1);
        for (int left = 19; left >= 0; left--) {
            x.undo();
            Edge.refused("undone", x, x.act(left, 0), -1, 1);
            Edge.is("the last that can be", left == 0 ? 3 : x.act(left - 1, 0), 3);
        }
        x.redo();
        Edge.is("the first again", x.act(0, 4), 6);
        Edge.refused("it alone", x, x.act(1, 4), -1, 1);
    }

    private static void actRefused() {
        Edge.sentence("1 its look or set, 2 from (-2), 3 to (-2), 4 n (-2). NONE: 1.");
        NotAtOnce none = new NotAtOnce();
        Edge.refused("no book", none, none.act(0, 0), -1, 1);
        NotAtOnce x = Edge.of(TWO);
        Edge.refused("no act", x, x.act(0, 0), -1, 1);
        x.shift(0, 0, 1, 1);
        int[][] wrong = {{-1, 0}, {1, 0}, {20, 0}, {FAR, 0}, {FAR + 1, 0}, {0, -1}, {0, 5}, {0, FAR}, {0, FAR + 1}, {1, 5}};
        for (int[] w : wrong) {
            Edge.refused("act " + w[0] + " " + w[1], x, x.act(w[0], w[1]), -1, 1);
        }
        Edge.is("the first part", x.act(0, 0), 3);
        Edge.is("the last part", x.act(0, 4), 1);
    }

    // ---- 50, 51

    private static void sizes() {
        Edge.sentence("0 looks, 1 points, 2 sets now, 3 lines, 4 rays, 5 runs, 6 the law's WHOLE, 7 ACTS that can be undone, 8 redone,"
            + " 9 MARKS, 10 bytes of THE TAPE. NONE for others; 0 for what there isn't.");
        String full = "law of 60;look a,b,c,d,e,f;point p,q,r,s,t,u,v,w,x;" + "set a tells 0,60;".repeat(8) + "line p,q,r is odd;".repeat(8)
            + "ray 1,0,0,0;".repeat(18) + "run a 1;".repeat(4);
        NotAtOnce x = Edge.of(full.substring(0, full.length() - 1));
        for (int i = 0; i < 23; i++) {
            x.flip(0);
        }
        for (int i = 0; i < 45; i++) {
            x.feed(0, 0, 0, 0, 0);
        }
        for (int i = 0; i < 5; i++) {
            x.mark();
        }
        int[] due = {6, 9, 8, 8, 18, 4, 60, 20, 0, 4, 900};
        for (int what = 0; what < due.length; what++) {
            Edge.is("full, size " + what, x.size(what), due[what]);
        }
        for (int i = 0; i < 20; i++) {
            x.undo();
        }
        Edge.is("none to undo", x.size(7), 0);
        Edge.is("twenty to redo", x.size(8), 20);
        for (int what : new int[] {-1, 11, 12, FAR, FAR + 1}) {
            Edge.is("size " + what, x.size(what), -1);
        }
        x.flip(9);
        Edge.is("size 11", x.size(11), -1);
        Edge.is("it is not refused by a number", x.trouble(), 1);
        x.flip(0);
        Edge.is("size 11", x.size(11), -1);
        Edge.is("it is not refused by a number", x.trouble(), 0);
    }

    private static void sizesOfNothing() {
        Edge.sentence("0 for what there isn't");
        NotAtOnce none = new NotAtOnce();
        NotAtOnce least = Edge.of("law of 1;look a");
        for (int what = 0; what <= 10; what++) {
            Edge.is("no book, size " + what, none.size(what), 0);
            Edge.is("the least book, size " + what, least.size(what), what == 0 || what == 6 ? 1 : 0);
        }
        Edge.is("no book, size 11", none.size(11), -1);
        Edge.is("no book, size -1", none.size(-1), -1);
    }

    private static void troubles() {
        Edge.sentence("TROUBLE of the latest call that may be refused (those of which a number is told here): 0 it wasn't; 1 there is none such;"
            + " 2 a number; 3 no room; 4 a FAULT; 5 not so; 6 there is none.");
        NotAtOnce x = Edge.of(TWO);
        Edge.is("0 it wasn't", x.trouble(), 0);
        x.back(0);
        Edge.is("1 there is none such", x.trouble(), 1);
        x.shift(0, 0, 1, 0);
        Edge.is("2 a number", x.trouble(), 2);
        x.mark();
        x.mark();
        x.mark();
        x.mark();
        Edge.is("0 it wasn't", x.trouble(), 0);
        x.mark();
        Edge.is("3 no room", x.trouble(), 3);
        x.book(0);
        Edge.is("4 a fault", x.trouble(), 4);
        x.shift(0, 0, 1, 2);
        Edge.is("5 not so", x.trouble(), 5);
        x.undo();
        Edge.is("6 there is none", x.trouble(), 6);
        Edge.sentence("`int trouble()`: TROUBLE.");
        Edge.is("asked again", x.trouble(), 6);
    }

    private static void troubleStays() {
        Edge.sentence("(those of which a number is told here)");
        NotAtOnce x = Edge.of(TWO);
        for (int round = 0; round < 2; round++) {
            int before = x.trouble();
            x.size(0);
            x.size(11);
            x.size(-1);
            x.fault();
            x.where();
            Edge.led(x, 0);
            Edge.led(x, -1);
            for (int i = 0; i < 46; i++) {
                x.feed(0, 0, 0, 0, 0);
            }
            Edge.is("of these none is told", x.trouble(), before);
            x.book(900);
            Edge.is("of this one is", x.trouble(), 4);
        }
    }

    /** What is promised holds for the 512th call, too. */
    private static void lastCalls() {
        Edge.sentence("An object is used for at most 512 calls after it has been made; what later calls answer is free.");
        NotAtOnce x = new NotAtOnce();
        // "law of 60;look a;set" " a tells 60,0": two calls of feed, one of book
        x.feed(0x6c617720, 0x6f662036, 0x303b6c6f, 0x6f6b2061, 0x3b736574);
        x.feed(0x20612074, 0x656c6c73, 0x2036302c, 0x30202020, 0x20202020);
        Edge.is("a book", x.book(40), 1);
        for (int call = 4; call < 512; call++) {
            x.flip(0);
        }
        Edge.is("the 512th call", x.times(0, 0), 60);
        NotAtOnce fed = new NotAtOnce();
        for (int call = 1; call < 512; call++) {
            fed.feed(0, 0, 0, 0, 0);
        }
        Edge.is("the 512th call", fed.feed(0, 0, 0, 0, 0), -1);
        NotAtOnce asked = Edge.of(TWO);
        for (int call = 5; call < 512; call++) {
            asked.share(call % 2 == 0);
        }
        Edge.is("one of the last calls", asked.share(true), 1);
    }
}
