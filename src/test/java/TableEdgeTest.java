import java.util.Random;

/** Each sentence of Terms II, and of promises 6 to 23 and 46 to 49, that names an edge. */
public final class TableEdgeTest {
    /** Three agree always, the last one seldom: a fourth of it can be hidden. */
    private static final String FOUR = "law of 8;look a,b,c,d;set a,c tells 4,0,0,4;set a,d tells 4,0,0,4;"
        + "set b,c tells 4,0,0,4;set b,d tells 1,3,3,1";

    public static void main(String[] args) {
        setsNow();
        possible();
        hiddenNumbers();
        fits();
        shareWithoutSets();
        shareAtEdges();
        shareOfTwo();
        shareOfHalves();
        shareOfRings();
        shareOfMany();
        shareAgain();
        togetherAtEdges();
        togetherWithoutSets();
        togetherOfChains();
        togetherAgain();
        extendAlone();
        extendRefused();
        levels();
        hiddenCounts();
        answerNumbers();
        disturbedFirst();
        disturbedNone();
        sameAtEdges();
        cyclesFewest();
        cyclesMost();
        cycleNumbers();
        excessAtEdges();
        excessTurned();
        excessRefused();
        widestFirst();
        coinsAtEdges();
        betNothing();
        winsMost();
        worstFirst();
        barsAtEqual();
        fairAtEdges();
        ledAtEdges();
        timesAtEdges();
        lookAtEdges();
        coinsRefused();
        Edge.end("TableEdgeTest");
    }

    // ---- terms

    private static void setsNow() {
        Edge.sentence("THE TABLE: the sets that are there now, by LINES.");
        NotAtOnce x = Edge.of("law of 1;look a,b;set b tells 1,0;point p,q,r;set a tells 0,1;ray 1,0,0,0;set a,b tells 0,0,1,0");
        Edge.is("the first", x.look(0, false), 1);
        Edge.is("the second", x.look(1, false), 0);
        Edge.is("the third", x.look(2, true), 1);
        x.drop(1);
        Edge.is("now the second", x.look(1, true), 1);
        Edge.is("now two", x.size(2), 2);
        Edge.is("no third", x.look(2, false), -1);
    }

    private static void possible() {
        Edge.sentence("it is POSSIBLE if it came more than 0 times");
        NotAtOnce x = Edge.of("law of 60;look a;set a tells 59,1");
        Edge.is("once", x.hidden(), 2);
        x.shift(0, 1, 0, 1);
        Edge.is("never", x.hidden(), 1);
        Edge.is("0 alone", x.answer(0), 0);
        x.shift(0, 0, 1, 59);
        Edge.is("once again", x.hidden(), 2);
        x.shift(0, 0, 1, 1);
        Edge.is("never", x.hidden(), 1);
        Edge.is("1 alone", x.answer(0), 1);
        Edge.give(x, "law of 60;look a,b;set a,b tells 57,1,1,1");
        for (int outcome = 1; outcome < 4; outcome++) {
            Edge.is("possible", x.hidden(), 5 - outcome);
            x.shift(0, outcome, 0, 1);
        }
        Edge.is("one is left", x.hidden(), 1);
        Edge.is("it came always", x.times(0, 0), 60);
    }

    private static void hiddenNumbers() {
        Edge.sentence("A HIDDEN answer: 0 or 1 for each look, together a number (look i: 2 to the i).");
        String names = "abcdef";
        for (int one = 0; one < 6; one++) {
            StringBuilder text = new StringBuilder("law of 1;look a,b,c,d,e,f");
            for (int look = 0; look < 6; look++) {
                text.append(";set ").append(names.charAt(look)).append(look == one ? " tells 0,1" : " tells 1,0");
            }
            NotAtOnce x = Edge.of(text.toString());
            Edge.is("one alone", x.hidden(), 1);
            Edge.is("its number", x.answer(0), 1 << one);
            x.flip(one);
            Edge.is("the least", x.answer(0), 0);
            for (int look = 0; look < 6; look++) {
                x.flip(look);
            }
            Edge.is("the greatest", x.answer(0), 63);
        }
    }

    private static void fits() {
        Edge.sentence("It FITS an OUTCOME if its answers to the looks of the set are those.");
        String names = "abcdef";
        for (int first = 0; first < 6; first++) {
            for (int second = 0; second < 6; second++) {
                for (int outcome = 0; outcome < 4 && first != second; outcome++) {
                    String told = "1,0,0,0;0,1,0,0;0,0,1,0;0,0,0,1".substring(8 * outcome, 8 * outcome + 7);
                    NotAtOnce x = Edge.of("law of 1;look a,b,c,d,e,f;set " + names.charAt(first) + "," + names.charAt(second)
                        + " tells " + told);
                    Edge.is("a fourth of all", x.hidden(), 16);
                    int ones = (outcome >> 1) << first | (outcome & 1) << second;
                    int mask = 1 << first | 1 << second;
                    Edge.is("the first: the others 0", x.answer(0), ones);
                    Edge.is("the last: the others 1", x.answer(15), 63 & ~mask | ones);
                }
            }
        }
    }

    // ---- 6

    private static void shareWithoutSets() {
        Edge.sentence("MIXED: it is 1 (also without sets).");
        NotAtOnce x = Edge.of("law of 7;look a");
        shareIs(x, 1, 1);
        Edge.is("level", x.level(), 0);
        Edge.give(x, "law of 7;look a;set a tells 0,7;set a tells 7,0");
        shareIs(x, 0, 1);
        x.drop(0);
        shareIs(x, 1, 1);
        x.drop(0);
        shareIs(x, 1, 1);
        x.undo();
        x.undo();
        shareIs(x, 0, 1);
        x.forget(0);
        Edge.is("no set is left", x.size(2), 0);
        shareIs(x, 1, 1);
    }

    private static void shareAtEdges() {
        Edge.sentence("SHARE in lowest terms: the upper WHOLE, or the lower. NONE: 1 (no BOOK).");
        NotAtOnce none = new NotAtOnce();
        Edge.refused("no book, upper", none, none.share(false), -1, 1);
        Edge.refused("no book, lower", none, none.share(true), -1, 1);
        // one set alone can always be hidden
        shareIs(Edge.of("law of 1;look a;set a tells 1,0"), 1, 1);
        shareIs(Edge.of("law of 60;look a,b;set a,b tells 17,13,1,29"), 1, 1);
        shareIs(Edge.of("law of 60;look a;set a tells 60,0;set a tells 0,60"), 0, 1);
        shareIs(Edge.of("law of 60;look a;set a tells 59,1;set a tells 0,60"), 1, 60);
        shareIs(Edge.of("law of 60;look a;set a tells 58,2;set a tells 0,60"), 1, 30);
        shareIs(Edge.of("law of 60;look a;set a tells 1,59;set a tells 0,60"), 59, 60);
        shareIs(Edge.of("law of 60;look a;set a tells 40,20;set a tells 0,60"), 1, 3);
        shareIs(Edge.of(FOUR), 1, 4);
    }

    /** Two sets of one look: of each answer no more than the lesser number. */
    private static void shareOfTwo() {
        Edge.sentence("so that of each OUTCOME of each set those that FIT it are together no more than how often it came");
        for (int ones : new int[] {0, 1, 20, 59, 60}) {
            NotAtOnce x = Edge.of("law of 60;look a,b;set a tells 60,0;set b tells 30,30;set a tells " + (60 - ones) + "," + ones);
            for (int k = 0; k <= 60; k++) {
                int whole = Math.min(k, ones) + Math.min(60 - k, 60 - ones);
                int common = commonOf(whole, 60);
                Edge.is("upper of " + k + " and " + ones, x.share(false), whole / common);
                Edge.is("lower of " + k + " and " + ones, x.share(true), 60 / common);
                Edge.is("level of " + k + " and " + ones, x.level() == 0, k == ones);
                x.shift(0, 0, 1, 1);
            }
        }
    }

    /** Halves of three hidden answers make it, and a bet bars more: so it is neither less nor more. */
    private static void shareOfHalves() {
        Edge.sentence("SHARE: the greatest sum of numbers 0 or more, fractions too, one for each HIDDEN answer");
        NotAtOnce x = Edge.of("law of 4;look a,b,c,d;set b,a tells 1,2,1,0;set c,a tells 1,0,1,2;set d,a tells 0,2,1,1;"
            + "set c,d tells 0,2,1,1;set d,b tells 0,2,1,1;set b,c tells 1,1,0,2");
        shareIs(x, 3, 8);
        halvesFit(x, 8, 13, 14);
        int[][] coins = {{0, 0, 0, 2}, {0, 1, 0, 0}, {2, 0, 1, 0}, {0, 0, 0, 1}, {2, 0, 1, 0}, {0, 0, 1, 0}};
        stakeAll(x, coins);
        betIs(x, 3, 2, x.worstAt(), 1, 3, 8);
        x = Edge.of("law of 3;look a,b,c,d,e;set e,c tells 1,1,1,0;set c,b tells 0,1,1,1;set b,d tells 0,1,1,1;set b,e tells 1,1,1,0;"
            + "set d,e tells 1,0,1,1;set c,d tells 0,1,1,1");
        shareIs(x, 1, 2);
        halvesFit(x, 6, 10, 12);
        stakeAll(x, new int[][] {{0, 1, 0, 2}, {2, 0, 0, 0}, {1, 0, 0, 0}, {0, 0, 1, 2}, {0, 0, 1, 0}, {1, 0, 0, 0}});
        betIs(x, 3, 2, x.worstAt(), 1, 1, 2);
    }

    /** Rings of looks that are 1 as often as 0: what can't be hidden is half of what the excess is above 0, by the law. */
    private static void shareOfRings() {
        Edge.sentence("SHARE: the greatest sum of numbers 0 or more");
        Random chance = new Random(7);
        for (int round = 0; round < 400; round++) {
            int looks = 3 + round % 4;
            StringBuilder text = new StringBuilder("law of 60;look " + "a,b,c,d,e,f".substring(0, 2 * looks - 1));
            for (int set = 0; set < looks; set++) {
                int alike = round % 3 == 0 ? chance.nextInt(31) : chance.nextBoolean() ? chance.nextInt(6) : 30 - chance.nextInt(6);
                text.append(";set ").append((char) ('a' + set)).append(",").append((char) ('a' + (set + 1) % looks)).append(" tells ")
                    .append(alike).append(",").append(30 - alike).append(",").append(30 - alike).append(",").append(alike);
            }
            NotAtOnce x = Edge.of(text.toString());
            int hidden = 120 - Math.max(0, x.excess((1 << looks) - 1));
            int common = commonOf(hidden, 120);
            Edge.is("level of " + text, x.level() == 0, hidden == 120);
            Edge.is("upper of " + text, x.share(false), hidden / common);
            Edge.is("lower of " + text, x.share(true), 120 / common);
            Edge.is("nothing is disturbed", x.disturbed(), -2);
        }
    }

    /** As many outcomes as there may be, all possible. */
    private static void shareOfMany() {
        Edge.sentence("SHARE: the greatest sum of numbers 0 or more");
        NotAtOnce x = Edge.of("law of 60;look a,b,c,d,e,f" + sets("15,15,15,15", "ab", "bc", "cd", "de", "ef", "fa", "ad", "be"));
        Edge.is("mixed", x.level(), 0);
        shareIs(x, 1, 1);
        togetherIs(x, 0, 1, 2, 1, true, 1, 2);
        togetherIs(x, 0, 1, 2, 1, false, 0, 1);
        togetherIs(x, 0, 1, 1, 1, false, 1, 4);
        // one of a set elsewhere: all but one of the sixty can be hidden
        x.shift(7, 0, 3, 1);
        Edge.is("disturbed", x.disturbed(), 1);
        shareIs(x, 59, 60);
        Edge.is("all extend", x.level(), 1);
        x.undo();
        shareIs(x, 1, 1);
    }

    /** Each change is seen, whatever was asked ahead of it. */
    private static void shareAgain() {
        Edge.sentence("THE TABLE: the sets that are there now, by LINES.");
        NotAtOnce x = Edge.of("law of 4;look a,b;set a,b tells 4,0,0,0;set a,b tells 0,1,0,3;set b tells 1,3;set a tells 2,2");
        x.mark();
        // a and b never are 0 in the second, and always in the first
        shareIs(x, 0, 1);
        x.shift(0, 0, 1, 1);
        shareIs(x, 1, 4);
        x.undo();
        shareIs(x, 0, 1);
        x.redo();
        shareIs(x, 1, 4);
        x.forget(0);
        // b is 0 in 3, 0, 1 of 4
        shareIs(x, 1, 4);
        x.undo();
        x.undo();
        shareIs(x, 0, 1);
        x.forget(1);
        // a is 0 in 4, 1, 2 of 4
        shareIs(x, 1, 4);
        x.drop(1);
        shareIs(x, 1, 2);
        x.flip(0);
        shareIs(x, 1, 2);
        x.back(0);
        shareIs(x, 0, 1);
        x.drop(0);
        shareIs(x, 3, 4);
        Edge.is("level", x.level(), 2);
        x.undo();
        Edge.is("level", x.level(), 3);
        Edge.give(x, "law of 4;look a,b,c,d;set b,a tells 1,2,1,0;set c,a tells 1,0,1,2;set d,a tells 0,2,1,1;"
            + "set c,d tells 0,2,1,1;set d,b tells 0,2,1,1;set b,c tells 1,1,0,2");
        shareIs(x, 3, 8);
        Edge.give(x, FOUR);
        shareIs(x, 1, 4);
        Edge.give(x, "law of 4;look a,b;set a,b tells 4,0,0,0");
        Edge.is("level", x.level(), 0);
        shareIs(x, 1, 1);
    }

    private static void stakeAll(NotAtOnce x, int[][] coins) {
        for (int set = 0; set < coins.length; set++) {
            for (int outcome = 0; outcome < coins[set].length; outcome++) {
                x.stake(set, outcome, coins[set][outcome]);
            }
        }
    }

    /** A half of each of some hidden answers is no more than came, of any outcome. */
    private static void halvesFit(NotAtOnce x, int... answers) {
        for (int set = 0; set < x.size(2); set++) {
            int[] halves = new int[4];
            for (int hidden : answers) {
                halves[2 * (hidden >> x.look(set, false) & 1) + (hidden >> x.look(set, true) & 1)]++;
            }
            for (int outcome = 0; outcome < 4; outcome++) {
                Edge.is("no more than came", halves[outcome] <= 2 * x.times(set, outcome), true);
            }
        }
    }

    private static int commonOf(int a, int b) {
        return b == 0 ? a : commonOf(b, a % b);
    }

    private static void shareIs(NotAtOnce x, int upper, int lower) {
        Edge.is("upper", x.share(false), upper);
        Edge.is("lower", x.share(true), lower);
        Edge.is("trouble", x.trouble(), 0);
    }

    // ---- 7

    private static void togetherAtEdges() {
        Edge.sentence("TOGETHER: look i answers u, look j answers v; at most, or at least; the upper WHOLE, or the lower, in lowest"
            + " terms. NONE: 1 (looks, unlike; answers); 6 (not MIXED).");
        int[][] ones = {{0, 0}, {0, 60}, {60, 60}, {1, 60}, {1, 59}, {30, 30}, {30, 31}, {29, 30}, {40, 50}, {59, 59}};
        for (int[] two : ones) {
            NotAtOnce x = Edge.of("law of 60;look a,b,c,d,e,f;set f tells " + (60 - two[0]) + "," + two[0] + ";set a tells "
                + (60 - two[1]) + "," + two[1]);
            for (int u = 0; u < 2; u++) {
                for (int v = 0; v < 2; v++) {
                    int one = u == 1 ? two[0] : 60 - two[0];
                    int other = v == 1 ? two[1] : 60 - two[1];
                    togetherIs(x, 5, u, 0, v, true, Math.min(one, other), 60);
                    togetherIs(x, 5, u, 0, v, false, Math.max(0, one + other - 60), 60);
                    togetherIs(x, 0, v, 5, u, true, Math.min(one, other), 60);
                }
            }
        }
        NotAtOnce x = Edge.of("law of 4;look a,b,c;set a,b tells 1,1,1,1");
        int far = Integer.MAX_VALUE;
        int[][] wrong = {{-1, 0, 1, 0}, {3, 0, 1, 0}, {0, 0, -1, 0}, {0, 0, 3, 0}, {far, 0, 1, 0}, {0, 0, far + 1, 0},
            {0, 0, 0, 0}, {2, 1, 2, 0}, {0, -1, 1, 0}, {0, 2, 1, 0}, {0, 0, 1, -1}, {0, 0, 1, 2}, {0, far, 1, 0}, {0, 0, 1, far + 1},
            {32, 0, 1, 0}, {0, 0, 33, 0}};
        for (int[] w : wrong) {
            Edge.refused("together " + w[0] + w[1] + w[2] + w[3], x, x.together(w[0], w[1], w[2], w[3], true, false), -1, 1);
        }
        Edge.is("the last look", x.together(0, 1, 2, 1, true, true), 2);
        Edge.give(x, FOUR);
        Edge.refused("not mixed", x, x.together(0, 0, 1, 0, false, false), -1, 6);
        Edge.refused("not mixed, but looks ahead of that", x, x.together(0, 0, 4, 0, false, false), -1, 1);
        Edge.refused("not mixed, but unlike ahead of that", x, x.together(1, 0, 1, 0, false, false), -1, 1);
        Edge.refused("not mixed, but answers ahead of that", x, x.together(0, 2, 1, 0, false, false), -1, 1);
        // one less than all is not mixed, and mixed again
        Edge.give(x, "law of 60;look a,b;set a tells 30,30;set a tells 29,31");
        Edge.refused("all but one", x, x.together(0, 0, 1, 0, false, false), -1, 6);
        x.shift(1, 1, 0, 1);
        togetherIs(x, 0, 0, 1, 0, true, 30, 60);
        togetherIs(x, 0, 0, 1, 0, false, 0, 60);
    }

    private static void togetherWithoutSets() {
        Edge.sentence("if MIXED, of all such numbers with which SHARE is 1 those of HIDDEN answers with both are together, by the law's"
            + " WHOLE, at least (or at most).");
        NotAtOnce x = Edge.of("law of 9;look a,b");
        togetherIs(x, 0, 1, 1, 1, true, 1, 1);
        togetherIs(x, 0, 1, 1, 1, false, 0, 1);
        Edge.give(x, "law of 9;look a,b,c;set c tells 9,0");
        togetherIs(x, 0, 1, 1, 1, true, 1, 1);
        togetherIs(x, 0, 1, 2, 1, true, 0, 1);
        togetherIs(x, 0, 1, 2, 0, false, 0, 1);
        // a set of both tells it
        Edge.give(x, "law of 60;look a,b;set a,b tells 60,0,0,0");
        togetherIs(x, 0, 0, 1, 0, false, 1, 1);
        togetherIs(x, 0, 0, 1, 1, true, 0, 1);
        Edge.give(x, "law of 1;look a");
        Edge.refused("there is no second look", x, x.together(0, 0, 1, 0, true, true), -1, 1);
    }

    /** Of a, b and b, c what is told of a and c: by each answer of b as much as both could have, or must. */
    private static void togetherOfChains() {
        Edge.sentence("at least (or at most)");
        Random chance = new Random(9);
        for (int round = 0; round < 300; round++) {
            int zero = chance.nextInt(61);
            int[] first = new int[4];
            int[] last = new int[4];
            for (int i = 0; i < 60; i++) {
                int b = i < zero ? 0 : 1;
                first[(chance.nextInt(3) == 0 ? 2 : 0) + b]++;
                last[2 * b + chance.nextInt(2)]++;
            }
            NotAtOnce x = Edge.of("law of 60;look a,b,c;set a,b tells " + listed(first) + ";set b,c tells " + listed(last));
            for (int u = 0; u < 2; u++) {
                for (int v = 0; v < 2; v++) {
                    int most = 0;
                    int least = 0;
                    for (int b = 0; b < 2; b++) {
                        int one = first[2 * u + b];
                        int other = last[2 * b + v];
                        most += Math.min(one, other);
                        least += Math.max(0, one + other - (b == 0 ? zero : 60 - zero));
                    }
                    togetherIs(x, 0, u, 2, v, round % 2 == 0, round % 2 == 0 ? most : least, 60);
                    togetherIs(x, 2, v, 0, u, round % 2 != 0, round % 2 != 0 ? most : least, 60);
                    togetherIs(x, 0, u, 1, v, true, first[2 * u + v], 60);
                    togetherIs(x, 1, u, 2, v, false, last[2 * u + v], 60);
                }
            }
        }
    }

    private static String listed(int[] numbers) {
        StringBuilder text = new StringBuilder();
        for (int number : numbers) {
            text.append(text.length() == 0 ? "" : ",").append(number);
        }
        return text.toString();
    }

    /** Each change is seen, whatever was asked ahead of it. */
    private static void togetherAgain() {
        Edge.sentence("TOGETHER: look i answers u, look j answers v; at most, or at least");
        NotAtOnce x = Edge.of("law of 10;look a,b,c;set a,b tells 4,1,2,3;set c tells 10,0");
        x.mark();
        togetherIs(x, 0, 1, 1, 1, true, 3, 10);
        x.flip(0);
        togetherIs(x, 0, 1, 1, 1, true, 1, 10);
        x.undo();
        togetherIs(x, 0, 1, 1, 1, true, 3, 10);
        x.redo();
        togetherIs(x, 0, 1, 1, 1, true, 1, 10);
        x.shift(0, 1, 3, 2);
        togetherIs(x, 0, 1, 1, 1, true, 3, 10);
        x.back(0);
        togetherIs(x, 0, 0, 1, 1, true, 1, 10);
        x.forget(0);
        togetherIs(x, 0, 0, 1, 1, true, 4, 10);
        x.undo();
        x.drop(0);
        togetherIs(x, 0, 0, 1, 1, true, 1, 1);
        togetherIs(x, 0, 0, 2, 1, true, 0, 1);
        x.drop(0);
        togetherIs(x, 0, 0, 2, 1, true, 1, 1);
        Edge.give(x, "law of 10;look a,b;set a tells 10,0");
        togetherIs(x, 0, 0, 1, 1, true, 1, 1);
    }

    private static void togetherIs(NotAtOnce x, int i, int u, int j, int v, boolean most, int upper, int lower) {
        String call = "together " + i + " " + u + " " + j + " " + v + " " + most;
        int common = commonOf(upper, lower);
        Edge.is(call + ", upper", x.together(i, u, j, v, most, false), upper / common);
        Edge.is(call + ", lower", x.together(i, u, j, v, most, true), lower / common);
    }

    // ---- 8, 9

    private static void extendAlone() {
        Edge.sentence("EXTENDS: an OUTCOME, POSSIBLE or not, is FIT by a HIDDEN answer that FITS a POSSIBLE OUTCOME of each other set.");
        NotAtOnce x = Edge.of("law of 3;look a,b;set a,b tells 3,0,0,0");
        for (int outcome = 0; outcome < 4; outcome++) {
            Edge.is("there is no other set", x.extend(0, outcome), 1);
        }
        Edge.give(x, "law of 3;look a,b;set a,b tells 3,0,0,0;set a tells 3,0");
        Edge.is("possible", x.extend(0, 0), 1);
        Edge.is("not possible, but the other set is so", x.extend(0, 1), 1);
        Edge.is("not possible, nor is the other set so", x.extend(0, 2), 0);
        Edge.is("not possible, nor is the other set so", x.extend(0, 3), 0);
        Edge.is("of the other", x.extend(1, 0), 1);
        Edge.is("of the other", x.extend(1, 1), 0);
        Edge.give(x, "law of 60;look a;set a tells 60,0;set a tells 59,1;set a tells 0,60");
        Edge.is("possible, not in each other set", x.extend(0, 0), 0);
        Edge.is("not possible, but in each other set", x.extend(0, 1), 1);
        Edge.is("possible, not in each other set", x.extend(1, 1), 0);
        Edge.is("not possible, but in each other set", x.extend(2, 0), 1);
        Edge.is("trouble", x.trouble(), 0);
    }

    private static void extendRefused() {
        Edge.sentence("Whether an OUTCOME EXTENDS: 1, 0. NONE: 1.");
        NotAtOnce x = Edge.of("law of 3;look a,b;set a,b tells 3,0,0,0;set a tells 3,0");
        int[][] wrong = {{-1, 0}, {2, 0}, {0, -1}, {0, 4}, {1, 2}, {1, 3}, {1, -1}, {Integer.MAX_VALUE, 0}, {0, Integer.MIN_VALUE},
            {8, 0}, {0, 32}, {1 << 30, 0}};
        for (int[] w : wrong) {
            Edge.refused("extend " + w[0] + " " + w[1], x, x.extend(w[0], w[1]), -1, 1);
        }
        x.drop(1);
        Edge.refused("a set that was dropped", x, x.extend(1, 0), -1, 1);
        x.forget(1);
        Edge.refused("an outcome of a look forgotten", x, x.extend(0, 2), -1, 1);
        Edge.is("the last one there is", x.extend(0, 1), 1);
    }

    private static void levels() {
        Edge.sentence("LEVEL: 0 MIXED; else 1 if all POSSIBLE OUTCOMES EXTEND; 2 if some do; 3 none does.");
        NotAtOnce x = Edge.of("law of 60;look a;set a tells 30,30;set a tells 30,30");
        Edge.is("mixed", x.level(), 0);
        x.shift(0, 0, 1, 1);
        Edge.is("one is elsewhere, all extend", x.level(), 1);
        x.shift(0, 0, 1, 28);
        Edge.is("the last one of them still extends", x.level(), 1);
        x.shift(0, 0, 1, 1);
        Edge.is("of the other set one does not", x.level(), 2);
        Edge.is("it does not", x.extend(1, 0), 0);
        x.shift(1, 1, 0, 29);
        Edge.is("two of three do", x.level(), 2);
        x.shift(1, 1, 0, 1);
        Edge.is("none does", x.level(), 3);
        x.drop(0);
        Edge.is("mixed", x.level(), 0);
        x.drop(0);
        Edge.is("mixed without sets", x.level(), 0);
        // mixed, though a POSSIBLE one could not be if it did not extend
        Edge.give(x, "law of 60;look a,b,c;set a,b tells 1,0,0,59;set b,c tells 1,0,0,59;set c,a tells 1,0,0,59");
        Edge.is("mixed", x.level(), 0);
        x.shift(2, 0, 1, 1);
        Edge.is("one in sixty", x.level(), 2);
        NotAtOnce none = new NotAtOnce();
        Edge.sentence("LEVEL. NONE: 1 (no BOOK).");
        Edge.refused("no book", none, none.level(), -1, 1);
    }

    // ---- 10, 11

    private static void hiddenCounts() {
        Edge.sentence("How many HIDDEN answers FIT a POSSIBLE OUTCOME of each set. NONE: 1 (no BOOK).");
        for (int looks = 1; looks <= 6; looks++) {
            NotAtOnce x = Edge.of("law of 1;look " + "a,b,c,d,e,f".substring(0, 2 * looks - 1));
            Edge.is("without sets all do", x.hidden(), 1 << looks);
            Edge.is("the last", x.answer((1 << looks) - 1), (1 << looks) - 1);
            Edge.refused("one more", x, x.answer(1 << looks), -1, 1);
        }
        NotAtOnce x = Edge.of("law of 1;look a;set a tells 1,0;set a tells 0,1");
        Edge.is("none does", x.hidden(), 0);
        Edge.is("trouble", x.trouble(), 0);
        NotAtOnce none = new NotAtOnce();
        Edge.refused("no book", none, none.hidden(), -1, 1);
    }

    private static void answerNumbers() {
        Edge.sentence("The i-th of them, by numbers. NONE: 1 (no BOOK, i).");
        NotAtOnce x = Edge.of("law of 2;look a,b,c;set a,b tells 1,0,0,1");
        int[] due = {0, 3, 4, 7};
        for (int i = 0; i < 4; i++) {
            Edge.is("answer " + i, x.answer(i), due[i]);
            Edge.is("trouble", x.trouble(), 0);
        }
        for (int i : new int[] {-1, 4, 5, 64, Integer.MIN_VALUE, Integer.MAX_VALUE}) {
            Edge.refused("answer " + i, x, x.answer(i), -1, 1);
        }
        NotAtOnce none = new NotAtOnce();
        Edge.refused("no book", none, none.answer(0), -1, 1);
        Edge.give(x, "law of 1;look a;set a tells 1,0;set a tells 0,1");
        Edge.refused("there is none", x, x.answer(0), -1, 1);
    }

    // ---- 12, 13

    private static void disturbedFirst() {
        Edge.sentence("DISTURBED: the first look that is 1 in two sets not as often.");
        String six = "law of 60;look a,b,c,d,e,f;";
        NotAtOnce x = Edge.of(six + "set f tells 60,0;set a,b tells 60,0,0,0;set a,b tells 60,0,0,0;set a,b tells 60,0,0,0;"
            + "set a,b tells 60,0,0,0;set a,b tells 60,0,0,0;set a,b tells 60,0,0,0;set e,f tells 59,1,0,0");
        Edge.is("the last look, in the first set and the last, by one", x.disturbed(), 5);
        x.shift(7, 1, 0, 1);
        Edge.is("as often", x.disturbed(), -2);
        x.shift(7, 0, 2, 1);
        Edge.is("e is in one set alone", x.disturbed(), -2);
        x.shift(7, 2, 3, 1);
        Edge.is("f again", x.disturbed(), 5);
        x.shift(4, 0, 1, 1);
        Edge.is("b comes ahead of f", x.disturbed(), 1);
        x.shift(6, 0, 2, 1);
        Edge.is("a comes ahead of b", x.disturbed(), 0);
        x.shift(4, 1, 3, 1);
        Edge.is("a in the fourth, too", x.disturbed(), 0);
        // the third differs from two like ones
        Edge.give(x, "law of 60;look a;set a tells 30,30;set a tells 30,30;set a tells 29,31");
        Edge.is("the third", x.disturbed(), 0);
        Edge.give(x, "law of 60;look a;set a tells 29,31;set a tells 30,30;set a tells 29,31");
        Edge.is("the second", x.disturbed(), 0);
        Edge.give(x, "law of 60;look a;set a tells 60,0;set a tells 0,60");
        Edge.is("never and always", x.disturbed(), 0);
        Edge.give(x, "law of 60;look a;set a tells 0,60;set a tells 60,0");
        Edge.is("always and never", x.disturbed(), 0);
        Edge.give(x, "law of 60;look a,b;set a,b tells 10,20,20,10;set b,a tells 10,20,20,10;set a tells 30,30;set b tells 30,30");
        Edge.is("30 each, by both outcomes", x.disturbed(), -2);
        Edge.give(x, "law of 60;look a,b;set a,b tells 10,20,20,10;set a tells 50,10");
        Edge.is("30 and 10", x.disturbed(), 0);
        Edge.give(x, "law of 60;look a,b;set a,b tells 10,20,20,10;set b tells 50,10");
        Edge.is("30 and 10", x.disturbed(), 1);
    }

    private static void disturbedNone() {
        Edge.sentence("DISTURBED; -2 if there is none such. NONE: 1 (no BOOK).");
        NotAtOnce x = Edge.of("law of 60;look a,b");
        Edge.is("no sets", x.disturbed(), -2);
        Edge.give(x, "law of 60;look a,b;set a,b tells 10,20,30,0");
        Edge.is("one set", x.disturbed(), -2);
        Edge.give(x, "law of 60;look a,b;set a,b tells 10,20,30,0;set b,a tells 10,30,20,0;set a tells 30,30;set b tells 40,20");
        Edge.is("as often, in any form", x.disturbed(), -2);
        Edge.is("trouble", x.trouble(), 0);
        NotAtOnce none = new NotAtOnce();
        Edge.refused("no book", none, none.disturbed(), -1, 1);
    }

    private static void sameAtEdges() {
        Edge.sentence("SAME of a set of two looks: how often its answers were alike, less how often they weren't.");
        NotAtOnce x = Edge.of("law of 60;look a,b;set a,b tells 60,0,0,0;set a,b tells 0,60,0,0;set a,b tells 0,0,60,0;"
            + "set a,b tells 0,0,0,60;set a,b tells 15,15,15,15;set a,b tells 10,20,10,20;set a tells 60,0");
        int[] due = {60, -60, -60, 60, 0, 0};
        for (int set = 0; set < 6; set++) {
            Edge.is("same " + set, x.same(set), due[set]);
            Edge.is("trouble", x.trouble(), 0);
        }
        Edge.sentence("SAME. -1,000: 1 (set; of one look).");
        for (int set : new int[] {6, 7, 8, -1, Integer.MIN_VALUE, Integer.MAX_VALUE}) {
            Edge.refused("same " + set, x, x.same(set), -1000, 1);
        }
        x.forget(1);
        Edge.refused("of one look now", x, x.same(0), -1000, 1);
        NotAtOnce none = new NotAtOnce();
        Edge.refused("no book", none, none.same(0), -1000, 1);
    }

    // ---- 14 .. 17

    private static String sets(String told, String... pairs) {
        StringBuilder all = new StringBuilder();
        for (String pair : pairs) {
            all.append(";set ").append(pair.charAt(0)).append(",").append(pair.charAt(1)).append(" tells ").append(told);
        }
        return all.toString();
    }

    private static void cyclesFewest() {
        Edge.sentence("A CYCLE: sets of two looks (bits), 3 or more, all hanging together by looks, each look of them in just two of"
            + " them.");
        String six = "law of 60;look a,b,c,d,e,f";
        cyclesAre(six);
        cyclesAre(six + sets("60,0,0,0", "ab"));
        cyclesAre(six + sets("60,0,0,0", "ab", "ba"));
        cyclesAre(six + sets("60,0,0,0", "ab", "ba", "ab"));
        cyclesAre(six + sets("60,0,0,0", "ab", "bc"));
        cyclesAre(six + sets("60,0,0,0", "ab", "bc", "ca"), 7);
        cyclesAre(six + sets("60,0,0,0", "ab", "bc", "cd"));
        cyclesAre(six + sets("60,0,0,0", "ab", "ac", "ad", "ae", "af"));
        cyclesAre(six + sets("60,0,0,0", "ab", "bc", "cd", "de", "ef", "fa"), 63);
        cyclesAre(six + sets("60,0,0,0", "ab", "cb", "cd", "ed", "ef", "af"), 63);
        // two of two looks each would have each look in two, but don't hang together
        cyclesAre(six + sets("60,0,0,0", "ab", "ba", "cd", "dc"));
        cyclesAre(six + sets("60,0,0,0", "ab", "bc", "ca", "de", "ef", "fd"), 7, 56);
        cyclesAre(six + sets("60,0,0,0", "ab", "bc", "ca", "cd", "de", "ec"), 7, 56);
        cyclesAre(six + ";set a tells 60,0" + sets("60,0,0,0", "ab", "bc") + ";set c tells 60,0" + sets("60,0,0,0", "ac"), 22);
        cyclesAre(six + ";set a tells 60,0;set b tells 60,0;set c tells 60,0");
    }

    private static void cyclesMost() {
        Edge.sentence("How many CYCLES there are. NONE: 1 (no BOOK).");
        // one of each side of a triangle, and no others: 3 times 3 times 2
        NotAtOnce x = Edge.of("law of 1;look a,b,c" + sets("1,0,0,0", "ab", "ab", "ab", "bc", "bc", "bc", "ca", "ca"));
        Edge.is("cycles", x.cycles(), 18);
        Edge.is("the first", x.cycle(0), 1 + 8 + 64);
        Edge.is("the last", x.cycle(17), 4 + 32 + 128);
        Edge.refused("one more", x, x.cycle(18), -1, 1);
        Edge.is("trouble", x.cycles() * 10 + x.trouble(), 180);
        x.drop(7);
        Edge.is("without the last side", x.cycles(), 9);
        x.drop(6);
        Edge.is("without any", x.cycles(), 0);
        NotAtOnce none = new NotAtOnce();
        Edge.refused("no book", none, none.cycles(), -1, 1);
    }

    private static void cycleNumbers() {
        Edge.sentence("The i-th CYCLE, by bits. NONE: 1 (no BOOK, i).");
        NotAtOnce x = Edge.of("law of 1;look a,b,c" + sets("1,0,0,0", "ab", "ab", "bc", "bc", "ca", "ca"));
        int[] due = {21, 22, 25, 26, 37, 38, 41, 42};
        for (int i = 0; i < 8; i++) {
            Edge.is("cycle " + i, x.cycle(i), due[i]);
            Edge.is("trouble", x.trouble(), 0);
        }
        for (int i : new int[] {-1, 8, 9, Integer.MIN_VALUE, Integer.MAX_VALUE}) {
            Edge.refused("cycle " + i, x, x.cycle(i), -1, 1);
        }
        Edge.give(x, "law of 1;look a");
        Edge.refused("there is none", x, x.cycle(0), -1, 1);
        NotAtOnce none = new NotAtOnce();
        Edge.refused("no book", none, none.cycle(0), -1, 1);
    }

    private static void cyclesAre(String text, int... due) {
        NotAtOnce x = Edge.of(text);
        Edge.is("cycles of " + text, x.cycles(), due.length);
        for (int i = 0; i < due.length; i++) {
            Edge.is("cycle of " + text, x.cycle(i), due[i]);
        }
        for (int bits = 0; bits < 1 << x.size(2); bits++) {
            boolean is = false;
            for (int one : due) {
                is |= one == bits;
            }
            Edge.is(bits + " of " + text, x.excess(bits) > -1000, is);
        }
    }

    private static void excessAtEdges() {
        Edge.sentence("less the law's WHOLE times how many sets less 2.");
        String six = "law of 60;look a,b,c,d,e,f";
        String[] ring = {"ab", "bc", "cd", "de", "ef", "fa"};
        // of n all alike one is turned: n - 2 laws, less n - 2 laws
        Edge.is("all alike", Edge.of(six + sets("60,0,0,0", ring)).excess(63), 0);
        Edge.is("none alike, six turned or four", Edge.of(six + sets("0,60,0,0", ring)).excess(63), 0);
        Edge.is("half alike: the least there is", Edge.of(six + sets("30,30,0,0", ring)).excess(63), -240);
        Edge.is("of three, half alike", Edge.of(six + sets("0,30,0,30", "ab", "bc", "ca")).excess(7), -60);
        Edge.is("of three, none alike: the most there is", Edge.of(six + sets("0,60,0,0", "ab", "bc", "ca")).excess(7), 120);
        Edge.is("of six, one not alike: the most there is",
            Edge.of(six + sets("60,0,0,0", "ab", "bc", "cd", "de", "ef") + sets("0,0,60,0", "fa")).excess(63), 120);
        Edge.is("of law 1", Edge.of("law of 1;look a,b,c" + sets("0,1,0,0", "ab", "bc", "ca")).excess(7), 2);
    }

    private static void excessTurned() {
        Edge.sentence("EXCESS: the SAMES of a CYCLE together, each so or turned to the other side of 0, an odd number of them turned,"
            + " the most there is");
        excessOf(60, new int[] {-60, -58, -2, 0, 2, 58, 60});
        excessOf(59, new int[] {-59, -3, -1, 1, 3, 59});
    }

    private static void excessOf(int law, int[] sames) {
        for (int one : sames) {
            for (int two : sames) {
                for (int three : sames) {
                    int most = Math.max(Math.max(two + three - one, one + three - two), Math.max(one + two - three, -one - two - three));
                    NotAtOnce x = Edge.of("law of " + law + ";look a,b,c;set a,b tells " + (law + one) / 2 + "," + (law - one) / 2
                        + ",0,0;set b,c tells 0,0," + (law - two) / 2 + "," + (law + two) / 2 + ";set a,c tells 0,"
                        + (law - three) / 2 + ",0," + (law + three) / 2);
                    Edge.is("excess of " + one + " " + two + " " + three, x.excess(7), most - law);
                }
            }
        }
    }

    private static void excessRefused() {
        Edge.sentence("EXCESS of a CYCLE (bits). -1,000: 1 (no BOOK); 5 (it is none).");
        NotAtOnce none = new NotAtOnce();
        for (int bits : new int[] {0, 7, -1, Integer.MAX_VALUE}) {
            Edge.refused("no book " + bits, none, none.excess(bits), -1000, 1);
        }
        NotAtOnce x = Edge.of("law of 1;look a,b,c" + sets("1,0,0,0", "ab", "bc", "ca"));
        Edge.is("it is one", x.excess(7), 0);
        Edge.is("trouble", x.trouble(), 0);
        for (int bits : new int[] {0, 1, 3, 6, 8, 15, 7 | 1 << 8, 7 | 1 << 31, -1, Integer.MIN_VALUE, Integer.MAX_VALUE}) {
            Edge.refused("excess " + bits, x, x.excess(bits), -1000, 5);
        }
        x.drop(0);
        Edge.refused("no more", x, x.excess(7), -1000, 5);
        Edge.give(x, "law of 1;look a");
        Edge.refused("no sets", x, x.excess(0), -1000, 5);
    }

    private static void widestFirst() {
        Edge.sentence("The CYCLE of greatest EXCESS, the first such; -2 if there is none. NONE: 1 (no BOOK).");
        String three = "law of 2;look a,b,c" + sets("1,1,0,0", "ab", "bc");
        NotAtOnce x = Edge.of(three + sets("1,1,0,0", "ca", "ca"));
        Edge.is("below 0", x.excess(7), -2);
        Edge.is("one below 0 is one still, the first of like ones", x.widest(), 7);
        Edge.give(x, three + sets("1,1,0,0", "ca") + sets("2,0,0,0", "ca"));
        Edge.is("the second is greater", x.widest(), 11);
        Edge.give(x, three + sets("2,0,0,0", "ca") + sets("0,2,0,0", "ca"));
        Edge.is("alike: the first", x.widest(), 7);
        x.drop(0);
        Edge.is("none", x.widest(), -2);
        Edge.is("trouble", x.trouble(), 0);
        Edge.give(x, "law of 2;look a");
        Edge.is("no sets", x.widest(), -2);
        NotAtOnce none = new NotAtOnce();
        Edge.refused("no book", none, none.widest(), -1, 1);
    }

    // ---- 18 .. 23, 48

    private static void coinsAtEdges() {
        Edge.sentence("So many coins (0 .. 99) on an OUTCOME: true; false: 1; 2.");
        NotAtOnce x = Edge.of("law of 3;look a,b;set a,b tells 1,1,1,0;set b tells 2,1");
        for (int n : new int[] {99, 0, 1, 98, 99}) {
            Edge.is("stake " + n, x.stake(0, 3, n), true);
            Edge.is("trouble", x.trouble(), 0);
            Edge.is("coins", x.coins(0, 3), n);
        }
        for (int n : new int[] {100, -1, Integer.MIN_VALUE, Integer.MAX_VALUE, 256, -99}) {
            Edge.refused("stake " + n, x, x.stake(0, 3, n), 2);
            Edge.is("as before", x.coins(0, 3), 99);
        }
        int[][] wrong = {{2, 0}, {-1, 0}, {0, 4}, {0, -1}, {1, 2}, {1, 3}, {1, -1}, {8, 0}, {Integer.MIN_VALUE, 0}, {0, Integer.MAX_VALUE}};
        for (int[] w : wrong) {
            Edge.refused("stake on " + w[0] + " " + w[1], x, x.stake(w[0], w[1], 1), 1);
            Edge.refused("stake on " + w[0] + " " + w[1] + ", a number too", x, x.stake(w[0], w[1], 100), 1);
        }
        Edge.coins("no others", x, 0, 0, 0, 0, 99);
        Edge.coins("no others", x, 1, 0, 0);
        Edge.is("the last of the last set", x.stake(1, 1, 5), true);
        Edge.coins("there", x, 1, 0, 5);
        Edge.coins("not elsewhere", x, 0, 0, 0, 0, 99);
    }

    private static void betNothing() {
        Edge.sentence("A BET: coins (0 .. 99) on OUTCOMES, all 0 at first.");
        NotAtOnce x = Edge.of("law of 3;look a,b;set a,b tells 1,1,1,0;set b tells 2,1");
        Edge.coins("at first", x, 0, 0, 0, 0, 0);
        Edge.coins("at first", x, 1, 0, 0);
        betIs(x, 0, 0, 0, 0, 1, 1);
        Edge.give(x, "law of 3;look a,b");
        betIs(x, 0, 0, 0, 0, 1, 1);
        NotAtOnce none = new NotAtOnce();
        Edge.sentence("WINS. NONE: 1 (no BOOK).");
        Edge.refused("no book", none, none.wins(), -1, 1);
        Edge.sentence("WORST. NONE: 1 (no BOOK).");
        Edge.refused("no book", none, none.worst(), -1, 1);
        Edge.sentence("The first HIDDEN answer of that. NONE: 1 (no BOOK).");
        Edge.refused("no book", none, none.worstAt(), -1, 1);
        Edge.sentence("Whether it BARS: 1, 0. NONE: 1 (no BOOK).");
        Edge.refused("no book", none, none.bars(), -1, 1);
        Edge.sentence("FAIR in lowest terms, the upper WHOLE, or the lower. NONE: 1 (no BOOK).");
        Edge.refused("no book", none, none.fair(false), -1, 1);
        Edge.refused("no book", none, none.fair(true), -1, 1);
    }

    private static void betIs(NotAtOnce x, int wins, int worst, int at, int bars, int upper, int lower) {
        Edge.is("wins", x.wins(), wins);
        Edge.is("worst", x.worst(), worst);
        Edge.is("worst at", x.worstAt(), at);
        Edge.is("bars", x.bars(), bars);
        Edge.is("fair, upper", x.fair(false), upper);
        Edge.is("fair, lower", x.fair(true), lower);
        Edge.is("trouble", x.trouble(), 0);
    }

    private static void winsMost() {
        Edge.sentence("WINS: all coins times how often their OUTCOMES came.");
        NotAtOnce x = Edge.of("law of 60;look a,b" + ";set a,b tells 0,0,0,60".repeat(8));
        for (int set = 0; set < 8; set++) {
            x.stake(set, 0, 99);
        }
        Edge.is("on what never came", x.wins(), 0);
        for (int set = 0; set < 8; set++) {
            x.stake(set, 3, 99);
            Edge.is("on what came always", x.wins(), 99 * 60 * (set + 1));
        }
        betIs(x, 47520, 0, 1, 0, 1, 1);
        for (int set = 0; set < 8; set++) {
            x.stake(set, 1, 99);
            x.stake(set, 2, 99);
        }
        betIs(x, 47520, 792, 0, 0, 1, 1);
    }

    private static void worstFirst() {
        Edge.sentence("WORST: the least, by HIDDEN answers, of what OUTCOMES that it FITS pay together.");
        Edge.sentence("The first HIDDEN answer of that.");
        NotAtOnce x = Edge.of("law of 1;look a,b,c,d,e,f;set f,e tells 1,0,0,0;set d,c tells 1,0,0,0;set b,a tells 1,0,0,0");
        for (int set = 0; set < 3; set++) {
            for (int outcome = 0; outcome < 3; outcome++) {
                x.stake(set, outcome, 2);
            }
        }
        Edge.is("all 1 pay nothing", x.worst(), 0);
        Edge.is("the greatest there is", x.worstAt(), 63);
        x.stake(0, 3, 2);
        Edge.is("two at least", x.worst(), 2);
        Edge.is("the first of four", x.worstAt(), 15);
        x.stake(0, 1, 1);
        Edge.is("one at least", x.worst(), 1);
        Edge.is("f 0, e 1", x.worstAt(), 31);
        x.stake(1, 2, 1);
        Edge.is("d and c pay nothing together", x.worst(), 1);
        x.stake(1, 3, 1);
        Edge.is("d and c pay one, twice", x.worst(), 2);
        Edge.is("the first of them: d 1, c 0", x.worstAt(), 16 + 8 + 3);
    }

    private static void barsAtEqual() {
        Edge.sentence("It BARS if WINS is less than WORST times the law's WHOLE.");
        // by one set alone: all hidden answers are paid alike
        NotAtOnce x = Edge.of("law of 60;look a;set a tells 30,30;set a tells 30,30");
        x.stake(0, 0, 10);
        x.stake(0, 1, 10);
        betIs(x, 600, 10, 0, 0, 1, 1);
        // 11 on what came 29 times, 10 on what came 31 times: the worst is 10
        x.stake(0, 1, 11);
        betIs(x, 630, 10, 0, 0, 1, 1);
        Edge.give(x, "law of 60;look a;set a tells 60,0;set a tells 0,60");
        x.stake(0, 1, 60);
        x.stake(1, 0, 60);
        betIs(x, 0, 60, 0, 1, 0, 1);
        x.stake(0, 0, 59);
        betIs(x, 59 * 60, 60, 1, 1, 59, 60);
        x.stake(0, 0, 60);
        betIs(x, 3600, 60, 1, 0, 1, 1);
        x.stake(0, 0, 61);
        betIs(x, 3660, 60, 1, 0, 1, 1);
        Edge.give(x, "law of 60;look a;set a tells 59,1;set a tells 1,59");
        x.stake(0, 1, 1);
        x.stake(1, 0, 1);
        betIs(x, 2, 1, 0, 1, 1, 30);
        Edge.is("the share is that", x.share(true), 30);
        x.stake(0, 0, 1);
        // 1 + 60 + .. : 59 more
        betIs(x, 61, 1, 1, 0, 1, 1);
        x.shift(0, 0, 1, 1);
        betIs(x, 61, 1, 1, 0, 1, 1);
        x.stake(1, 0, 0);
        betIs(x, 60, 1, 0, 0, 1, 1);
    }

    private static void fairAtEdges() {
        Edge.sentence("FAIR: the greatest that SHARE could be by it: WINS by WORST times that WHOLE (1 if that is more, or WORST is 0).");
        NotAtOnce x = Edge.of("law of 7;look a;set a tells 7,0;set a tells 0,7");
        x.stake(0, 0, 99);
        betIs(x, 693, 0, 1, 0, 1, 1);
        x.stake(0, 0, 0);
        x.stake(0, 1, 99);
        betIs(x, 0, 0, 0, 0, 1, 1);
        x.stake(1, 0, 1);
        betIs(x, 0, 1, 0, 1, 0, 1);
        x.stake(1, 0, 99);
        betIs(x, 0, 99, 0, 1, 0, 1);
        x.shift(1, 1, 0, 1);
        betIs(x, 99, 99, 0, 1, 1, 7);
        x.shift(1, 1, 0, 5);
        betIs(x, 594, 99, 0, 1, 6, 7);
        x.shift(1, 1, 0, 1);
        betIs(x, 693, 99, 0, 0, 1, 1);
        x.stake(1, 1, 1);
        x.stake(0, 0, 1);
        betIs(x, 700, 100, 0, 0, 1, 1);
        x.stake(0, 0, 0);
        x.stake(1, 1, 0);
        x.stake(0, 1, 98);
        betIs(x, 693, 98, 1, 0, 1, 1);
    }

    // ---- 46 .. 49

    private static void ledAtEdges() {
        Edge.sentence("The i-th POSSIBLE OUTCOME that doesn't EXTEND, as 4 times its set and it, by sets, OUTCOMES."
            + " NoSuchElementException if there is none such.");
        Edge.is("no book", Edge.led(new NotAtOnce(), 0), -77);
        Edge.is("no sets", Edge.led(Edge.of("law of 1;look a"), 0), -77);
        Edge.is("all extend", Edge.led(Edge.of("law of 1;look a;set a tells 1,0"), 0), -77);
        NotAtOnce x = Edge.of("law of 4;look a,b" + ";set a tells 4,0".repeat(7) + ";set a,b tells 1,1,1,1");
        Edge.is("the last set's third", Edge.led(x, 0), 30);
        Edge.is("the last set's fourth, the greatest", Edge.led(x, 1), 31);
        Edge.is("no more", Edge.led(x, 2), -77);
        x.shift(0, 0, 1, 4);
        // none goes with all: what came in the first set alone, and what came in all the others
        int[] due = {1, 4, 8, 12, 16, 20, 24, 28, 29, 30, 31};
        for (int i = 0; i < due.length; i++) {
            Edge.is("led " + i, Edge.led(x, i), due[i]);
        }
        for (int i : new int[] {due.length, -1, Integer.MIN_VALUE, Integer.MAX_VALUE, 32}) {
            Edge.is("led " + i, Edge.led(x, i), -77);
        }
        Edge.is("it is not refused by a number", x.trouble(), 0);
        Edge.give(x, "law of 4;look a,b;set a,b tells 1,1,1,1;set a tells 0,4");
        Edge.is("the first set's first, the least", Edge.led(x, 0), 0);
        Edge.is("then its second", Edge.led(x, 1), 1);
        Edge.is("no more", Edge.led(x, 2), -77);
        x.forget(1);
        Edge.is("of one look now", Edge.led(x, 0), 0);
        Edge.is("no more", Edge.led(x, 1), -77);
        Edge.is("two of three extend", x.level(), 2);
    }

    private static void timesAtEdges() {
        Edge.sentence("How often an OUTCOME came. NONE: 1.");
        NotAtOnce x = Edge.of("law of 60;look a,b" + ";set a tells 60,0".repeat(7) + ";set a,b tells 0,1,0,59");
        Edge.times("of one look", x, 0, 60, 0);
        Edge.times("of two looks, the last set", x, 7, 0, 1, 0, 59);
        int[][] wrong = {{0, 2}, {0, 3}, {0, -1}, {7, 4}, {7, -1}, {8, 0}, {-1, 0}, {Integer.MAX_VALUE, 0}, {Integer.MIN_VALUE, 0},
            {7, Integer.MAX_VALUE}, {7, Integer.MIN_VALUE}, {1 << 30, 0}};
        for (int[] w : wrong) {
            Edge.refused("times " + w[0] + " " + w[1], x, x.times(w[0], w[1]), -1, 1);
        }
        Edge.is("trouble", x.times(7, 3) + x.trouble(), 59);
        NotAtOnce none = new NotAtOnce();
        Edge.refused("no book", none, none.times(0, 0), -1, 1);
    }

    private static void lookAtEdges() {
        Edge.sentence("The first look of a set, or the second (-2). NONE: 1.");
        NotAtOnce x = Edge.of("law of 1;look a,b,c,d,e,f;set a tells 1,0;set f,a tells 1,0,0,0;set e,f tells 1,0,0,0");
        Edge.is("the only look", x.look(0, false), 0);
        Edge.is("no second", x.look(0, true), -2);
        Edge.is("the first", x.look(1, false), 5);
        Edge.is("the second", x.look(1, true), 0);
        Edge.is("of the last set", x.look(2, false), 4);
        Edge.is("of the last set", x.look(2, true), 5);
        Edge.is("trouble", x.trouble(), 0);
        for (int set : new int[] {3, -1, 8, Integer.MIN_VALUE, Integer.MAX_VALUE}) {
            Edge.refused("look " + set, x, x.look(set, false), -1, 1);
            Edge.refused("look " + set, x, x.look(set, true), -1, 1);
        }
        NotAtOnce none = new NotAtOnce();
        Edge.refused("no book", none, none.look(0, false), -1, 1);
    }

    private static void coinsRefused() {
        Edge.sentence("Coins on an OUTCOME. NONE: 1.");
        NotAtOnce x = Edge.of("law of 3;look a,b;set a,b tells 1,1,1,0;set b tells 2,1");
        x.stake(1, 1, 99);
        int[][] wrong = {{1, 2}, {1, 3}, {0, 4}, {0, -1}, {2, 0}, {-1, 0}, {Integer.MAX_VALUE, 0}, {0, Integer.MIN_VALUE}, {1 << 30, 0}};
        for (int[] w : wrong) {
            Edge.refused("coins " + w[0] + " " + w[1], x, x.coins(w[0], w[1]), -1, 1);
        }
        Edge.is("the most", x.coins(1, 1), 99);
        Edge.is("trouble", x.trouble(), 0);
        NotAtOnce none = new NotAtOnce();
        Edge.refused("no book", none, none.coins(0, 0), -1, 1);
    }
}
