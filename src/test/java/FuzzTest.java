import java.util.NoSuchElementException;
import java.util.Random;

/** Runs of calls by chance on the program and on the model: every answer must be the same. */
public final class FuzzTest {
    private static final int CALLS = 46;
    private static int wrong = 0;
    private static long checked = 0;

    private final Random chance;
    private final Texts texts;
    private final NotAtOnce program = new NotAtOnce();
    private final Model model = new Model();
    private final StringBuilder told = new StringBuilder();
    private int calls;

    private FuzzTest(long seed) {
        chance = new Random(seed);
        texts = new Texts(chance);
    }

    public static void main(String[] args) {
        int runs = args.length > 0 ? Integer.parseInt(args[0]) : 3000;
        long seed = args.length > 1 ? Long.parseLong(args[1]) : 1;
        for (int run = 0; run < runs && wrong < 5; run++) {
            new FuzzTest(seed * 1000003 + run).go(run);
        }
        System.out.println(checked + " answers compared, " + wrong + " unlike");
        if (wrong != 0) {
            System.exit(1);
        }
    }

    private void go(int run) {
        int before = wrong;
        boolean spoil = run % 3 == 0;
        while (calls < 500 && wrong == before) {
            if (chance.nextInt(spoil ? 3 : 90) == 0 || calls == 30) {
                giveText(spoil && chance.nextInt(8) != 0, run % 40 == 1);
            } else {
                if (run % 5 == 2 && chance.nextBoolean()) {
                    shift();
                } else {
                    any();
                }
                same("trouble()", program.trouble(), model.trouble());
                same("where()", program.where(), model.where());
            }
        }
        if (wrong != before) {
            System.out.println("run " + run + told);
        }
    }

    private void giveText(boolean spoil, boolean manyRays) {
        String text = texts.book(manyRays);
        if (spoil) {
            text = chance.nextInt(3) == 0 ? texts.mixedUp(text) : texts.spoilt(text);
        }
        told.append("\n  text ").append(text);
        int n = text.length();
        StringBuilder padded = new StringBuilder(text);
        while (padded.length() % 20 != 0) {
            padded.append((char) (32 + chance.nextInt(96)));
        }
        if (program.size(10) + padded.length() > 900) {
            same("book(0)", program.book(0), model.book(0));
        }
        if (program.size(10) > 0) {
            return;
        }
        for (int i = 0; i < padded.length(); i += 20) {
            int[] five = new int[5];
            for (int k = 0; k < 20; k++) {
                five[k / 4] = five[k / 4] << 8 | padded.charAt(i + k);
            }
            same("feed", program.feed(five[0], five[1], five[2], five[3], five[4]),
                model.feed(five[0], five[1], five[2], five[3], five[4]));
        }
        same("book(" + n + ")", program.book(n), model.book(n));
        same("fault()", program.fault(), model.fault());
        same("where()", program.where(), model.where());
        same("trouble()", program.trouble(), model.trouble());
        for (int what = -1; what < 12; what++) {
            same("size(" + what + ")", program.size(what), model.size(what));
        }
    }

    private void any() {
        int i = small();
        int j = small();
        int u = chance.nextInt(12) == 0 ? small() : chance.nextInt(2);
        int v = chance.nextInt(12) == 0 ? small() : chance.nextInt(2);
        boolean b = chance.nextBoolean();
        boolean c = chance.nextBoolean();
        String name = "(" + i + "," + j + "," + u + "," + v + "," + b + "," + c + ")";
        int call = chance.nextInt(CALLS);
        switch (call) {
            case 0: same("share" + name, program.share(b), model.share(b)); break;
            case 1: same("together" + name, program.together(i, u, j, v, b, c), model.together(i, u, j, v, b, c)); break;
            case 2: same("extend" + name, program.extend(i, j), model.extend(i, j)); break;
            case 3: same("level" + name, program.level(), model.level()); break;
            case 4: same("hidden" + name, program.hidden(), model.hidden()); break;
            case 5: same("answer" + name, program.answer(i), model.answer(i)); break;
            case 6: same("disturbed" + name, program.disturbed(), model.disturbed()); break;
            case 7: same("same" + name, program.same(i), model.same(i)); break;
            case 8: same("cycles" + name, program.cycles(), model.cycles()); break;
            case 9: same("cycle" + name, program.cycle(j), model.cycle(j)); break;
            case 10: excess(); break;
            case 11: same("widest" + name, program.widest(), model.widest()); break;
            case 12: case 13: case 14: stake(i, j); break;
            case 15: same("wins" + name, program.wins(), model.wins()); break;
            case 16: same("worst" + name, program.worst(), model.worst()); break;
            case 17: same("worstAt" + name, program.worstAt(), model.worstAt()); break;
            case 18: same("bars" + name, program.bars(), model.bars()); break;
            case 19: same("fair" + name, program.fair(b), model.fair(b)); break;
            case 20: same("ways" + name, program.ways(), model.ways()); break;
            case 21: same("forced" + name, program.forced(i), model.forced(i)); break;
            case 22: same("core" + name, program.core(), model.core()); break;
            case 23: can(); break;
            case 24: same("game" + name, program.game(), model.game()); break;
            case 25: square(); break;
            case 26: same("corners" + name, program.corners(), model.corners()); break;
            case 27: same("colours" + name, program.colours(), model.colours()); break;
            case 28: same("ones" + name, program.ones(), model.ones()); break;
            case 29: same("spare" + name, program.spare(), model.spare()); break;
            case 30: same("critical" + name, program.critical(), model.critical()); break;
            case 31: same("memory" + name, program.memory(), model.memory()); break;
            case 32: machine(b); break;
            default: actOrSee(call, i, j, b); break;
        }
    }

    private void actOrSee(int call, int i, int j, boolean b) {
        String name = "(" + i + "," + j + "," + b + ")";
        switch (call) {
            case 33: same("flip" + name, program.flip(i), model.flip(i)); break;
            case 34:
                // seldom, or no set would be left
                if (chance.nextInt(3) == 0) {
                    same("drop" + name, program.drop(i), model.drop(i));
                }
                break;
            case 35:
                if (chance.nextInt(3) == 0) {
                    same("forget" + name, program.forget(i), model.forget(i));
                }
                break;
            case 36: case 37: shift(); break;
            case 38: same("undo" + name, program.undo(), model.undo()); break;
            case 39: same("redo" + name, program.redo(), model.redo()); break;
            case 40: same("mark" + name, program.mark(), model.mark()); break;
            case 41: same("back" + name, program.back(i), model.back(i)); break;
            case 42: act(i, j); break;
            case 43: same("times" + name, program.times(i, j), model.times(i, j)); break;
            case 44: same("look" + name, program.look(i, b), model.look(i, b)); break;
            default:
                same("coins" + name, program.coins(i, j), model.coins(i, j));
                same("led" + name, ledOf(true, j), ledOf(false, j));
                same("size" + name, program.size(i), model.size(i));
                same("book" + name, program.book(-1 - i), model.book(-1 - i));
                same("fault" + name, program.fault(), model.fault());
                break;
        }
    }

    private int ledOf(boolean mine, int i) {
        try {
            return mine ? program.led(i) : model.led(i);
        } catch (NoSuchElementException e) {
            return -77;
        }
    }

    private void stake(int i, int j) {
        if (chance.nextInt(6) == 0) {
            stakeAll();
            return;
        }
        int n = chance.nextInt(8) == 0 ? chance.nextInt(120) - 10 : chance.nextInt(4);
        same("stake(" + i + "," + j + "," + n + ")", program.stake(i, j, n), model.stake(i, j, n));
    }

    /** Coins on all of a set, so that there is a worst above nothing. */
    private void stakeAll() {
        int set = chance.nextInt(4);
        int most = chance.nextBoolean() ? 3 : 99;
        for (int outcome = 0; outcome < 4; outcome++) {
            int n = 1 + chance.nextInt(most);
            same("stake(" + set + "," + outcome + "," + n + ")", program.stake(set, outcome, n),
                model.stake(set, outcome, n));
        }
        same("wins()", program.wins(), model.wins());
        same("worst()", program.worst(), model.worst());
        same("worstAt()", program.worstAt(), model.worstAt());
        same("bars()", program.bars(), model.bars());
        same("fair(false)", program.fair(false), model.fair(false));
        same("fair(true)", program.fair(true), model.fair(true));
    }

    private void shift() {
        int set = chance.nextInt(9);
        int from = chance.nextInt(5);
        int to = chance.nextInt(5) - (chance.nextInt(9) == 0 ? 1 : 0);
        int n = chance.nextInt(3) == 0 ? chance.nextInt(64) - 1 : 1 + chance.nextInt(3);
        same("shift(" + set + "," + from + "," + to + "," + n + ")", program.shift(set, from, to, n),
            model.shift(set, from, to, n));
    }

    private void excess() {
        int bits = chance.nextInt(10) == 0 ? chance.nextInt() : chance.nextInt(256);
        if (chance.nextBoolean()) {
            bits = model.cycle(chance.nextInt(4));
            program.cycle(-1);
        }
        same("excess(" + bits + ")", program.excess(bits), model.excess(bits));
    }

    private void can() {
        int bits = chance.nextInt(10) == 0 ? chance.nextInt() : chance.nextInt(1 << chance.nextInt(10));
        same("can(" + bits + ")", program.can(bits), model.can(bits));
    }

    private void act(int i, int j) {
        int number = chance.nextBoolean() ? i : chance.nextInt(22);
        same("act(" + number + "," + j + ")", program.act(number, j), model.act(number, j));
    }

    private void square() {
        int ray = chance.nextInt(20) - 1;
        int other = chance.nextInt(20) - 1;
        same("square(" + ray + "," + other + ")", program.square(ray, other), model.square(ray, other));
    }

    private void machine(boolean next) {
        int state = chance.nextInt(5) - 1;
        int look = chance.nextInt(8) - 1;
        same("machine(" + state + "," + look + "," + next + ")", program.machine(state, look, next),
            model.machine(state, look, next));
    }

    private int small() {
        switch (chance.nextInt(40)) {
            case 0: return chance.nextInt();
            case 1: return -1;
            case 2: return Integer.MIN_VALUE;
            case 3: return Integer.MAX_VALUE;
            case 4: return 4 + chance.nextInt(60);
            default: return chance.nextInt(1 + chance.nextInt(9));
        }
    }

    private void same(String call, boolean got, boolean due) {
        same(call, got ? 1 : 0, due ? 1 : 0);
    }

    private void same(String call, int got, int due) {
        calls++;
        checked++;
        told.append("\n  ").append(call).append(" = ").append(got);
        if (got != due) {
            wrong++;
            System.out.println(call + " answered " + got + ", the model says " + due);
        }
    }
}
