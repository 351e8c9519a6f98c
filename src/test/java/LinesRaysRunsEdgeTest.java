/** Each sentence of Terms III on lines, rays and runs, and of promises 24 to 36, that names an edge. */
public final class LinesRaysRunsEdgeTest {
    private static final String NINE = "law of 1;look a;point p,q,r,s,t,u,v,w,x";
    /** Rows are even, columns are even but for the last: any five can be so, six can't. */
    private static final String SQUARE = NINE + ";line p,q,r is even;line s,t,u is even;line v,w,x is even;line p,s,v is even;"
        + "line q,t,w is even;line r,u,x is odd";
    /** 18 rays in nine corners, each in two of them: nine can't be made of twos. */
    private static final String[] COLOURLESS = {"0,0,0,1", "0,0,1,0", "1,1,0,0", "1,-1,0,0", "0,1,0,0", "1,0,1,0", "1,0,-1,0",
        "1,-1,1,-1", "1,-1,-1,1", "0,0,1,1", "1,1,1,1", "0,1,0,-1", "1,0,0,1", "1,0,0,-1", "0,1,-1,0", "1,1,-1,1", "1,1,1,-1",
        "-1,1,1,1"};
    private static final String[] AXES = {"1,0,0,0", "0,1,0,0", "0,0,1,0", "0,0,0,1"};
    private static final int ALL = (1 << 18) - 1;

    public static void main(String[] args) {
        waysAtEdges();
        lineSums();
        forcedAtEdges();
        forcedRefused();
        coreAtEdges();
        coreOfLikeOnes();
        canAtEdges();
        gameAtEdges();
        squareAtEdges();
        squareRefused();
        cornersAtEdges();
        coloursAtEdges();
        coloursOfPairs();
        onesAtEdges();
        spareAtEdges();
        criticalAtEdges();
        memoryAtEdges();
        memoryOfEachRun();
        machineStates();
        machineLeast();
        machineInVain();
        machineRefused();
        booksInTurn();
        Edge.end("LinesRaysRunsEdgeTest");
    }

    // ---- 24, 25

    private static void waysAtEdges() {
        Edge.sentence("WAYS: in how many ways all lines are so.");
        Edge.is("no points", Edge.of("law of 1;look a").ways(), 1);
        for (int points = 1; points <= 9; points++) {
            NotAtOnce x = Edge.of(NINE.substring(0, NINE.length() - 2 * (9 - points)));
            Edge.is("points", x.size(1), points);
            Edge.is("no lines", x.ways(), 1 << points);
        }
        Edge.is("one line halves them", Edge.of(NINE + ";line v,w,x is odd").ways(), 256);
        Edge.is("told again it does not", Edge.of(NINE + ";line v,w,x is odd;line x,w,v is odd").ways(), 256);
        Edge.is("told otherwise there is none", Edge.of(NINE + ";line v,w,x is odd;line x,w,v is even").ways(), 0);
        Edge.is("the square", Edge.of(SQUARE).ways(), 0);
        Edge.is("eight lines, of which one is told by others", Edge.of(SQUARE.replace("odd", "even") + ";line p,t,x is even;"
            + "line r,t,v is even").ways(), 4);
        Edge.sentence("WAYS. NONE: 1 (no BOOK).");
        NotAtOnce none = new NotAtOnce();
        Edge.refused("no book", none, none.ways(), -1, 1);
    }

    private static void lineSums() {
        Edge.sentence("LINES: a point is 0 or 1; of those of a line the sum is even, odd.");
        // four lines make q, s, t, u 1, a fifth tells r by two of them: the last then tells p
        String ones = "law of 1;look a;point p,q,r,s,t,u;line s,t,u is odd;line q,s,t is odd;line q,s,u is odd;line q,t,u is odd";
        for (int r = 0; r < 2; r++) {
            for (int sum = 0; sum < 2; sum++) {
                NotAtOnce x = Edge.of(ones + ";line r,s,t is " + word(r) + ";line p,q,r is " + word(sum));
                Edge.is("one way", x.ways(), 1);
                Edge.is("q is 1", x.forced(1), 1);
                Edge.is("r", x.forced(2), r);
                Edge.is("p is what is wanting", x.forced(0), (sum + 1 + r) % 2);
            }
        }
    }

    private static String word(int sum) {
        return sum == 0 ? "even" : "odd";
    }

    private static void forcedAtEdges() {
        Edge.sentence("FORCED of a point: its value in all of these.");
        NotAtOnce x = Edge.of("law of 1;look a;point p,q,r,s;line p,q,r is even;line p,q,s is even;line p,r,s is even;line q,r,s is even");
        Edge.is("one way", x.ways(), 1);
        for (int point = 0; point < 4; point++) {
            Edge.is("all 0", x.forced(point), 0);
        }
        Edge.give(x, "law of 1;look a;point p,q,r,s;line p,q,r is odd;line p,q,s is odd;line p,r,s is odd;line q,r,s is odd");
        for (int point = 0; point < 4; point++) {
            Edge.is("all 1", x.forced(point), 1);
        }
        Edge.is("trouble", x.trouble(), 0);
        // r and s differ, so p is 0; q and r differ, so the last is 1; q may be either, and so r and s
        Edge.give(x, NINE + ";line p,q,r is odd;line p,q,s is even;line p,r,s is odd;line q,r,x is even");
        Edge.is("q, t, u, v, w", x.ways(), 32);
        for (int point = 0; point < 9; point++) {
            Edge.is("forced " + point, x.forced(point), point == 0 ? 0 : point == 8 ? 1 : -2);
        }
    }

    private static void forcedRefused() {
        Edge.sentence("FORCED of a point; -2 if it isn't. NONE: 1; 6 (no WAY).");
        NotAtOnce x = Edge.of(NINE);
        Edge.is("the first", x.forced(0), -2);
        Edge.is("the last", x.forced(8), -2);
        Edge.is("trouble", x.trouble(), 0);
        for (int point : new int[] {-1, 9, 10, 31, 32, Integer.MIN_VALUE, Integer.MAX_VALUE}) {
            Edge.refused("forced " + point, x, x.forced(point), -1, 1);
        }
        Edge.give(x, SQUARE);
        Edge.refused("no way, the first", x, x.forced(0), -1, 6);
        Edge.refused("no way, the last", x, x.forced(8), -1, 6);
        Edge.refused("no point, ahead of that", x, x.forced(9), -1, 1);
        Edge.refused("no point, ahead of that", x, x.forced(-1), -1, 1);
        Edge.give(x, "law of 1;look a;point p");
        Edge.is("one point", x.forced(0), -2);
        Edge.refused("no second", x, x.forced(1), -1, 1);
        Edge.give(x, "law of 1;look a");
        Edge.refused("no points", x, x.forced(0), -1, 1);
        NotAtOnce none = new NotAtOnce();
        Edge.refused("no book", none, none.forced(0), -1, 1);
    }

    // ---- 26, 27, 28

    private static void coreAtEdges() {
        Edge.sentence("CORE: the fewest lines that can't all be so; of like ones the least bits.");
        Edge.sentence("CORE, as bits; -2 if all lines can be so. NONE: 1 (no BOOK).");
        NotAtOnce x = Edge.of("law of 1;look a");
        Edge.is("no lines", x.core(), -2);
        Edge.is("trouble", x.trouble(), 0);
        Edge.give(x, NINE + ";line p,q,r is odd");
        Edge.is("one line", x.core(), -2);
        Edge.give(x, NINE + ";line p,q,r is odd".repeat(8));
        Edge.is("eight lines", x.core(), -2);
        Edge.give(x, NINE + ";line p,q,r is odd;line p,q,r is even");
        Edge.is("two", x.core(), 3);
        Edge.give(x, NINE + ";line p,q,r is odd".repeat(7) + ";line p,q,r is even");
        Edge.is("the first and the last", x.core(), 129);
        Edge.give(x, NINE + ";line s,t,u is odd".repeat(6) + ";line p,q,r is odd;line p,q,r is even");
        Edge.is("the last two", x.core(), 192);
        Edge.give(x, SQUARE);
        Edge.is("six", x.core(), 63);
        Edge.give(x, SQUARE + ";line p,t,x is even;line r,t,v is even");
        Edge.is("six of eight", x.core(), 63);
        // each point is in two of four lines: their sum is even, and told odd
        Edge.give(x, NINE + ";line p,q,r is even;line p,s,t is even;line q,s,u is even;line r,t,u is odd");
        Edge.is("four", x.core(), 15);
        NotAtOnce none = new NotAtOnce();
        Edge.refused("no book", none, none.core(), -1, 1);
    }

    private static void coreOfLikeOnes() {
        Edge.sentence("of like ones the least bits");
        NotAtOnce x = Edge.of(NINE + ";line p,q,r is odd;line s,t,u is odd;line s,t,u is even;line p,q,r is even");
        Edge.is("6 is less than 9", x.core(), 6);
        Edge.give(x, NINE + ";line p,q,r is odd;line s,t,u is odd;line p,q,r is even;line s,t,u is even");
        Edge.is("5 is less than 10", x.core(), 5);
        Edge.give(x, NINE + ";line p,q,r is even;line p,s,t is even;line q,s,u is even;line r,t,u is odd;line p,q,r is even");
        Edge.is("15 is less than 30", x.core(), 15);
        // four of less bits, but two are fewer
        Edge.give(x, NINE + ";line p,q,r is even;line p,s,t is even;line q,s,u is even;line r,t,u is odd;line v,w,x is odd;"
            + "line p,w,x is odd;line v,w,x is even");
        Edge.is("fewer ahead of less", x.core(), 80);
    }

    private static void canAtEdges() {
        Edge.sentence("Whether some lines (bits) can all be so: 1, 0. NONE: 1 (no BOOK); 2 (bits of none such).");
        NotAtOnce x = Edge.of(SQUARE);
        for (int bits = 0; bits < 64; bits++) {
            Edge.is("can " + bits, x.can(bits), bits == 63 ? 0 : 1);
        }
        Edge.is("trouble", x.trouble(), 0);
        for (int bits : new int[] {64, 65, 127, 128, -1, Integer.MIN_VALUE, Integer.MAX_VALUE, 1 << 8, 1 << 30}) {
            Edge.refused("can " + bits, x, x.can(bits), -1, 2);
        }
        Edge.give(x, NINE + ";line p,q,r is odd".repeat(7) + ";line p,q,r is even");
        Edge.is("the most bits that there are", x.can(255), 0);
        Edge.is("the last alone", x.can(128), 1);
        Edge.is("all but the last", x.can(127), 1);
        Edge.refused("of a ninth", x, x.can(256), -1, 2);
        Edge.give(x, "law of 1;look a");
        Edge.is("no lines, none of them", x.can(0), 1);
        Edge.refused("no lines, the first", x, x.can(1), -1, 2);
        NotAtOnce none = new NotAtOnce();
        Edge.refused("no book", none, none.can(0), -1, 1);
        Edge.refused("no book ahead of bits", none, none.can(1), -1, 1);
        Edge.refused("no book ahead of bits", none, none.can(-1), -1, 1);
    }

    private static void gameAtEdges() {
        Edge.sentence("GAME: the most lines that can be so at once.");
        Edge.is("no lines", Edge.of("law of 1;look a").game(), 0);
        Edge.is("one", Edge.of(NINE + ";line p,q,r is odd").game(), 1);
        for (int odd = 0; odd <= 8; odd++) {
            NotAtOnce x = Edge.of(NINE + ";line p,q,r is odd".repeat(odd) + ";line p,q,r is even".repeat(8 - odd));
            Edge.is("the odd ones or the others", x.game(), Math.max(odd, 8 - odd));
        }
        Edge.is("all but one", Edge.of(SQUARE).game(), 5);
        NotAtOnce none = new NotAtOnce();
        Edge.sentence("GAME. NONE: 1 (no BOOK).");
        Edge.refused("no book", none, none.game(), -1, 1);
    }

    // ---- 29, 30

    private static String rays(String... rays) {
        StringBuilder text = new StringBuilder("law of 1;look a");
        for (String ray : rays) {
            text.append(";ray ").append(ray);
        }
        return text.toString();
    }

    private static void squareAtEdges() {
        Edge.sentence("RAYS are SQUARE if their products, one by one, are together 0.");
        NotAtOnce x = Edge.of(rays("3,3,3,3", "3,3,3,3", "-3,-3,-3,-3", "3,-3,3,-3", "3,3,-3,-3", "1,2,-3,0", "3,3,-3,-2", "0,0,0,1",
            "0,0,0,-1"));
        Edge.is("36", x.square(0, 1), 0);
        Edge.is("-36", x.square(0, 2), 0);
        Edge.is("0 of both signs", x.square(0, 3), 1);
        Edge.is("0 of both signs", x.square(3, 4), 1);
        Edge.is("0 of three", x.square(0, 5), 1);
        Edge.is("3", x.square(0, 6), 0);
        Edge.is("3, by the last alone", x.square(0, 7), 0);
        Edge.is("-3, by the last alone", x.square(0, 8), 0);
        Edge.is("nothing goes with it", x.square(5, 7), 1);
        Edge.is("-1", x.square(7, 8), 0);
        for (int ray = 0; ray < 9; ray++) {
            for (int other = 0; other < 9; other++) {
                if (ray != other) {
                    Edge.is("either way", x.square(ray, other), x.square(other, ray));
                }
            }
        }
    }

    private static void squareRefused() {
        Edge.sentence("Whether two rays are SQUARE: 1, 0. NONE: 1 (one twice, too).");
        String[] eighteen = new String[18];
        for (int i = 0; i < 18; i++) {
            eighteen[i] = i == 0 || i == 17 ? AXES[i % 4] : "1,1,1,1";
        }
        NotAtOnce x = Edge.of(rays(eighteen));
        Edge.is("the first and the last", x.square(0, 17), 1);
        Edge.is("the last and the first", x.square(17, 0), 1);
        Edge.is("trouble", x.trouble(), 0);
        for (int ray = 0; ray < 18; ray++) {
            Edge.refused("one twice " + ray, x, x.square(ray, ray), -1, 1);
        }
        for (int wrong : new int[] {-1, 18, 19, 31, 32, Integer.MIN_VALUE, Integer.MAX_VALUE}) {
            Edge.refused("square 0 " + wrong, x, x.square(0, wrong), -1, 1);
            Edge.refused("square " + wrong + " 0", x, x.square(wrong, 0), -1, 1);
            Edge.refused("none twice " + wrong, x, x.square(wrong, wrong), -1, 1);
        }
        Edge.give(x, rays("1,0,0,0"));
        Edge.refused("one ray", x, x.square(0, 1), -1, 1);
        NotAtOnce none = new NotAtOnce();
        Edge.refused("no book", none, none.square(0, 1), -1, 1);
    }

    private static void cornersAtEdges() {
        Edge.sentence("A CORNER: 4 that are SQUARE, each with each.");
        Edge.is("no rays", Edge.of(rays()).corners(), 0);
        Edge.is("three", Edge.of(rays(AXES[0], AXES[1], AXES[2])).corners(), 0);
        Edge.is("four", Edge.of(rays(AXES)).corners(), 1);
        Edge.is("four, two of them not", Edge.of(rays(AXES[0], AXES[1], AXES[2], "0,0,1,1")).corners(), 0);
        Edge.is("four, of which one stands twice", Edge.of(rays(AXES[0], AXES[1], AXES[2], AXES[3], "0,0,0,2")).corners(), 2);
        Edge.is("without axes", Edge.of(rays("1,1,1,1", "1,1,-1,-1", "1,-1,1,-1", "1,-1,-1,1")).corners(), 1);
        Edge.is("nine", Edge.of(rays(COLOURLESS)).corners(), 9);
        String[] most = new String[18];
        for (int i = 0; i < 18; i++) {
            most[i] = AXES[i % 4];
        }
        NotAtOnce x = Edge.of(rays(most));
        Edge.is("5 times 5 times 4 times 4", x.corners(), 400);
        Edge.is("all rays of an axis are 1", x.colours(), 4);
        Edge.is("five of them", x.ones(), 5);
        Edge.sentence("How many CORNERS there are. NONE: 1 (no BOOK).");
        NotAtOnce none = new NotAtOnce();
        Edge.refused("no book", none, none.corners(), -1, 1);
    }

    // ---- 31 .. 34

    private static void coloursAtEdges() {
        Edge.sentence("A COLOUR: rays that are 1 so that no two SQUARE ones are and of each CORNER just one is.");
        Edge.is("no rays", Edge.of(rays()).colours(), 1);
        Edge.is("one", Edge.of(rays(AXES[0])).colours(), 2);
        Edge.is("two, square", Edge.of(rays(AXES[0], AXES[1])).colours(), 3);
        Edge.is("two, not square", Edge.of(rays(AXES[0], "1,1,0,0")).colours(), 4);
        Edge.is("three, square: none may be 1", Edge.of(rays(AXES[0], AXES[1], AXES[2])).colours(), 4);
        Edge.is("a corner: one must be 1", Edge.of(rays(AXES)).colours(), 4);
        for (int many = 1; many <= 18; many++) {
            String[] alike = new String[many];
            java.util.Arrays.fill(alike, "1,2,3,0");
            NotAtOnce x = Edge.of(rays(alike));
            Edge.is("no two square", x.colours(), 1 << many);
            Edge.is("all 1", x.ones(), many);
        }
        Edge.is("none", Edge.of(rays(COLOURLESS)).colours(), 0);
        Edge.sentence("COLOURS. NONE: 1 (no BOOK).");
        NotAtOnce none = new NotAtOnce();
        Edge.refused("no book", none, none.colours(), -1, 1);
    }

    private static void coloursOfPairs() {
        Edge.sentence("COLOURS: how many there are.");
        // n rays of one axis and 18 - n of another: of one of them any, of the other none
        for (int one = 0; one <= 18; one++) {
            String[] two = new String[18];
            for (int i = 0; i < 18; i++) {
                two[i] = AXES[i < one ? 0 : 3];
            }
            NotAtOnce x = Edge.of(rays(two));
            Edge.is("of one alone", x.colours(), (1 << one) + (1 << 18 - one) - 1);
            Edge.is("the most", x.ones(), Math.max(one, 18 - one));
        }
    }

    private static void onesAtEdges() {
        Edge.sentence("The greatest number of rays that are 1 in a COLOUR. NONE: 1 (no BOOK); 6 (there is none).");
        NotAtOnce x = Edge.of(rays());
        Edge.is("no rays", x.ones(), 0);
        Edge.is("trouble", x.trouble(), 0);
        Edge.give(x, rays(AXES));
        Edge.is("a corner", x.ones(), 1);
        Edge.give(x, rays(AXES[0], AXES[1], AXES[2], AXES[3], "1,1,1,1", "1,2,3,1", "2,1,1,3"));
        Edge.is("one of the corner and all others", x.ones(), 4);
        Edge.give(x, rays(COLOURLESS));
        Edge.refused("there is none", x, x.ones(), -1, 6);
        x = Edge.of(rays("1,1,1,1", "1,2,3,1"));
        Edge.is("asked for first", x.ones(), 2);
        NotAtOnce none = new NotAtOnce();
        Edge.refused("no book", none, none.ones(), -1, 1);
    }

    private static void spareAtEdges() {
        Edge.sentence("SPARE: rays without each of which, alone, there still is none (0 if there is one).");
        NotAtOnce x = Edge.of(rays());
        Edge.is("no rays: there is one", x.spare(), 0);
        Edge.is("trouble", x.trouble(), 0);
        Edge.give(x, rays(AXES));
        Edge.is("there is one", x.spare(), 0);
        Edge.give(x, rays(COLOURLESS));
        Edge.is("there is none, but one without any", x.spare(), 0);
        Edge.is("trouble", x.trouble(), 0);
        for (int left = 0; left < 18; left++) {
            Edge.is("without " + left, Edge.of(rays(without(left))).colours() > 0, true);
        }
        Edge.sentence("SPARE, as bits. NONE: 1 (no BOOK).");
        NotAtOnce none = new NotAtOnce();
        Edge.refused("no book", none, none.spare(), -1, 1);
        Edge.is("asked for first", Edge.of(rays(COLOURLESS)).spare(), 0);
    }

    private static String[] without(int left) {
        String[] rest = new String[17];
        for (int i = 0; i < 17; i++) {
            rest[i] = COLOURLESS[i < left ? i : i + 1];
        }
        return rest;
    }

    private static void criticalAtEdges() {
        Edge.sentence("CRITICAL: if there is none: rays gone through by numbers, each left out, if without it and those left out there"
            + " still is none: those that stay.");
        Edge.sentence("CRITICAL, as bits. NONE: 1 (no BOOK); 6 (there is a COLOUR).");
        NotAtOnce x = Edge.of(rays(COLOURLESS));
        Edge.is("all stay", x.critical(), ALL);
        Edge.is("trouble", x.trouble(), 0);
        Edge.give(x, rays(without(17)));
        Edge.refused("there is a colour", x, x.critical(), -1, 6);
        Edge.give(x, rays());
        Edge.refused("no rays: there is a colour", x, x.critical(), -1, 6);
        Edge.give(x, rays(COLOURLESS));
        Edge.is("all stay again", x.critical(), ALL);
        NotAtOnce none = new NotAtOnce();
        Edge.refused("no book", none, none.critical(), -1, 1);
    }

    // ---- 35, 36

    private static NotAtOnce told(String runs) {
        return Edge.of("law of 1;look a,b,c,d,e,f" + (runs.isEmpty() ? "" : ";run " + runs.replace("/", ";run ")));
    }

    private static void memoryAtEdges() {
        Edge.sentence("MEMORY: the fewest states (1 .. 3) of a machine, that begins each run in state 0, and tells to each look an answer"
            + " by its state and goes to a state, by which all runs are told so.");
        Edge.sentence("MEMORY; -2 if 3 don't do. NONE: 1 (no BOOK).");
        Edge.is("no runs", told("").memory(), 1);
        Edge.is("one step", told("f 1").memory(), 1);
        Edge.is("six looks, told the same", told("a 1,b 0,c 1,d 0,e 1,f 0/f 0,e 1,d 0,c 1,b 0,a 1").memory(), 1);
        Edge.is("told otherwise", told("a 1,a 0").memory(), 2);
        Edge.is("two behind each other", told("a 1,a 1,a 0").memory(), 3);
        NotAtOnce x = told("a 1,a 1,a 1,a 0");
        Edge.is("three behind each other: 4 states", x.memory(), -2);
        Edge.is("trouble", x.trouble(), 0);
        Edge.is("to and fro", told("a 1,a 0,a 1,a 0,a 1,a 0").memory(), 2);
        Edge.is("by threes", told("a 1,a 1,a 0,a 1,a 1,a 0").memory(), 3);
        Edge.is("all begin in 0", told("a 1/a 0").memory(), -2);
        Edge.is("all begin in 0, the fourth too", told("a 1/b 1/c 1/a 0").memory(), -2);
        NotAtOnce none = new NotAtOnce();
        Edge.refused("no book", none, none.memory(), -1, 1);
    }

    private static void memoryOfEachRun() {
        Edge.sentence("that begins each run in state 0");
        Edge.is("the second begins anew", told("a 1,b 1/a 1,b 1").memory(), 1);
        Edge.is("behind a it is elsewhere", told("a 1,b 1/b 0").memory(), 2);
        Edge.is("behind a and behind c", told("a 1,b 1/c 1,b 1/b 0").memory(), 2);
        Edge.is("behind a, c, and at first", told("a 1,b 1,d 1/c 1,b 1,d 0/b 0").memory(), 3);
        Edge.is("behind a, c, and at first, where d is told as behind a", told("a 1,b 1,d 1/c 1,b 1,d 0/b 0,d 1").memory(), 3);
    }

    private static void machineStates() {
        Edge.sentence("Of MACHINE what it tells to a look in a state (0, 1), or the state it goes to; -2 if no run comes to that. NONE: 1"
            + " (state 0 .. 2, look); 6 (3 don't do).");
        NotAtOnce x = told("");
        for (int state = 0; state < 3; state++) {
            for (int look = 0; look < 6; look++) {
                entryIs(x, state, look, -2, -2);
            }
        }
        x = told("f 1");
        entryIs(x, 0, 5, 1, 0);
        entryIs(x, 0, 4, -2, -2);
        entryIs(x, 1, 5, -2, -2);
        entryIs(x, 2, 5, -2, -2);
        x = told("f 1,f 1,f 0");
        entryIs(x, 0, 5, 1, 1);
        entryIs(x, 1, 5, 1, 2);
        entryIs(x, 2, 5, 0, 0);
        Edge.is("trouble", x.trouble(), 0);
    }

    private static void machineLeast() {
        Edge.sentence("MACHINE: of those with so few the one in which each state it goes to (asked for as the runs, one by one, step by step, come to a state and look for the first time; behind the last step"
            + " of a run, too) is the least by which all can still be told.");
        NotAtOnce x = told("a 1,b 1/b 1");
        entryIs(x, 0, 0, 1, 0);
        entryIs(x, 0, 1, 1, 0);
        entryIs(x, 1, 1, -2, -2);
        // behind the last step of the first run it must go on: the second run needs it
        x = told("a 1/a 1,b 1/b 0");
        entryIs(x, 0, 0, 1, 1);
        entryIs(x, 1, 1, 1, 0);
        entryIs(x, 0, 1, 0, 0);
        // the first asked for is 0, and so the second must be 1
        x = told("a 1,c 0/b 1,c 1");
        entryIs(x, 0, 0, 1, 0);
        entryIs(x, 0, 1, 1, 1);
        entryIs(x, 0, 2, 0, 0);
        entryIs(x, 1, 2, 1, 0);
        // the other way round of runs, the other way round of states
        x = told("b 1,c 1/a 1,c 0");
        entryIs(x, 0, 0, 1, 1);
        entryIs(x, 0, 1, 1, 0);
        entryIs(x, 0, 2, 1, 0);
        entryIs(x, 1, 2, 0, 0);
        // b can't go to 0 if a did, as c would be told both ways there
        x = told("a 0,b 0,c 0/b 0,a 0,c 1");
        Edge.is("two do", x.memory(), 2);
        entryIs(x, 0, 0, 0, 0);
        entryIs(x, 0, 1, 0, 1);
        entryIs(x, 1, 2, 0, 0);
        entryIs(x, 1, 0, 0, 0);
        entryIs(x, 0, 2, 1, 0);
    }

    private static void entryIs(NotAtOnce x, int state, int look, int tells, int goes) {
        Edge.is("tells " + state + " " + look, x.machine(state, look, false), tells);
        Edge.is("goes " + state + " " + look, x.machine(state, look, true), goes);
    }

    /** What was tried and did not do leaves nothing in the machine. */
    private static void machineInVain() {
        Edge.sentence("-2 if no run comes to that");
        // b can't stay in 0, as it is told otherwise at last: so a is never looked at there
        NotAtOnce x = told("b 1,a 1,b 1,b 0");
        Edge.is("two do", x.memory(), 2);
        entryIs(x, 0, 1, 1, 1);
        entryIs(x, 1, 0, 1, 0);
        entryIs(x, 1, 1, 0, 0);
        entryIs(x, 0, 0, -2, -2);
        for (int look = 0; look < 6; look++) {
            entryIs(x, 2, look, -2, -2);
        }
    }

    /** Of one book nothing is found that was another's, asked for or not. */
    private static void booksInTurn() {
        Edge.sentence("are the BOOK from now on");
        NotAtOnce x = told("a 1,a 1,a 0/b 1");
        Edge.is("three", x.memory(), 3);
        Edge.give(x, "law of 1;look a,b;run a 1");
        Edge.is("one", x.memory(), 1);
        entryIs(x, 0, 0, 1, 0);
        entryIs(x, 0, 1, -2, -2);
        Edge.give(x, "law of 1;look a,b;run a 1;run a 0");
        Edge.is("none", x.memory(), -2);
        Edge.give(x, "law of 1;look a,b;run a 0,a 1");
        entryIs(x, 0, 0, 0, 1);
        Edge.give(x, rays("1,1,1,1", "1,1,1,1", "1,1,1,1"));
        Edge.is("three", x.ones(), 3);
        Edge.give(x, rays(AXES));
        Edge.is("four", x.colours(), 4);
        Edge.is("one", x.ones(), 1);
        Edge.is("one", x.corners(), 1);
        Edge.give(x, rays("1,1,0,0", "1,1,0,0", "0,0,1,0", "0,0,0,1"));
        Edge.is("the first two are alike", x.square(0, 1), 0);
        Edge.is("none", x.corners(), 0);
        Edge.is("the first two, or not, or one of the others", x.colours(), 6);
        Edge.is("two", x.ones(), 2);
        Edge.give(x, rays(COLOURLESS));
        Edge.is("nine", x.corners(), 9);
        Edge.is("all", x.critical(), ALL);
        Edge.give(x, rays(AXES[0]));
        Edge.is("one", x.ones(), 1);
        Edge.is("one there is", x.spare(), 0);
        Edge.give(x, NINE + ";line p,q,r is odd;line p,q,r is even");
        Edge.is("none", x.ways(), 0);
        Edge.give(x, NINE + ";line p,q,r is odd;line p,q,s is even");
        Edge.is("a fourth", x.ways(), 128);
        Edge.is("all can", x.core(), -2);
        Edge.is("not forced", x.forced(0), -2);
        Edge.give(x, NINE);
        Edge.is("all", x.ways(), 512);
        Edge.is("no lines", x.game(), 0);
    }

    private static void machineRefused() {
        Edge.sentence("NONE: 1 (state 0 .. 2, look); 6 (3 don't do).");
        NotAtOnce x = told("f 1");
        int far = Integer.MAX_VALUE;
        int[][] wrong = {{-1, 0}, {3, 0}, {far, 0}, {far + 1, 0}, {0, -1}, {0, 6}, {2, 6}, {0, far}, {0, far + 1}, {3, 6}};
        for (int[] w : wrong) {
            Edge.refused("machine " + w[0] + " " + w[1], x, x.machine(w[0], w[1], false), -1, 1);
            Edge.refused("machine " + w[0] + " " + w[1], x, x.machine(w[0], w[1], true), -1, 1);
        }
        x = Edge.of("law of 1;look a;run a 1;run a 0");
        Edge.refused("three don't do", x, x.machine(0, 0, false), -1, 6);
        Edge.refused("three don't do", x, x.machine(2, 0, true), -1, 6);
        Edge.refused("no look, ahead of that", x, x.machine(0, 1, false), -1, 1);
        Edge.refused("no state, ahead of that", x, x.machine(3, 0, false), -1, 1);
        NotAtOnce none = new NotAtOnce();
        Edge.refused("no book", none, none.machine(0, 0, false), -1, 1);
    }
}
