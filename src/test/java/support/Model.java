import java.math.BigInteger;
import java.util.ArrayList;
import java.util.Arrays;
import java.util.HashMap;
import java.util.HashSet;
import java.util.List;
import java.util.Map;
import java.util.NoSuchElementException;
import java.util.Set;

/**
 * The document once more, written for plainness alone and by other ways than the program's: what
 * it can try out one by one it tries out, its linear programmes run over fractions of BigInteger.
 */
final class Model {
    static final class Group {
        final int[] looks;
        final int[] times;
        int[] coins;

        Group(int[] looks, int[] times) {
            this.looks = looks;
            this.times = times;
            this.coins = new int[times.length];
        }

        Group copy() {
            return new Group(looks.clone(), times.clone());
        }

        boolean has(int look) {
            return Arrays.stream(looks).anyMatch(x -> x == look);
        }

        /** The answer that an outcome tells to the k-th look of the set. */
        int told(int outcome, int k) {
            return outcome >> (looks.length - 1 - k) & 1;
        }

        int outcomeOf(int hidden) {
            int outcome = 0;
            for (int look : looks) {
                outcome = 2 * outcome + (hidden >> look & 1);
            }
            return outcome;
        }
    }

    private final List<Integer> tape = new ArrayList<>();
    private ModelText text;
    private List<Group> table = new ArrayList<>();
    private final List<List<Group>> past = new ArrayList<>();
    private final List<int[]> acts = new ArrayList<>();
    private final List<List<Group>> future = new ArrayList<>();
    private final List<int[]> futureActs = new ArrayList<>();
    private final List<List<Group>> marks = new ArrayList<>();
    private final Map<String, Object> kept = new HashMap<>();
    private int fault;
    private int place;
    private int trouble;

    // ---- the book

    int feed(int a, int b, int c, int d, int e) {
        if (tape.size() > 880) {
            return -1;
        }
        for (int x : new int[] {a, b, c, d, e}) {
            for (byte part : java.nio.ByteBuffer.allocate(4).putInt(x).array()) {
                tape.add(part & 0xff);
            }
        }
        return tape.size();
    }

    int book(int n) {
        if (n < 0 || n > tape.size()) {
            return no(2);
        }
        StringBuilder all = new StringBuilder();
        for (int i = 0; i < n; i++) {
            all.append((char) (int) tape.get(i));
        }
        tape.clear();
        ModelText read = new ModelText(all.toString());
        fault = read.fault;
        if (fault != 0) {
            place = read.place;
            return no(4);
        }
        text = read;
        table = new ArrayList<>();
        for (Group group : read.sets) {
            table.add(group.copy());
        }
        past.clear();
        acts.clear();
        future.clear();
        futureActs.clear();
        marks.clear();
        kept.clear();
        return yes(read.looks.size());
    }

    int fault() {
        return fault;
    }

    int where() {
        return trouble == 4 ? place : -1;
    }

    // ---- what is hidden

    int share(boolean lower) {
        if (text == null) {
            return no(1);
        }
        return yes(part(shareNow(), lower));
    }

    int together(int i, int u, int j, int v, boolean most, boolean lower) {
        if (!isLook(i) || !isLook(j) || i == j || u < 0 || u > 1 || v < 0 || v > 1) {
            return no(1);
        }
        if (!isMixed()) {
            return no(6);
        }
        return yes(part(togetherNow(i, u, j, v, most), lower));
    }

    int extend(int set, int outcome) {
        if (!isOutcome(set, outcome)) {
            return no(1);
        }
        return yes(extendsNow(set, outcome) ? 1 : 0);
    }

    int level() {
        if (text == null) {
            return no(1);
        }
        if (isMixed()) {
            return yes(0);
        }
        int possible = 0;
        int extending = 0;
        for (int set = 0; set < table.size(); set++) {
            for (int o = 0; o < table.get(set).times.length; o++) {
                if (table.get(set).times[o] > 0) {
                    possible++;
                    extending += extendsNow(set, o) ? 1 : 0;
                }
            }
        }
        return yes(extending == possible ? 1 : extending > 0 ? 2 : 3);
    }

    int hidden() {
        return text == null ? no(1) : yes(fitting().size());
    }

    int answer(int i) {
        if (text == null || i < 0 || i >= fitting().size()) {
            return no(1);
        }
        return yes(fitting().get(i));
    }

    int disturbed() {
        if (text == null) {
            return no(1);
        }
        for (int look = 0; look < text.looks.size(); look++) {
            Set<Integer> seen = new HashSet<>();
            for (Group group : table) {
                for (int k = 0; k < group.looks.length; k++) {
                    if (group.looks[k] == look) {
                        int ones = 0;
                        for (int o = 0; o < group.times.length; o++) {
                            ones += group.told(o, k) * group.times[o];
                        }
                        seen.add(ones);
                    }
                }
            }
            if (seen.size() > 1) {
                return yes(look);
            }
        }
        return yes(-2);
    }

    int same(int set) {
        if (!isSet(set) || table.get(set).looks.length != 2) {
            no(1);
            return -1000;
        }
        return yes(sameNow(set));
    }

    int cycles() {
        return text == null ? no(1) : yes(cyclesNow().size());
    }

    int cycle(int i) {
        if (text == null || i < 0 || i >= cyclesNow().size()) {
            return no(1);
        }
        return yes(cyclesNow().get(i));
    }

    int excess(int cycle) {
        if (text == null) {
            no(1);
            return -1000;
        }
        if (!cyclesNow().contains(cycle)) {
            no(5);
            return -1000;
        }
        return yes(excessNow(cycle));
    }

    int widest() {
        if (text == null) {
            return no(1);
        }
        int best = -2;
        for (int cycle : cyclesNow()) {
            if (best == -2 || excessNow(cycle) > excessNow(best)) {
                best = cycle;
            }
        }
        return yes(best);
    }

    // ---- bets

    boolean stake(int set, int outcome, int coins) {
        if (!isOutcome(set, outcome)) {
            return no(1) == 0;
        }
        if (coins < 0 || coins > 99) {
            return no(2) == 0;
        }
        table.get(set).coins[outcome] = coins;
        return yes(0) == 0;
    }

    int wins() {
        return text == null ? no(1) : yes(winsNow());
    }

    int worst() {
        return text == null ? no(1) : yes(worstNow()[0]);
    }

    int worstAt() {
        return text == null ? no(1) : yes(worstNow()[1]);
    }

    int bars() {
        return text == null ? no(1) : yes(winsNow() < worstNow()[0] * text.law ? 1 : 0);
    }

    int fair(boolean lower) {
        if (text == null) {
            return no(1);
        }
        int below = worstNow()[0] * text.law;
        if (below == 0 || winsNow() > below) {
            return yes(1);
        }
        return yes(part(Frac.of(winsNow(), below), lower));
    }

    // ---- lines

    int ways() {
        return text == null ? no(1) : yes(waysOf((1 << text.lines.size()) - 1).size());
    }

    int forced(int point) {
        if (text == null || point < 0 || point >= text.points.size()) {
            return no(1);
        }
        Set<Integer> values = new HashSet<>();
        for (int way : waysOf((1 << text.lines.size()) - 1)) {
            values.add(way >> point & 1);
        }
        if (values.isEmpty()) {
            return no(6);
        }
        return yes(values.size() == 2 ? -2 : values.iterator().next());
    }

    int core() {
        if (text == null) {
            return no(1);
        }
        for (int few = 0; few <= text.lines.size(); few++) {
            for (int bits = 0; bits < 1 << text.lines.size(); bits++) {
                if (Integer.bitCount(bits) == few && waysOf(bits).isEmpty()) {
                    return yes(bits);
                }
            }
        }
        return yes(-2);
    }

    int can(int lines) {
        if (text == null) {
            return no(1);
        }
        if ((lines & 0xffffffff << text.lines.size()) != 0) {
            return no(2);
        }
        return yes(waysOf(lines).isEmpty() ? 0 : 1);
    }

    int game() {
        if (text == null) {
            return no(1);
        }
        int most = 0;
        for (int bits = 0; bits < 1 << text.lines.size(); bits++) {
            if (!waysOf(bits).isEmpty()) {
                most = Math.max(most, Integer.bitCount(bits));
            }
        }
        return yes(most);
    }

    // ---- rays

    int square(int ray, int other) {
        if (!isRay(ray) || !isRay(other) || ray == other) {
            return no(1);
        }
        return yes(squareNow(ray, other) ? 1 : 0);
    }

    int corners() {
        return text == null ? no(1) : yes(cornersNow().size());
    }

    int colours() {
        return text == null ? no(1) : yes(coloursOf((1 << text.rays.size()) - 1)[0]);
    }

    int ones() {
        if (text == null) {
            return no(1);
        }
        int[] found = coloursOf((1 << text.rays.size()) - 1);
        return found[0] == 0 ? no(6) : yes(found[1]);
    }

    int spare() {
        if (text == null) {
            return no(1);
        }
        int all = (1 << text.rays.size()) - 1;
        int bits = 0;
        for (int ray = 0; coloursOf(all)[0] == 0 && ray < text.rays.size(); ray++) {
            if (coloursOf(all & ~(1 << ray))[0] == 0) {
                bits |= 1 << ray;
            }
        }
        return yes(bits);
    }

    int critical() {
        if (text == null) {
            return no(1);
        }
        int left = (1 << text.rays.size()) - 1;
        if (coloursOf(left)[0] > 0) {
            return no(6);
        }
        for (int ray = 0; ray < text.rays.size(); ray++) {
            if (coloursOf(left & ~(1 << ray))[0] == 0) {
                left &= ~(1 << ray);
            }
        }
        return yes(left);
    }

    // ---- runs

    int memory() {
        return text == null ? no(1) : yes(machineNow() == null ? -2 : machineNow().states);
    }

    int machine(int state, int look, boolean next) {
        if (state < 0 || state > 2 || !isLook(look)) {
            return no(1);
        }
        ModelMachine machine = machineNow();
        if (machine == null) {
            return no(6);
        }
        return yes(next ? machine.goes[state][look] : machine.tells[state][look]);
    }

    // ---- acts

    boolean flip(int look) {
        if (!isLook(look)) {
            return no(1) == 0;
        }
        List<Group> before = copyOf(table);
        for (Group group : table) {
            for (int k = 0; k < group.looks.length; k++) {
                if (group.looks[k] == look) {
                    int turn = 1 << (group.looks.length - 1 - k);
                    int[] times = group.times.clone();
                    int[] coins = group.coins.clone();
                    for (int o = 0; o < times.length; o++) {
                        group.times[o ^ turn] = times[o];
                        group.coins[o ^ turn] = coins[o];
                    }
                }
            }
        }
        return acted(before, 0, look, -2, -2, -2);
    }

    boolean drop(int set) {
        if (!isSet(set)) {
            return no(1) == 0;
        }
        List<Group> before = copyOf(table);
        table.remove(set);
        return acted(before, 1, set, -2, -2, -2);
    }

    boolean forget(int look) {
        if (!isLook(look)) {
            return no(1) == 0;
        }
        if (table.stream().noneMatch(group -> group.has(look))) {
            return no(5) == 0;
        }
        List<Group> before = copyOf(table);
        List<Group> after = new ArrayList<>();
        for (Group group : table) {
            if (!group.has(look)) {
                after.add(group);
            } else if (group.looks.length == 2) {
                int stays = group.looks[0] == look ? 1 : 0;
                Group one = new Group(new int[] {group.looks[stays]}, new int[2]);
                for (int o = 0; o < 4; o++) {
                    one.times[group.told(o, stays)] += group.times[o];
                }
                after.add(one);
            }
        }
        table = after;
        return acted(before, 2, look, -2, -2, -2);
    }

    boolean shift(int set, int from, int to, int n) {
        if (!isOutcome(set, from) || !isOutcome(set, to) || from == to) {
            return no(1) == 0;
        }
        if (n < 1 || n > 60) {
            return no(2) == 0;
        }
        if (table.get(set).times[from] < n) {
            return no(5) == 0;
        }
        List<Group> before = copyOf(table);
        table.get(set).times[from] -= n;
        table.get(set).times[to] += n;
        return acted(before, 3, set, from, to, n);
    }

    boolean undo() {
        if (acts.isEmpty()) {
            return no(6) == 0;
        }
        future.add(copyOf(table));
        futureActs.add(acts.remove(acts.size() - 1));
        table = copyOf(past.remove(past.size() - 1));
        kept.clear();
        return yes(0) == 0;
    }

    boolean redo() {
        if (futureActs.isEmpty()) {
            return no(6) == 0;
        }
        past.add(copyOf(table));
        acts.add(futureActs.remove(futureActs.size() - 1));
        table = copyOf(future.remove(future.size() - 1));
        kept.clear();
        return yes(0) == 0;
    }

    int mark() {
        if (text == null) {
            return no(1);
        }
        if (marks.size() == 4) {
            return no(3);
        }
        marks.add(copyOf(table));
        return yes(marks.size() - 1);
    }

    boolean back(int mark) {
        if (mark < 0 || mark >= marks.size()) {
            return no(1) == 0;
        }
        table = copyOf(marks.get(mark));
        past.clear();
        acts.clear();
        future.clear();
        futureActs.clear();
        kept.clear();
        return yes(0) == 0;
    }

    int act(int i, int what) {
        if (i < 0 || i >= acts.size() || what < 0 || what > 4) {
            return no(1);
        }
        return yes(acts.get(i)[what]);
    }

    // ---- what is seen

    int times(int set, int outcome) {
        return isOutcome(set, outcome) ? yes(table.get(set).times[outcome]) : no(1);
    }

    int look(int set, boolean second) {
        if (!isSet(set)) {
            return no(1);
        }
        int[] looks = table.get(set).looks;
        return yes(!second ? looks[0] : looks.length == 2 ? looks[1] : -2);
    }

    int coins(int set, int outcome) {
        return isOutcome(set, outcome) ? yes(table.get(set).coins[outcome]) : no(1);
    }

    int led(int i) {
        List<Integer> all = new ArrayList<>();
        for (int set = 0; set < table.size(); set++) {
            for (int o = 0; o < table.get(set).times.length; o++) {
                if (table.get(set).times[o] > 0 && !extendsNow(set, o)) {
                    all.add(4 * set + o);
                }
            }
        }
        if (i < 0 || i >= all.size()) {
            throw new NoSuchElementException();
        }
        return all.get(i);
    }

    int size(int what) {
        if (what == 10) {
            return tape.size();
        }
        if (what < 0 || what > 10) {
            return -1;
        }
        if (text == null) {
            return 0;
        }
        int[] sizes = {text.looks.size(), text.points.size(), table.size(), text.lines.size(), text.rays.size(),
            text.runs.size(), text.law, acts.size(), futureActs.size(), marks.size()};
        return sizes[what];
    }

    int trouble() {
        return trouble;
    }

    // ---- what the calls rest on

    private int yes(int value) {
        trouble = 0;
        return value;
    }

    private int no(int number) {
        trouble = number;
        return -1;
    }

    private boolean acted(List<Group> before, int... act) {
        past.add(before);
        acts.add(act);
        if (acts.size() > 20) {
            past.remove(0);
            acts.remove(0);
        }
        future.clear();
        futureActs.clear();
        kept.clear();
        return yes(0) == 0;
    }

    private static List<Group> copyOf(List<Group> groups) {
        List<Group> copies = new ArrayList<>();
        for (Group group : groups) {
            copies.add(group.copy());
        }
        return copies;
    }

    private boolean isLook(int look) {
        return text != null && look >= 0 && look < text.looks.size();
    }

    private boolean isSet(int set) {
        return set >= 0 && set < table.size();
    }

    private boolean isOutcome(int set, int outcome) {
        return isSet(set) && outcome >= 0 && outcome < table.get(set).times.length;
    }

    private boolean isRay(int ray) {
        return text != null && ray >= 0 && ray < text.rays.size();
    }

    private static int part(Frac value, boolean lower) {
        return (lower ? value.down : value.up).intValueExact();
    }

    private List<Integer> fitting() {
        List<Integer> all = new ArrayList<>();
        for (int hidden = 0; hidden < 1 << text.looks.size(); hidden++) {
            int h = hidden;
            if (table.stream().allMatch(group -> group.times[group.outcomeOf(h)] > 0)) {
                all.add(hidden);
            }
        }
        return all;
    }

    private boolean extendsNow(int set, int outcome) {
        for (int hidden = 0; hidden < 1 << text.looks.size(); hidden++) {
            boolean fits = table.get(set).outcomeOf(hidden) == outcome;
            for (int other = 0; other < table.size(); other++) {
                if (other != set) {
                    fits &= table.get(other).times[table.get(other).outcomeOf(hidden)] > 0;
                }
            }
            if (fits) {
                return true;
            }
        }
        return false;
    }

    private int sameNow(int set) {
        int[] times = table.get(set).times;
        return times[0] - times[1] - times[2] + times[3];
    }

    private List<Integer> cyclesNow() {
        List<Integer> all = new ArrayList<>();
        for (int bits = 0; bits < 1 << table.size(); bits++) {
            if (isCycle(bits)) {
                all.add(bits);
            }
        }
        return all;
    }

    private boolean isCycle(int bits) {
        int[] often = new int[6];
        int[] part = {0, 1, 2, 3, 4, 5};
        for (int set = 0; set < table.size(); set++) {
            if ((bits >> set & 1) == 1) {
                int[] looks = table.get(set).looks;
                if (looks.length != 2) {
                    return false;
                }
                often[looks[0]]++;
                often[looks[1]]++;
                int from = part[looks[0]];
                for (int i = 0; i < 6; i++) {
                    part[i] = part[i] == from ? part[looks[1]] : part[i];
                }
            }
        }
        Set<Integer> parts = new HashSet<>();
        for (int look = 0; look < 6; look++) {
            if (often[look] > 0) {
                parts.add(part[look]);
                if (often[look] != 2) {
                    return false;
                }
            }
        }
        return Integer.bitCount(bits) >= 3 && parts.size() == 1;
    }

    private int excessNow(int cycle) {
        int best = Integer.MIN_VALUE;
        for (int turned = 0; turned <= cycle; turned++) {
            if ((turned & ~cycle) == 0 && Integer.bitCount(turned) % 2 == 1) {
                int sum = 0;
                for (int set = 0; set < table.size(); set++) {
                    if ((cycle >> set & 1) == 1) {
                        sum += (turned >> set & 1) == 1 ? -sameNow(set) : sameNow(set);
                    }
                }
                best = Math.max(best, sum);
            }
        }
        return best - text.law * (Integer.bitCount(cycle) - 2);
    }

    private int winsNow() {
        int sum = 0;
        for (Group group : table) {
            for (int o = 0; o < group.times.length; o++) {
                sum += group.coins[o] * group.times[o];
            }
        }
        return sum;
    }

    private int[] worstNow() {
        int[] worst = {Integer.MAX_VALUE, -1};
        for (int hidden = 0; hidden < 1 << text.looks.size(); hidden++) {
            int sum = 0;
            for (Group group : table) {
                sum += group.coins[group.outcomeOf(hidden)];
            }
            if (sum < worst[0]) {
                worst = new int[] {sum, hidden};
            }
        }
        return worst;
    }

    private List<Integer> waysOf(int bits) {
        List<Integer> all = new ArrayList<>();
        for (int values = 0; values < 1 << text.points.size(); values++) {
            boolean so = true;
            for (int line = 0; line < text.lines.size(); line++) {
                if ((bits >> line & 1) == 1) {
                    int[] told = text.lines.get(line);
                    so &= ((values >> told[0]) + (values >> told[1]) + (values >> told[2]) + told[3]) % 2 == 0;
                }
            }
            if (so) {
                all.add(values);
            }
        }
        return all;
    }

    private boolean squareNow(int ray, int other) {
        int sum = 0;
        for (int i = 0; i < 4; i++) {
            sum += text.rays.get(ray)[i] * text.rays.get(other)[i];
        }
        return sum == 0;
    }

    private List<Integer> cornersNow() {
        List<Integer> all = new ArrayList<>();
        for (int bits = 0; bits < 1 << text.rays.size(); bits++) {
            if (Integer.bitCount(bits) == 4) {
                boolean corner = true;
                for (int a = 0; a < text.rays.size(); a++) {
                    for (int b = 0; b < a; b++) {
                        corner &= (bits >> a & bits >> b & 1) == 0 || squareNow(a, b);
                    }
                }
                if (corner) {
                    all.add(bits);
                }
            }
        }
        return all;
    }

    /** How many COLOURS rays have, and the most rays that are 1 in one, every choice tried. */
    private int[] coloursOf(int present) {
        Object known = text.colours.get(present);
        if (known != null) {
            return (int[]) known;
        }
        int[] meets = new int[text.rays.size()];
        for (int a = 0; a < meets.length; a++) {
            for (int b = 0; b < meets.length; b++) {
                meets[a] |= a != b && squareNow(a, b) ? 1 << b : 0;
            }
        }
        List<Integer> corners = cornersNow();
        int[] found = {0, 0};
        for (int bits = present; bits >= 0; bits = bits == 0 ? -1 : bits - 1 & present) {
            boolean good = true;
            for (int a = 0; good && a < meets.length; a++) {
                good = (bits >> a & 1) == 0 || (bits & meets[a]) == 0;
            }
            for (int i = 0; good && i < corners.size(); i++) {
                int corner = corners.get(i);
                good = (corner & ~present) != 0 || Integer.bitCount(corner & bits) == 1;
            }
            if (good) {
                found[0]++;
                found[1] = Math.max(found[1], Integer.bitCount(bits));
            }
        }
        text.colours.put(present, found);
        return found;
    }

    private ModelMachine machineNow() {
        if (!text.machineSought) {
            text.machineSought = true;
            text.machine = ModelMachine.of(text.runs);
        }
        return text.machine;
    }

    private boolean isMixed() {
        return shareNow().equals(Frac.ONE);
    }

    private Frac shareNow() {
        return (Frac) kept.computeIfAbsent("share", key -> {
            if (table.isEmpty()) {
                return Frac.ONE;
            }
            Frac[] gain = new Frac[1 << text.looks.size()];
            Arrays.fill(gain, Frac.ONE);
            return ModelSimplex.most(matrix(), bounds(), gain).over(text.law);
        });
    }

    /** The sum counts so much that no other gain makes up for any of it, so it is the greatest. */
    private Frac togetherNow(int i, int u, int j, int v, boolean most) {
        if (table.isEmpty()) {
            return most ? Frac.ONE : Frac.ZERO;
        }
        String key = i + " " + u + " " + j + " " + v + " " + most;
        return (Frac) kept.computeIfAbsent(key, k -> {
            BigInteger much = BigInteger.TEN.pow(15);
            Frac[] gain = new Frac[1 << text.looks.size()];
            for (int hidden = 0; hidden < gain.length; hidden++) {
                boolean both = (hidden >> i & 1) == u && (hidden >> j & 1) == v;
                gain[hidden] = new Frac(much.add(BigInteger.valueOf(!both ? 0 : most ? 1 : -1)), BigInteger.ONE);
            }
            Frac top = ModelSimplex.most(matrix(), bounds(), gain);
            Frac rest = top.minus(new Frac(much.multiply(BigInteger.valueOf(text.law)), BigInteger.ONE));
            return (most ? rest : Frac.ZERO.minus(rest)).over(text.law);
        });
    }

    private Frac[][] matrix() {
        List<Frac[]> rows = new ArrayList<>();
        for (Group group : table) {
            for (int o = 0; o < group.times.length; o++) {
                Frac[] row = new Frac[1 << text.looks.size()];
                for (int hidden = 0; hidden < row.length; hidden++) {
                    row[hidden] = group.outcomeOf(hidden) == o ? Frac.ONE : Frac.ZERO;
                }
                rows.add(row);
            }
        }
        return rows.toArray(new Frac[0][]);
    }

    private Frac[] bounds() {
        List<Frac> all = new ArrayList<>();
        for (Group group : table) {
            for (int times : group.times) {
                all.add(Frac.of(times, 1));
            }
        }
        return all.toArray(new Frac[0]);
    }
}
