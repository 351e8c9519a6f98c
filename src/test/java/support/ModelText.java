import java.util.ArrayList;
import java.util.HashMap;
import java.util.HashSet;
import java.util.List;
import java.util.Map;
import java.util.Set;
import java.util.regex.Matcher;
import java.util.regex.Pattern;

/**
 * Reads a text by a regular expression over signs that stand for tokens: the form is wrong at the
 * first token behind which no book can go on. Of all faults the leftmost, least one is taken.
 */
final class ModelText {
    private static final Pattern TOKEN = Pattern.compile("[a-z]+|[0-9]+|[;,-]");
    private static final String NAME = "[notied]";
    private static final String LINE = "(?:Wo0|[KP]N(?:,N)*|SNt0,0|SN,Nt0,0,0,0|LN,N,Ni[ed]|R-?0,-?0,-?0,-?0|UN0(?:,N0)*)";
    private static final Pattern BOOK = Pattern.compile((LINE + "(?:;" + LINE + ")*").replace("N", NAME));
    private static final Map<String, Character> SIGNS = new HashMap<>();

    static {
        String[] words = {"law", "look", "point", "set", "line", "ray", "run", "of", "tells", "is", "even", "odd"};
        for (int i = 0; i < words.length; i++) {
            SIGNS.put(words[i], "WKPSLRUotied".charAt(i));
        }
    }

    final List<String> looks = new ArrayList<>();
    final List<String> points = new ArrayList<>();
    final List<Model.Group> sets = new ArrayList<>();
    final List<int[]> lines = new ArrayList<>();
    final List<int[]> rays = new ArrayList<>();
    final List<int[]> runs = new ArrayList<>();
    final Map<Integer, Object> colours = new HashMap<>();
    boolean machineSought;
    ModelMachine machine;
    int law;
    int fault;
    int place;

    private final List<String> tokens = new ArrayList<>();
    private final List<Integer> places = new ArrayList<>();

    ModelText(String text) {
        int bad = split(text);
        StringBuilder signs = new StringBuilder();
        int good = 0;
        while (good < tokens.size()) {
            signs.append(signOf(tokens.get(good)));
            if (!goesOn(signs)) {
                break;
            }
            good++;
        }
        if (good < tokens.size()) {
            found(1, places.get(good));
        } else if (bad >= 0) {
            found(1, bad);
        } else if (!BOOK.matcher(signs).matches()) {
            found(1, text.length());
        }
        boolean whole = fault == 0;
        tokens.subList(good, tokens.size()).clear();
        readLines();
        if (whole && (law == 0 || looks.isEmpty())) {
            found(6, text.length());
        }
    }

    /** The place of the first byte that begins no token; -1 if there is none. */
    private int split(String text) {
        int at = 0;
        while (at < text.length()) {
            if (text.charAt(at) == ' ') {
                at++;
                continue;
            }
            Matcher matcher = TOKEN.matcher(text).region(at, text.length());
            if (!matcher.lookingAt()) {
                return at;
            }
            String token = matcher.group();
            boolean digits = Character.isDigit(token.charAt(0));
            if (token.length() > (digits ? 3 : 8)) {
                return at;
            }
            tokens.add(token);
            places.add(at);
            at = matcher.end();
        }
        return -1;
    }

    private static char signOf(String token) {
        char first = token.charAt(0);
        if (Character.isDigit(first)) {
            return '0';
        }
        return Character.isLetter(first) ? SIGNS.getOrDefault(token, 'n') : first;
    }

    private static boolean goesOn(CharSequence signs) {
        Matcher matcher = BOOK.matcher(signs);
        return matcher.matches() || matcher.hitEnd();
    }

    private void found(int number, int at) {
        if (fault == 0 || at < place || at == place && number < fault) {
            fault = number;
            place = at;
        }
    }

    private void readLines() {
        int from = 0;
        for (int i = 0; i <= tokens.size(); i++) {
            if (i == tokens.size() || tokens.get(i).equals(";")) {
                if (i > from) {
                    readLine(from, i);
                }
                from = i + 1;
            }
        }
    }

    private void readLine(int from, int to) {
        int at = places.get(from);
        switch (tokens.get(from)) {
            case "law":
                if (law != 0) {
                    found(3, at);
                }
                for (int i = from + 2; i < to; i++) {
                    law = whole(i, 1, 60);
                }
                break;
            case "look":
                tell(looks, 6, from, to);
                break;
            case "point":
                tell(points, 9, from, to);
                break;
            case "set":
                if (law == 0) {
                    found(6, at);
                }
                room(sets, 8, at);
                readSet(from, to);
                break;
            case "line":
                room(lines, 8, at);
                readParity(from, to);
                break;
            case "ray":
                room(rays, 18, at);
                readRay(from, to);
                break;
            default:
                room(runs, 4, at);
                readRun(from, to);
                break;
        }
    }

    private void room(List<?> list, int most, int at) {
        if (list.size() == most) {
            found(5, at);
        }
    }

    private int whole(int i, int least, int most) {
        int value = Integer.parseInt(tokens.get(i));
        if (value < least || value > most) {
            found(4, places.get(i));
        }
        return value;
    }

    private int name(List<String> among, int i) {
        int index = among.indexOf(tokens.get(i));
        if (index < 0) {
            found(2, places.get(i));
        }
        return index;
    }

    private void tell(List<String> list, int most, int from, int to) {
        for (int i = from + 1; i < to; i += 2) {
            String name = tokens.get(i);
            if (looks.contains(name) || points.contains(name)) {
                found(3, places.get(i));
            }
            room(list, most, places.get(i));
            list.add(name);
        }
    }

    private void readSet(int from, int to) {
        boolean two = from + 2 < to && tokens.get(from + 2).equals(",");
        List<Integer> of = new ArrayList<>();
        for (int i = from + 1; i < to && i <= from + (two ? 3 : 1); i += 2) {
            int look = name(looks, i);
            if (of.contains(look)) {
                found(3, places.get(i));
            }
            of.add(look);
        }
        int[] times = new int[two ? 4 : 2];
        int sum = 0;
        int outcome = 0;
        for (int i = from + (two ? 5 : 3); i < to; i += 2) {
            times[outcome] = whole(i, 0, 60);
            sum += times[outcome];
            outcome++;
            if (outcome == times.length && sum != law) {
                found(4, places.get(i));
            }
        }
        sets.add(new Model.Group(of.stream().mapToInt(x -> x).toArray(), times));
    }

    private void readParity(int from, int to) {
        Set<Integer> seen = new HashSet<>();
        int[] line = new int[4];
        for (int k = 0; k < 3 && from + 1 + 2 * k < to; k++) {
            line[k] = name(points, from + 1 + 2 * k);
            if (!seen.add(line[k])) {
                found(3, places.get(from + 1 + 2 * k));
            }
        }
        line[3] = tokens.get(to - 1).equals("odd") ? 1 : 0;
        lines.add(line);
    }

    private void readRay(int from, int to) {
        List<Integer> parts = new ArrayList<>();
        for (int i = from + 1; i < to; i++) {
            if (Character.isDigit(tokens.get(i).charAt(0))) {
                int value = whole(i, 0, 3);
                parts.add(tokens.get(i - 1).equals("-") ? -value : value);
                if (parts.size() == 4 && parts.stream().allMatch(x -> x == 0)) {
                    found(4, places.get(i));
                }
            }
        }
        rays.add(parts.stream().mapToInt(x -> x).toArray());
    }

    private void readRun(int from, int to) {
        List<Integer> steps = new ArrayList<>();
        for (int i = from + 1; i < to; i += 3) {
            int look = name(looks, i);
            if (steps.size() == 12) {
                found(5, places.get(i));
            }
            steps.add(look);
            if (i + 1 < to) {
                steps.add(whole(i + 1, 0, 1));
            }
        }
        runs.add(steps.stream().mapToInt(x -> x).toArray());
    }
}
