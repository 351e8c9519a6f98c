import java.util.ArrayList;
import java.util.List;
import java.util.Random;

/** Texts of books by chance, right ones and ones that were spoilt. */
final class Texts {
    private static final String[] WORDS = {"a", "b", "c", "of", "is", "tells", "even", "odd", "abcdefgh", "laws", "s",
        "p", "q", "r", "u", "zz"};
    private static final String[] TOKENS = {"law", "look", "point", "set", "line", "ray", "run", "of", "tells", "is",
        "even", "odd", ";", ",", "-", "0", "1", "2", "4", "60", "61", "100", "1000", "a", "b", "p", "abcdefghi", "A", "\t"};

    /** 18 rays without a colour: each is in two of nine corners. */
    private static final int[][] COLOURLESS = {{0, 0, 0, 1}, {0, 0, 1, 0}, {1, 1, 0, 0}, {1, -1, 0, 0}, {0, 1, 0, 0},
        {1, 0, 1, 0}, {1, 0, -1, 0}, {1, -1, 1, -1}, {1, -1, -1, 1}, {0, 0, 1, 1}, {1, 1, 1, 1}, {0, 1, 0, -1},
        {1, 0, 0, 1}, {1, 0, 0, -1}, {0, 1, -1, 0}, {1, 1, -1, 1}, {1, 1, 1, -1}, {-1, 1, 1, 1}};

    private final Random chance;
    private final List<String> looks = new ArrayList<>();
    private final List<String> points = new ArrayList<>();

    Texts(Random chance) {
        this.chance = chance;
    }

    /** A book, if nothing is spoilt; of at most 900 bytes. */
    String book(boolean manyRays) {
        while (true) {
            looks.clear();
            points.clear();
            List<String> lines = new ArrayList<>();
            int law = chance.nextInt(3) == 0 ? 1 + chance.nextInt(60) : 1 + chance.nextInt(8);
            names(1 + chance.nextInt(6), chance.nextInt(10));
            lines.add("law of " + law);
            lines.add("look " + String.join(",", looks));
            if (!points.isEmpty()) {
                lines.add("point " + String.join(",", points));
            }
            List<String> rest = new ArrayList<>();
            addSets(rest, law);
            addLines(rest);
            addRays(rest, manyRays);
            addRuns(rest);
            java.util.Collections.shuffle(rest, chance);
            lines.addAll(rest);
            String text = String.join(chance.nextBoolean() ? ";" : " ; ", lines);
            if (text.length() <= 900) {
                return text;
            }
        }
    }

    /** A text in which some lines were left out, told again or put elsewhere. */
    String mixedUp(String text) {
        List<String> lines = new ArrayList<>(List.of(text.split(";")));
        switch (chance.nextInt(4)) {
            case 0:
                lines.remove(chance.nextInt(lines.size()));
                break;
            case 1:
                String line = lines.get(chance.nextInt(lines.size()));
                for (int i = chance.nextInt(18); i >= 0; i--) {
                    lines.add(lines.size() - chance.nextInt(lines.size()), line);
                }
                break;
            case 2:
                lines.add(chance.nextInt(lines.size() + 1), (chance.nextBoolean() ? "look " : "point ") + fresh());
                break;
            default:
                java.util.Collections.shuffle(lines, chance);
                break;
        }
        String all = String.join(";", lines);
        return all.length() > 900 ? all.substring(0, 900) : all;
    }

    private String fresh() {
        List<String> names = new ArrayList<>();
        for (int i = chance.nextInt(9); i >= 0; i--) {
            names.add("x" + (char) ('a' + i));
        }
        return String.join(",", names);
    }

    /** A text in which some tokens or bytes were put in, left out or changed. */
    String spoilt(String text) {
        StringBuilder all = new StringBuilder(text);
        int often = 1 + chance.nextInt(3);
        for (int i = 0; i < often; i++) {
            int at = chance.nextInt(all.length() + 1);
            int end = Math.min(all.length(), at + chance.nextInt(4));
            switch (chance.nextInt(5)) {
                case 0:
                    all.delete(at, end);
                    break;
                case 1:
                    all.insert(at, TOKENS[chance.nextInt(TOKENS.length)]);
                    break;
                case 2:
                    all.insert(at, " " + TOKENS[chance.nextInt(TOKENS.length)] + " ");
                    break;
                case 3:
                    all.replace(at, end, TOKENS[chance.nextInt(TOKENS.length)]);
                    break;
                default:
                    spoilToken(all);
                    break;
            }
        }
        return all.length() > 900 ? all.substring(0, 900) : all.toString();
    }

    private void spoilToken(StringBuilder all) {
        List<int[]> found = new ArrayList<>();
        java.util.regex.Matcher matcher = java.util.regex.Pattern.compile("[a-z]+|[0-9]+|[;,-]").matcher(all);
        while (matcher.find()) {
            found.add(new int[] {matcher.start(), matcher.end()});
        }
        if (!found.isEmpty()) {
            int[] token = found.get(chance.nextInt(found.size()));
            int[] other = found.get(chance.nextInt(found.size()));
            String put = chance.nextInt(3) == 0 ? TOKENS[chance.nextInt(TOKENS.length)] : all.substring(other[0], other[1]);
            all.replace(token[0], token[1], put);
        }
    }

    private void names(int manyLooks, int manyPoints) {
        List<String> all = new ArrayList<>(List.of(WORDS));
        java.util.Collections.shuffle(all, chance);
        looks.addAll(all.subList(0, manyLooks));
        points.addAll(all.subList(manyLooks, manyLooks + manyPoints));
    }

    private String anyOf(List<String> names) {
        return names.get(chance.nextInt(names.size()));
    }

    private List<String> unlike(List<String> names, int many) {
        List<String> all = new ArrayList<>(names);
        java.util.Collections.shuffle(all, chance);
        return all.subList(0, many);
    }

    private void addSets(List<String> rest, int law) {
        int many = chance.nextInt(9);
        int kind = chance.nextInt(3);
        int[] weights = new int[64];
        for (int i = 0; i < law; i++) {
            weights[chance.nextInt(64)]++;
        }
        for (int i = 0; i < many; i++) {
            int size = looks.size() == 1 || chance.nextInt(6) == 0 ? 1 : 2;
            List<String> of = unlike(looks, size);
            int[] times = new int[1 << size];
            for (int hidden = 0; hidden < 64; hidden++) {
                int outcome = 0;
                for (String look : of) {
                    outcome = 2 * outcome + (hidden >> looks.indexOf(look) & 1);
                }
                times[outcome] += weights[hidden];
            }
            // the first kind stays one that can be hidden, the second is that but for a few, the third is any
            for (int k = 0; kind > 0 && k < (kind == 1 ? 2 : 60); k++) {
                int from = chance.nextInt(times.length);
                int to = chance.nextInt(times.length);
                if (times[from] > 0 && (kind == 2 || chance.nextInt(4) == 0)) {
                    int n = 1 + chance.nextInt(times[from]);
                    times[from] -= n;
                    times[to] += n;
                }
            }
            List<String> told = new ArrayList<>();
            for (int x : times) {
                told.add(chance.nextInt(9) == 0 ? String.format("%03d", x) : "" + x);
            }
            rest.add("set " + String.join(",", of) + " tells " + String.join(",", told));
        }
    }

    private void addLines(List<String> rest) {
        int many = points.size() < 3 ? 0 : chance.nextInt(9);
        for (int i = 0; i < many; i++) {
            rest.add("line " + String.join(", ", unlike(points, 3)) + (chance.nextBoolean() ? " is even" : " is odd"));
        }
    }

    private void addRays(List<String> rest, boolean manyRays) {
        int many = manyRays ? 9 + chance.nextInt(10) : chance.nextInt(9);
        int most = 1 + chance.nextInt(3);
        if (manyRays && chance.nextBoolean()) {
            addColourless(rest);
            return;
        }
        for (int i = 0; i < many; i++) {
            int[] parts = new int[4];
            while (parts[0] == 0 && parts[1] == 0 && parts[2] == 0 && parts[3] == 0) {
                for (int k = 0; k < 4; k++) {
                    parts[k] = chance.nextInt(3) == 0 ? 0 : chance.nextInt(2 * most + 1) - most;
                    parts[k] = chance.nextInt(3) == 0 ? 0 : parts[k];
                }
            }
            StringBuilder ray = new StringBuilder("ray ");
            for (int k = 0; k < 4; k++) {
                ray.append(k > 0 ? "," : "").append(parts[k] == 0 && chance.nextInt(9) == 0 ? "-0" : "" + parts[k]);
            }
            rest.add(ray.toString());
        }
    }

    /** The rays without a colour, each stretched, with coordinates put elsewhere; at times one is spoilt. */
    private void addColourless(List<String> rest) {
        List<Integer> order = new ArrayList<>(List.of(0, 1, 2, 3));
        java.util.Collections.shuffle(order, chance);
        int spoilt = chance.nextInt(36);
        int left = chance.nextInt(36);
        for (int i = 0; i < COLOURLESS.length; i++) {
            int by = (chance.nextBoolean() ? 1 : -1) * (1 + chance.nextInt(3));
            List<String> parts = new ArrayList<>();
            for (int k : order) {
                parts.add("" + by * COLOURLESS[i == spoilt ? chance.nextInt(18) : i][k]);
            }
            if (i != left && !parts.equals(List.of("0", "0", "0", "0"))) {
                rest.add("ray " + String.join(",", parts));
            }
        }
    }

    private void addRuns(List<String> rest) {
        int many = chance.nextInt(5);
        int kinds = 1 + chance.nextInt(looks.size());
        for (int i = 0; i < many; i++) {
            List<String> steps = new ArrayList<>();
            int length = 1 + chance.nextInt(6);
            for (int k = 0; k < length; k++) {
                steps.add(looks.get(chance.nextInt(kinds)) + " " + (chance.nextInt(4) == 0 ? 1 : 0));
            }
            rest.add("run " + String.join(",", steps));
        }
    }
}
