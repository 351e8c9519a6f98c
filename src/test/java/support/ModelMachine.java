import java.util.Arrays;
import java.util.List;

/** The machine by which runs are told, every state tried in turn. */
final class ModelMachine {
    final int states;
    final int[][] tells = new int[3][6];
    final int[][] goes = new int[3][6];
    private final List<int[]> runs;

    private ModelMachine(List<int[]> runs, int states) {
        this.runs = runs;
        this.states = states;
        for (int state = 0; state < 3; state++) {
            Arrays.fill(tells[state], -2);
            Arrays.fill(goes[state], -2);
        }
    }

    /** Runs: look, answer, look, answer ..; null if three states don't do. */
    static ModelMachine of(List<int[]> runs) {
        for (int states = 1; states <= 3; states++) {
            ModelMachine machine = new ModelMachine(runs, states);
            if (machine.tell(0, 0, 0)) {
                return machine;
            }
        }
        return null;
    }

    private boolean tell(int run, int at, int state) {
        if (run == runs.size()) {
            return true;
        }
        if (at == runs.get(run).length) {
            return tell(run + 1, 0, 0);
        }
        int look = runs.get(run)[at];
        int answer = runs.get(run)[at + 1];
        if (tells[state][look] != -2) {
            return tells[state][look] == answer && tell(run, at + 2, goes[state][look]);
        }
        tells[state][look] = answer;
        for (int to = 0; to < states; to++) {
            goes[state][look] = to;
            if (tell(run, at + 2, to)) {
                return true;
            }
        }
        tells[state][look] = -2;
        goes[state][look] = -2;
        return false;
    }
}
