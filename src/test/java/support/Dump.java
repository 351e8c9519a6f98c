/**
 * All that can be seen of an object, as a text; what lies behind acts, marks and the tape is seen by using
 * them up. The object is not what it was behind it. It counts its calls, as an object is good for 512 alone.
 */
final class Dump {
    private final NotAtOnce seen;
    private final StringBuilder all = new StringBuilder();
    private int calls;

    private Dump(NotAtOnce x) {
        seen = x;
    }

    static String of(NotAtOnce x, int callsBefore) {
        Dump dump = new Dump(x);
        dump.sizes();
        dump.table("now");
        dump.answers();
        dump.acts();
        dump.wayBack();
        dump.marks();
        dump.tape();
        Edge.is("calls of this object, 512 at most", callsBefore + dump.calls <= 512, true);
        return dump.all.toString();
    }

    private void put(String what, int answer) {
        calls++;
        all.append(what).append(' ').append(answer).append('\n');
    }

    private void put(String what, boolean answer) {
        put(what, answer ? 1 : 0);
    }

    private void sizes() {
        put("fault", seen.fault());
        for (int what = 0; what <= 10; what++) {
            put("size " + what, seen.size(what));
        }
    }

    private void table(String when) {
        int sets = seen.size(2);
        put(when + " sets", sets);
        for (int set = 0; set < sets; set++) {
            put(when + " first look of " + set, seen.look(set, false));
            int second = seen.look(set, true);
            put(when + " second look of " + set, second);
            for (int outcome = 0; outcome < (second < 0 ? 2 : 4); outcome++) {
                put(when + " times " + set + " " + outcome, seen.times(set, outcome));
                put(when + " coins " + set + " " + outcome, seen.coins(set, outcome));
            }
        }
    }

    private void answers() {
        put("share", seen.share(false));
        put("share", seen.share(true));
        put("together", seen.together(0, 1, 1, 1, true, false));
        put("together", seen.together(0, 1, 1, 1, true, true));
        put("level", seen.level());
        put("hidden", seen.hidden());
        put("answer", seen.answer(1));
        put("disturbed", seen.disturbed());
        put("widest", seen.widest());
        put("wins", seen.wins());
        put("worst at", seen.worstAt());
        put("ways", seen.ways());
        put("core", seen.core());
        put("game", seen.game());
        put("corners", seen.corners());
        put("colours", seen.colours());
        put("critical", seen.critical());
        put("memory", seen.memory());
        put("machine", seen.machine(0, 0, true));
        put("machine", seen.machine(1, 0, false));
    }

    private void acts() {
        int acts = seen.size(7);
        for (int i = 0; i < acts; i++) {
            for (int what = 0; what < 5; what++) {
                put("act " + i + " " + what, seen.act(i, what));
            }
        }
    }

    /** All that can be redone, then all that can be undone. */
    private void wayBack() {
        int ahead = seen.size(8);
        for (int i = 0; i < ahead; i++) {
            put("redo", seen.redo());
            table("redone " + i);
        }
        int behind = seen.size(7);
        for (int i = 0; i < behind; i++) {
            put("undo", seen.undo());
            put("undone, first", seen.times(0, 0));
            put("undone, last", seen.times(seen.size(2) - 1, 1));
            calls++;
        }
        put("undo", seen.undo());
    }

    private void marks() {
        int marks = seen.size(9);
        for (int mark = 0; mark < marks; mark++) {
            put("back", seen.back(mark));
            table("mark " + mark);
        }
        put("back", seen.back(marks));
    }

    private void tape() {
        put("book", seen.book(seen.size(10)));
        put("fault", seen.fault());
        put("where", seen.where());
        put("looks", seen.size(0));
        put("law", seen.size(6));
    }
}
