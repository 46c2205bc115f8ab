import java.util.ArrayList;
import java.util.List;
import java.util.function.ToIntFunction;

/**
 * Two objects with the same story behind them. A call is made on one of them alone; if it changed nothing, all later
 * calls answer alike on both.
 */
final class Twins {
    /** Houses 0 (of person 0) and 1 (of person 2); person 1 is a stranger. */
    static final String TEXT = "house h 30 10 80;house k 9 7 60;person x of h;person y;person z of k;"
        + "tie x y 13;tie y x 8;tie z y 15;work z 4;chairs 1;after 3;stroll 30;last;";
    private static final int PEOPLE = 3;
    private static final int HOUSES = 2;

    private final Due due;

    Twins(Due due) {
        this.due = due;
    }

    /** In the midst of a story, with a slot, a feast, a fault and a row on the tape. */
    static OwnedByGuests story() {
        OwnedByGuests x = Due.of(TEXT);
        x.chance(77);
        Due.plan(x, 1, "0101");
        x.lets(0, 29);
        x.pass(5);
        x.keep(0);
        x.lets(2, 3);
        Due.plan(x, 2, "1o00");
        x.pass(2);
        Due.feast(x, "120");
        Due.village(x, "chairs 9;");
        Due.put(x, "1o01");
        return x;
    }

    /** The call is refused by this answer and changes nothing. */
    void refused(String call, ToIntFunction<OwnedByGuests> made, int want) {
        OwnedByGuests x = story();
        due.due(call, made.applyAsInt(x), want);
        alike(call, x, story());
    }

    /** The call reads the tape, is refused, and changes nothing but that the tape is empty. */
    void refusedAndEmptied(String call, ToIntFunction<OwnedByGuests> made, int want) {
        OwnedByGuests x = story();
        due.due(call, made.applyAsInt(x), want);
        OwnedByGuests other = story();
        other.end(0);
        alike(call, x, other);
    }

    /** The call, whatever it answers, changes nothing. */
    void asks(String call, ToIntFunction<OwnedByGuests> made) {
        OwnedByGuests x = story();
        int answer = made.applyAsInt(x);
        due.due(call + " is not refused", answer == OwnedByGuests.RANGE || answer == -1000000 ? 1 : 0, 0);
        alike(call, x, story());
    }

    private void alike(String call, OwnedByGuests x, OwnedByGuests other) {
        Shown got = new Shown();
        got.all(x);
        Shown want = new Shown();
        want.all(other);
        for (int i = 0; i < want.answers.size(); i++) {
            due.due(want.calls.get(i) + " behind " + call, got.answers.get(i), want.answers.get(i));
        }
    }

    /** What calls show of an object. */
    private static final class Shown {
        final List<String> calls = new ArrayList<>();
        final List<Integer> answers = new ArrayList<>();

        void all(OwnedByGuests x) {
            village(x);
            quarters(x, "");
            show("plan(0) of the tape", x.plan(0));
            show("pass(3)", x.pass(3));
            quarters(x, ", three quarters later");
            for (int slot = 0; slot < 3; slot++) {
                show("take(" + slot + ")", x.take(slot));
            }
            quarters(x, ", taken");
            show("pass(4)", x.pass(4));
            quarters(x, ", taken and gone on");
        }

        private void show(String call, int answer) {
            calls.add(call);
            answers.add(answer);
        }

        private void village(OwnedByGuests x) {
            for (int what = 0; what < 9; what++) {
                show("told(" + what + ")", x.told(what));
            }
            for (int h = 0; h <= HOUSES; h++) {
                for (int row = 10; row <= 40; row += 10) {
                    show("told(" + (row + h) + ")", x.told(row + h));
                }
            }
            for (int p = 0; p <= PEOPLE; p++) {
                show("told(" + (50 + p) + ")", x.told(50 + p));
                show("told(" + (60 + p) + ")", x.told(60 + p));
                show("turned(" + p + ", 1)", x.turned(p, 1));
                for (int q = 0; q < PEOPLE; q++) {
                    show("tie(" + p + ", " + q + ")", x.tie(p, q));
                }
            }
            show("fault(0)", x.fault(0));
            show("fault(1)", x.fault(1));
            for (int what = 0; what < 3; what++) {
                show("count(" + what + ")", x.count(what));
            }
        }

        private void quarters(OwnedByGuests x, String when) {
            for (int p = 0; p < PEOPLE; p++) {
                for (int i = 0; i < 4; i++) {
                    show("planned(" + p + ", " + i + ")" + when, x.planned(p, i));
                    show("who(" + p + ", " + i + ")" + when, x.who(p, i));
                }
                int lets = x.lets(p, 0);
                show("lets(" + p + ")" + when, lets);
                x.lets(p, lets);
            }
            for (int h = 0; h < HOUSES; h++) {
                for (int what = 0; what < 4; what++) {
                    show("house(" + h + ", " + what + ")" + when, x.house(h, what));
                }
                show("word(" + h + ")" + when, x.word(h));
            }
        }
    }
}
