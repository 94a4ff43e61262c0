import java.util.ArrayList;
import java.util.List;

/**
 * A house as a row of calls, which is built anew for each check. Behind a refused call all that can be asked or
 * told is held against the same house without that call. No house is used for more than 512 calls.
 */
final class Story {
    /** One call; one without an answer answers 0. */
    interface Call {
        long of(Pledgehouse x);
    }

    /** A call in which one argument is tried out. */
    interface Numbered {
        long of(Pledgehouse x, int number);
    }

    static final long INDEX = Long.MIN_VALUE + 1;
    static final long ARGUMENT = Long.MIN_VALUE + 2;
    static final long STATE = Long.MIN_VALUE + 3;
    private static final long OTHER = Long.MIN_VALUE + 4;
    private static final int MOST_CALLS = 512;

    private final List<Call> row = new ArrayList<>();
    private int things = 0;
    private int tickets = 0;
    private List<List<Call>> probes = null;
    private List<long[]> untouched = null;

    /** What the call answers, or a mark, far from every answer, for what it throws. */
    static long answer(Pledgehouse x, Call call) {
        try {
            return call.of(x);
        } catch (RuntimeException e) {
            Checks.thrownByProgram("a call", e);
            if (e.getClass() == IndexOutOfBoundsException.class) {
                return INDEX;
            }
            if (e.getClass() == IllegalArgumentException.class) {
                return ARGUMENT;
            }
            return e.getClass() == IllegalStateException.class ? STATE : OTHER;
        }
    }

    static Call charter(int ofClass, int share, int cap) {
        return x -> {
            x.charter(ofClass, share, cap);
            return 0;
        };
    }

    static Call notice(int ticket, int person) {
        return x -> {
            x.notice(ticket, person);
            return 0;
        };
    }

    static Call stray(int thing, int branch, int shelf) {
        return x -> {
            x.stray(thing, branch, shelf);
            return 0;
        };
    }

    /** A call of this house that is answered. */
    Story tell(Call call) {
        row.add(call);
        probes = null;
        return this;
    }

    Story thing(int kind, int weight, int worth) {
        things++;
        return tell(x -> x.thing(kind, weight, worth));
    }

    Story pledge(int person, int thing, int expert, int branch, int loan, boolean isNamed) {
        tickets++;
        return tell(x -> x.pledge(person, thing, expert, branch, loan, isNamed));
    }

    Story pass(int days) {
        for (int left = days; left > 0; left -= 400) {
            int some = Math.min(left, 400);
            tell(x -> x.pass(some));
        }
        return this;
    }

    /** The same house, to which other calls can be added. */
    Story more() {
        Story longer = new Story();
        longer.row.addAll(row);
        longer.things = things;
        longer.tickets = tickets;
        return longer;
    }

    int things() {
        return things;
    }

    int tickets() {
        return tickets;
    }

    Pledgehouse house() {
        Pledgehouse x = new Pledgehouse();
        for (int i = 0; i < row.size(); i++) {
            long got = answer(x, row.get(i));
            if (got == INDEX || got == ARGUMENT || got == STATE || got == OTHER) {
                Checks.due("call " + i + " that makes the house is refused", got, 0);
            }
        }
        return x;
    }

    Story due(String what, long due, Call call) {
        Checks.due(what, answer(house(), call), due);
        return this;
    }

    /** The call is answered so, and then the other one. */
    Story due(String what, long due, Call call, long dueThen, Call then) {
        Pledgehouse x = house();
        Checks.due(what, answer(x, call), due);
        Checks.due(what + ", then", answer(x, then), dueThen);
        return this;
    }

    /** The call throws this, and nothing that is asked or told later differs by it. */
    Story refused(String what, long due, Call call) {
        prepare();
        for (int i = 0; i < probes.size(); i++) {
            Pledgehouse x = house();
            Checks.due(what, answer(x, call), due);
            long[] want = untouched.get(i);
            long[] got = answers(x, probes.get(i));
            for (int j = 0; j < want.length; j++) {
                Checks.due(what + " changes nothing: call " + j + " of probe " + i, got[j], want[j]);
            }
        }
        return this;
    }

    /** The argument may be from least to most, and is answered so there; beside them the call throws this. */
    Story range(String what, long refusal, int least, int most, Numbered call, long atLeast, long atMost) {
        due(what + " " + least, atLeast, x -> call.of(x, least));
        due(what + " " + most, atMost, x -> call.of(x, most));
        for (int beside : new int[] {least - 1, most + 1, Integer.MIN_VALUE, Integer.MAX_VALUE}) {
            refused(what + " " + beside, refusal, x -> call.of(x, beside));
        }
        return this;
    }

    private static long[] answers(Pledgehouse x, List<Call> calls) {
        long[] answers = new long[calls.size()];
        for (int i = 0; i < answers.length; i++) {
            answers[i] = answer(x, calls.get(i));
        }
        return answers;
    }

    private void prepare() {
        if (probes != null) {
            return;
        }
        // the refused call is one more
        probes = Probes.of(this, MOST_CALLS - row.size() - 1);
        untouched = new ArrayList<>();
        for (List<Call> probe : probes) {
            untouched.add(answers(house(), probe));
        }
    }
}
