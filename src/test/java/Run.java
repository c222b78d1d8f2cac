import java.util.ArrayList;
import java.util.List;

/** One new object and the calls that it takes, each held against the answer that is due. */
final class Run {
    private final Check check;
    private final List<String> taken = new ArrayList<>();
    private final Spliceroom room = new Spliceroom();
    private final Caller caller = new Caller(room);
    private int askedBehind = -1;
    private String before = "";

    Run(Check check) {
        this.check = check;
    }

    Spliceroom room() {
        return room;
    }

    /** Another object, behind the same calls. */
    Run copy() {
        Run copy = new Run(check);
        for (String call : taken) {
            copy.caller.answer(call);
            copy.taken.add(call);
        }
        return copy;
    }

    /** Calls with a ';' between, none of which may throw. */
    Run go(String calls) {
        for (String call : calls.split("; *")) {
            String answer = take(call);
            if (Caller.isThrown(answer)) {
                check.same(call, answer, "not thrown");
            }
        }
        return this;
    }

    Run go(int times, String calls) {
        for (int i = 0; i < times; i++) {
            go(calls);
        }
        return this;
    }

    private String take(String call) {
        taken.add(call);
        return caller.answer(call);
    }

    Run due(String call, Object want) {
        check.same(call, take(call), String.valueOf(want));
        return this;
    }

    /** The answers for 0, 1, 2 and so on in place of the '#'. */
    Run dues(String call, Object... wants) {
        for (int i = 0; i < wants.length; i++) {
            due(call.replace("#", "" + i), wants[i]);
        }
        return this;
    }

    /** The call throws this, and nothing that can be asked is other than before. */
    Run refused(String call, String thrown) {
        check.same(call, caller.answer(call), thrown);
        return unchangedBy(call);
    }

    /** The call throws, whatever it is, and nothing that can be asked is other than before. */
    Run refused(String call) {
        String answer = caller.answer(call);
        check.same(call, Caller.isThrown(answer) ? "thrown" : answer, "thrown");
        return unchangedBy(call);
    }

    private Run unchangedBy(String call) {
        List<String> with = new ArrayList<>(taken);
        with.add(call);
        if (askedBehind != taken.size()) {
            askedBehind = taken.size();
            before = State.behind(taken, with.size(), Spliceroom::new);
        }
        check.same("the state behind " + call, State.behind(with, with.size(), Spliceroom::new), before);
        return this;
    }

    /** Each of the numbers in place of the '#' is refused. */
    Run refusedFor(String call, String thrown, String... numbers) {
        for (String number : numbers) {
            refused(call.replace("#", number), thrown);
        }
        return this;
    }

    /** No number at all is taken in place of the '#'. */
    Run none(String call, String thrown) {
        return refusedFor(call, thrown, "0", "1", "-1", "MIN", "MAX");
    }

    /** A copy takes the call, which throws nothing. */
    Run taken(String call) {
        check.counted();
        copy().go(call);
        return this;
    }

    /** Each of the numbers in place of the '#' is taken, each by a copy. */
    Run takenFor(String call, String... numbers) {
        for (String number : numbers) {
            taken(call.replace("#", number));
        }
        return this;
    }

    /** The least and the greatest number in place of the '#' are taken, those just beyond and the farthest refused. */
    Run limits(String call, int least, int greatest, String thrown) {
        takenFor(call, "" + least, "" + greatest);
        return refusedFor(call, thrown, "" + (least - 1), "" + (greatest + 1), "MIN", "MAX");
    }
}
