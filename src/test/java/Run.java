import java.util.ArrayList;
import java.util.LinkedHashMap;
import java.util.List;
import java.util.Map;

/** A run of calls on one new object, each with its due answer; refused calls are looked behind. */
final class Run {
    private static final int MOST_CALLS = 512;

    private final Checks checks;
    private final String what;
    private final List<Call> made = new ArrayList<>();
    private final FoldDye x = new FoldDye();

    Run(Checks checks, String what) {
        this.checks = checks;
        this.what = what;
    }

    Run does(String calls) {
        for (Call call : Call.allOf(calls)) {
            make(call);
        }
        return this;
    }

    /** Each call is refused as due, and nothing that can be asked is otherwise afterwards. */
    Run refuses(String calls) {
        for (Call call : Call.allOf(calls)) {
            refuse(call, Map.of());
        }
        return this;
    }

    /** A fold that tears: not done, but TORN of the cloth, and so of all, is one more. */
    Run tears(String fold, int cloth) {
        String torn = "about " + cloth + " 7";
        refuse(Call.of(fold + " = TEARS"), Map.of(torn, 1, "count 3", 1));
        return this;
    }

    /** A call that only asks: it answers as due and changes nothing. */
    Run asks(String calls) {
        for (Call call : Call.allOf(calls)) {
            look(call, Map.of());
        }
        return this;
    }

    /** The number at the low line is right from least to most: not refused there, refused just outside. */
    Run within(String pattern, int least, int most) {
        accepts(pattern, least);
        accepts(pattern, most);
        for (int wrong : new int[] {least - 1, most + 1, Integer.MIN_VALUE, Integer.MAX_VALUE}) {
            refuses(with(pattern, wrong) + " = NONE");
        }
        return this;
    }

    /** Looked at on another object with the same calls behind it, so that this one stays as it is. */
    Run accepts(String pattern, int number) {
        FoldDye other = again();
        Call call = Call.of(with(pattern, number));
        int answer = call.on(other);
        checks.that(what + ": " + call + " answered " + answer + ", which is NONE", answer != FoldDye.NONE);
        return this;
    }

    /** What would be answered, on another object with the same calls behind it. */
    Run would(String calls) {
        FoldDye other = again();
        int behind = made.size();
        for (Call call : Call.allOf(calls)) {
            int answer = call.on(other);
            behind++;
            checks.that(what + ": " + call + " would answer " + answer + ", due is " + call.due(),
                call.isAnsweredBy(answer) && behind <= MOST_CALLS);
        }
        return this;
    }

    int answerOf(String call) {
        return Call.of(call).on(again());
    }

    /** A stack has just these cells, the lowest first. */
    Run stackIs(int place, int... cells) {
        StringBuilder calls = new StringBuilder();
        for (int high = 0; high < cells.length; high++) {
            calls.append("stack 0 " + place + " " + high + " = " + cells[high] + ";");
            calls.append("place 0 " + cells[high] + " = " + place + ";");
            calls.append("high 0 " + cells[high] + " = " + high + ";");
        }
        return would(calls + "stack 0 " + place + " " + cells.length + " = NOT");
    }

    private static String with(String pattern, int number) {
        return pattern.replace("_", Integer.toString(number));
    }

    private FoldDye again() {
        FoldDye other = new FoldDye();
        for (Call call : made) {
            call.on(other);
        }
        return other;
    }

    private void refuse(Call call, Map<String, Integer> more) {
        checks.that(what + ": " + call + " is due to be refused", call.due() < 0);
        look(call, more);
    }

    private void look(Call call, Map<String, Integer> more) {
        Map<String, Integer> due = new LinkedHashMap<>(Look.after(made));
        more.forEach((text, by) -> due.merge(text, by, Integer::sum));
        make(call);
        Map<String, Integer> shown = Look.after(made);
        checks.that(what + ": as much to ask after " + call, shown.keySet().equals(due.keySet()));
        for (Map.Entry<String, Integer> one : shown.entrySet()) {
            int before = due.getOrDefault(one.getKey(), FoldDye.NONE);
            checks.equal(what + ": after " + call + ", " + one.getKey(), one.getValue(), before);
        }
    }

    private void make(Call call) {
        int answer = call.on(x);
        made.add(call);
        checks.that(what + ": " + call + " answered " + answer + ", due is " + call.due(),
            call.isAnsweredBy(answer) && made.size() <= MOST_CALLS);
    }
}
