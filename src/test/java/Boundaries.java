import java.io.IOException;
import java.util.List;
import java.util.function.IntFunction;
import java.util.function.Supplier;
import java.util.function.ToIntFunction;

/** Asks for the sentences of the document that name a boundary case; each one is looked up in the document itself. */
final class Boundaries {
    static final Class<IllegalArgumentException> ARGUMENT = IllegalArgumentException.class;
    static final Class<IllegalStateException> STATE = IllegalStateException.class;
    static final Class<IndexOutOfBoundsException> INDEX = IndexOutOfBoundsException.class;

    private static final int MINUTES_BEHIND_A_REFUSAL = 20;

    /** A call that is to be refused. */
    interface Call {
        void on(SmallerTalk talk);
    }

    /** A call that is to be refused for its number. */
    interface NumberCall {
        void on(SmallerTalk talk, int number);
    }

    /** A state that a call is refused in. */
    record State(String name, Supplier<SmallerTalk> maker) {
    }

    static final List<State> STATES = List.of(
            new State("a new object", States::empty),
            new State("a busy one", States::busy),
            new State("a crowded one", States::crowded));

    private final Checks checks = new Checks();
    private final DocumentText document;
    private String at = "";

    Boundaries() throws IOException {
        document = new DocumentText();
        checks.due("sections of the document", document.sections(), 39);
    }

    void sentence(String section, String words, Runnable test) {
        at = section + ", \"" + words + "\": ";
        checks.due(at + "stands in the document", document.takeOut(section, words), true);
        int before = checks.made();
        try {
            test.run();
        } catch (RuntimeException e) {
            checks.due(at + "a call that was not to throw", e.toString(), "nothing thrown");
        }
        checks.due(at + "is asked for", checks.made() > before, true);
    }

    void end() {
        for (String line : document.untested()) {
            checks.due("a boundary case without a test: " + line, false, true);
        }
        checks.end();
    }

    void due(String call, long got, long want) {
        checks.due(at + call, got, want);
    }

    void due(String call, double got, double want) {
        checks.due(at + call, got, want);
    }

    void due(String call, boolean got, boolean want) {
        checks.due(at + call, got, want);
    }

    void due(String call, String got, String want) {
        checks.due(at + call, got, want);
    }

    void belt(String when, SmallerTalk talk, String want) {
        checks.due(at + when, Checks.beltOf(talk), want);
    }

    /** The call throws just this exception, and neither now nor in later minutes can anything be told of it. */
    void refused(String what, Class<?> want, Supplier<SmallerTalk> maker, Call call) {
        SmallerTalk asked = maker.get();
        SmallerTalk spared = maker.get();
        checks.due(at + what, thrownBy(asked, call), want.getName());
        checks.due(at + what + " changes nothing", Checks.allOf(asked), Checks.allOf(spared));
        for (int minute = 1; minute <= MINUTES_BEHIND_A_REFUSAL; minute++) {
            String when = at + what + " changes nothing " + minute + " minutes later";
            checks.due(when, asked.pass(1), spared.pass(1));
            checks.due(when, asked.digest(), spared.digest());
        }
    }

    void refusedInEachState(String what, Class<?> want, Call call) {
        for (State state : STATES) {
            refused(what + " of " + state.name(), want, state.maker(), call);
        }
    }

    void refusedOutside(int least, int most, Class<?> want, IntFunction<String> what, NumberCall call) {
        refusedOutside(least, talk -> most, want, what, call);
    }

    void refusedAtNoPlace(IntFunction<String> what, NumberCall call) {
        refusedOutside(0, talk -> talk.topics() - 1, INDEX, what, call);
    }

    void refusedOfNoTalker(IntFunction<String> what, NumberCall call) {
        refusedOutside(0, talk -> talk.talkers() - 1, INDEX, what, call);
    }

    private void refusedOutside(
            int least, ToIntFunction<SmallerTalk> most, Class<?> want, IntFunction<String> what, NumberCall call) {
        for (State state : STATES) {
            for (int number : outside(least, most.applyAsInt(state.maker().get()))) {
                String whatHere = what.apply(number) + " of " + state.name();
                refused(whatHere, want, state.maker(), talk -> call.on(talk, number));
            }
        }
    }

    // Also numbers that would be in the bounds if only their last bits counted.
    private static int[] outside(int least, int most) {
        return new int[] {
            Integer.MIN_VALUE, Integer.MIN_VALUE + least, -most - 1, least - 1, most + 1, least + 256, least + 65536,
            Integer.MAX_VALUE
        };
    }

    private static String thrownBy(SmallerTalk talk, Call call) {
        try {
            call.on(talk);
        } catch (RuntimeException e) {
            return e.getClass().getName();
        }
        return "nothing thrown";
    }
}
