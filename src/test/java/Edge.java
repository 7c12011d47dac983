import java.util.List;
import java.util.function.Consumer;
import java.util.function.Supplier;

/** Checks of boundary cases, each on a fresh object, since nothing is promised of one after 512 calls. */
final class Edge {
    static final Class<IndexOutOfBoundsException> INDEX = IndexOutOfBoundsException.class;
    static final Class<IllegalArgumentException> ARGUMENT = IllegalArgumentException.class;
    static final Class<IllegalStateException> STATE = IllegalStateException.class;
    static final Class<UnsupportedOperationException> UNSUPPORTED = UnsupportedOperationException.class;
    static final Class<java.util.NoSuchElementException> NO_SUCH = java.util.NoSuchElementException.class;
    static final Class<ArithmeticException> ARITHMETIC = ArithmeticException.class;

    interface Call {
        Object on(ControlWood wood);
    }

    interface Numbered {
        Object on(ControlWood wood, int number);
    }

    private final Check check;
    private final Supplier<ControlWood> made;
    private List<String> known;

    Edge(Check check, Supplier<ControlWood> made) {
        this.check = check;
        this.made = made;
    }

    /** The same objects with more calls behind those that made them. */
    Edge with(Consumer<ControlWood> more) {
        return new Edge(check, () -> {
            ControlWood wood = made.get();
            more.accept(wood);
            return wood;
        });
    }

    Edge due(String sentence, Object want, Call call) {
        ControlWood wood = made.get();
        check.due(sentence, want, () -> call.on(wood));
        return this;
    }

    /** Throws just this exception, and whatever is asked afterwards is answered as if it had not been called. */
    Edge refused(String sentence, Class<? extends RuntimeException> want, Call call) {
        ControlWood wood = made.get();
        check.fails(want, sentence, () -> call.on(wood));
        if (known == null) {
            known = Probe.of(made);
        }
        List<String> now = Probe.of(() -> {
            ControlWood refusing = made.get();
            Check.told(() -> call.on(refusing));
            return refusing;
        });
        check.holds(sentence + " changes nothing", now.equals(known));
        return this;
    }

    /** The numbers just below and just above a range are refused, and those that lie furthest from it. */
    Edge refusedOutside(String what, Class<? extends RuntimeException> want, int least, int most, Numbered call) {
        for (int number : new int[] {least - 1, most + 1, Integer.MIN_VALUE, Integer.MAX_VALUE}) {
            refused(what + " " + number, want, w -> call.on(w, number));
        }
        return this;
    }
}
