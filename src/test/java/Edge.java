import java.util.NoSuchElementException;
import java.util.function.BiConsumer;
import java.util.function.Consumer;
import java.util.function.Supplier;

/** What is taken at an edge of the document, and what is refused beyond it; a refused call changes nothing. */
final class Edge {
    static final Class<IndexOutOfBoundsException> INDEX = IndexOutOfBoundsException.class;
    static final Class<IllegalArgumentException> ARGUMENT = IllegalArgumentException.class;
    static final Class<UnsupportedOperationException> UNSUPPORTED = UnsupportedOperationException.class;
    static final Class<IllegalStateException> STATE = IllegalStateException.class;
    static final Class<NoSuchElementException> ELEMENT = NoSuchElementException.class;
    static final Class<ArithmeticException> ARITHMETIC = ArithmeticException.class;

    /** More often than there can be things of any kind: a refused call must not fill anything. */
    private static final int OFTEN = 20;

    private Edge() {
    }

    /** Each number of the range is taken; the first ones beyond it are refused, and the farthest ones. */
    static void range(String what, Class<? extends RuntimeException> due, int least, int most,
            Supplier<Stormcellar> make, BiConsumer<Stormcellar, Integer> call) {
        for (int number = least; number <= most; number++) {
            takes(what + " " + number, make, call, number);
        }
        for (int number : new int[] {least - 1, most + 1, Integer.MIN_VALUE, Integer.MAX_VALUE}) {
            refuses(what + " " + number, due, make, x -> call.accept(x, number));
        }
    }

    static void refuses(String call, Class<? extends RuntimeException> due, Supplier<Stormcellar> make,
            Consumer<Stormcellar> run) {
        Stormcellar x = make.get();
        for (int times = 0; times < OFTEN; times++) {
            Check.refuses(call, due, () -> run.accept(x));
        }
        Twins.areTheSame(call, make, run);
    }

    private static void takes(String call, Supplier<Stormcellar> make, BiConsumer<Stormcellar, Integer> run,
            int number) {
        Stormcellar x = make.get();
        try {
            run.accept(x, number);
        } catch (RuntimeException thrown) {
            Check.isText(call, thrown.getClass().getName(), "taken");
        }
    }
}
