import java.util.function.Consumer;
import java.util.function.Supplier;

/** An object that got a call that threw, and its twin that did not get it: both answer the same ever after. */
final class Twins {
    /** Each of these is looked at on a new pair, so that no object gets more than 512 calls. */
    private static final int[] HOURS_LATER = {0, 1, 5, 48};

    private Twins() {
    }

    static void areTheSame(String call, Supplier<Stormcellar> make, Consumer<Stormcellar> refused) {
        Check.isText(call + " changes nothing that was told",
                tellAllAnew(gotIt(make, refused)), tellAllAnew(make.get()));
        for (int hours : HOURS_LATER) {
            Check.isText(call + " changes nothing " + hours + " hours later",
                    goOn(gotIt(make, refused), hours), goOn(make.get(), hours));
        }
    }

    private static Stormcellar gotIt(Supplier<Stormcellar> make, Consumer<Stormcellar> refused) {
        Stormcellar x = make.get();
        try {
            refused.accept(x);
        } catch (RuntimeException thrown) {
            return x;
        }
        return x;
    }

    /** Each answer tells what stood there before: the grounds, the hours, the places of dikes and the numbers. */
    private static String tellAllAnew(Stormcellar x) {
        StringBuilder text = new StringBuilder();
        for (int cell = 0; cell < 64; cell++) {
            int here = cell;
            note(text, () -> x.setGround(here, 1, false));
            note(text, () -> x.addDike(here, false, 1, 2));
            note(text, () -> x.addDike(here, true, 1, 2));
        }
        for (int hour = 0; hour < 48; hour++) {
            int then = hour;
            note(text, () -> x.setHour(then, 1, 1));
        }
        note(text, () -> x.addStation(1));
        note(text, () -> x.addGroup(1, 1, 1));
        note(text, () -> x.addShelter(1, 1));
        note(text, () -> x.addPump(1, 1, 0));
        note(text, () -> x.addSensor(1, 1, 1, 0));
        note(text, () -> x.choices());
        return text.toString();
    }

    private static String goOn(Stormcellar x, int hours) {
        StringBuilder text = new StringBuilder();
        note(text, () -> x.turn(0, true) ? 1 : 0);
        note(text, () -> x.open(0, true) ? 1 : 0);
        note(text, () -> x.raise(0, 1));
        for (int hour = 0; hour < hours && x.hour() < 48; hour++) {
            note(text, () -> x.pass(1));
            if (hour % 4 == 2) {
                note(text, () -> x.warn(0));
                note(text, () -> x.warn(1));
            }
        }
        return text.append(Coasts.tell(x)).toString();
    }

    private interface Call {
        int answer();
    }

    private static void note(StringBuilder text, Call call) {
        try {
            text.append(call.answer());
        } catch (RuntimeException thrown) {
            text.append(thrown.getClass().getSimpleName());
        }
        text.append(' ');
    }
}
