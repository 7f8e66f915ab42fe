import java.util.Arrays;
import java.util.Random;
import java.util.TreeMap;

/** Random runs of calls: each answer of the class is that of the model. */
public final class ModelTest {
    private static final String[] ASKED = {
        "hour", "water", "level", "dike", "brokenAt", "wear", "hasPower", "newsAt", "isKnown", "cellOf", "people",
        "state", "inShelter", "harm", "reason", "choices", "choiceHour", "harmWithout", "worst", "come", "gone",
        "wetShare", "meanWater", "isConsistent"};

    private final Random random;
    private final Stormcellar real = new Stormcellar();
    private final Model model = new Model();
    private final StringBuilder told = new StringBuilder();
    private static final TreeMap<String, Integer> SEEN = new TreeMap<>();
    private int calls;
    private int flood;

    private ModelTest(long seed) {
        random = new Random(seed);
    }

    public static void main(String[] args) {
        int runs = args.length > 0 ? Integer.parseInt(args[0]) : 150;
        long first = args.length > 1 ? Long.parseLong(args[1]) : 1;
        for (int i = 0; i < runs; i++) {
            new ModelTest(first + i).run();
        }
        if (args.length > 0) {
            System.out.println(SEEN);
        }
        for (String reason : new String[] {"k", "w", "a", "s", "r", "d"}) {
            Check.isTrue("the reason " + reason + " comes up", SEEN.containsKey("reason " + reason));
        }
        Check.isTrue("a worst choice comes up", SEEN.containsKey("worst number"));
        Check.end();
    }

    private void run() {
        buildCoast();
        while (calls < 512) {
            step();
        }
    }

    private int upTo(int bound) {
        return random.nextInt(bound);
    }

    private boolean oneIn(int bound) {
        return upTo(bound) == 0;
    }

    /** Mostly a number of the range, now and then one just beyond it, or the farthest one. */
    private int from(int least, int most) {
        if (oneIn(60)) {
            int beyond = oneIn(5) ? Integer.MIN_VALUE : least - 1;
            return oneIn(2) ? beyond : oneIn(5) ? Integer.MAX_VALUE : most + 1;
        }
        return most < least ? least : least + upTo(most - least + 1);
    }

    private int flag() {
        return upTo(2);
    }

    private void call(String name, int... a) {
        if (calls >= 512) {
            return;
        }
        calls++;
        String due = model.answer(name, a.clone());
        String got = answer(name, a);
        String line = name + Arrays.toString(a);
        told.append(line).append(" -> ").append(due).append('\n');
        note(name, due);
        if (!got.equals(due)) {
            System.out.print(told);
            Check.isText(line + " at hour " + model.hour, got, due);
            Check.end();
        }
    }

    private static void note(String name, String due) {
        if (name.equals("reason") || name.equals("state") || name.equals("dike") || due.startsWith("throws")) {
            SEEN.merge(name + " " + due, 1, Integer::sum);
        } else if (name.equals("worst")) {
            SEEN.merge("worst number", 1, Integer::sum);
        }
    }

    private String answer(String name, int[] a) {
        try {
            return plainAnswer(name, a);
        } catch (RuntimeException thrown) {
            return "throws." + thrown.getClass().getSimpleName();
        }
    }

    private String plainAnswer(String name, int[] a) {
        switch (name) {
            case "setGround": return "" + real.setGround(a[0], a[1], a[2] == 1);
            case "setHour": return "" + real.setHour(a[0], a[1], a[2]);
            case "addDike": return "" + real.addDike(a[0], a[1] == 1, a[2], a[3]);
            case "addStation": return "" + real.addStation(a[0]);
            case "addPump": return "" + real.addPump(a[0], a[1], a[2]);
            case "addSensor": return "" + real.addSensor(a[0], a[1], a[2], a[3]);
            case "addGroup": return "" + real.addGroup(a[0], a[1], a[2]);
            case "addShelter": return "" + real.addShelter(a[0], a[1]);
            case "turn": return "" + real.turn(a[0], a[1] == 1);
            case "raise": return "" + real.raise(a[0], a[1]);
            case "cut": return "" + real.cut(a[0]);
            case "open": return "" + real.open(a[0], a[1] == 1);
            case "warn": return "" + real.warn(a[0]);
            case "pass": return "" + real.pass(a[0]);
            case "hour": return "" + real.hour();
            case "water": return "" + real.water(a[0]);
            case "level": return "" + real.level(a[0]);
            case "dike": return "" + real.dike(a[0]);
            case "brokenAt": return "" + real.brokenAt(a[0]);
            case "wear": return "" + real.wear(a[0]);
            case "hasPower": return "" + real.hasPower(a[0]);
            case "newsAt": return "" + real.newsAt(a[0]);
            case "isKnown": return "" + real.isKnown();
            case "cellOf": return "" + real.cellOf(a[0]);
            case "people": return "" + real.people(a[0]);
            case "state": return "" + real.state(a[0]);
            case "inShelter": return "" + real.inShelter(a[0]);
            case "harm": return "" + real.harm();
            case "reason": return "" + real.reason(a[0]);
            case "choices": return "" + real.choices();
            case "choiceHour": return "" + real.choiceHour(a[0]);
            case "harmWithout": return "" + real.harmWithout(a[0]);
            case "worst": return "" + real.worst();
            case "come": return "" + real.come();
            case "gone": return "" + real.gone();
            case "wetShare": return "" + real.wetShare();
            case "meanWater": return "" + real.meanWater();
            case "isConsistent": return "" + real.isConsistent();
            default: throw new AssertionError(name);
        }
    }

    /** Most things stand close to one another, so that they meet in the storm. */
    private void buildCoast() {
        int corner = upTo(4);
        boolean isCalm = !oneIn(3);
        int meeting = near(corner);
        tellGround(isCalm, corner);
        tellHours(isCalm);
        if (isCalm && oneIn(3)) {
            digPit(meeting);
        }
        for (int i = upTo(18); i >= 0; i--) {
            call("addDike", oneIn(3) ? from(0, 63) : near(corner), flag(),
                    from(0, oneIn(2) ? 99 : 25), from(2, oneIn(2) ? 99 : 20));
        }
        for (int i = upTo(6); i >= 0; i--) {
            call("addStation", from(0, 63));
        }
        int stations = model.stations.size();
        for (int i = upTo(9); i >= 0; i--) {
            call("addPump", oneIn(3) ? from(0, 63) : near(corner), from(1, 20), from(0, stations - 1));
        }
        for (int i = upTo(10); i >= 0; i--) {
            call("addSensor", from(0, 63), from(1, oneIn(4) ? 20 : 1), from(1, oneIn(4) ? 9 : 2),
                    from(0, stations - 1));
        }
        for (int i = 2 + upTo(6); i >= 0; i--) {
            call("addGroup", oneIn(3) ? near(corner) : meeting, from(1, 99), from(0, oneIn(2) ? 5 : 1));
        }
        for (int i = upTo(6); i >= 0; i--) {
            call("addShelter", oneIn(4) ? from(0, 63) : near(corner), from(1, oneIn(2) ? 500 : 90));
        }
    }

    /** On a calm coast the ground is low, and the sea is far from the groups or rises late. */
    private void tellGround(boolean isCalm, int corner) {
        int height = oneIn(3) ? 30 : 8;
        for (int i = 0; i < 64; i++) {
            boolean isNear = i / 32 == corner / 2 && i % 8 / 4 == corner % 2;
            if (isCalm) {
                call("setGround", i, oneIn(8) ? from(0, 2) : 0, oneIn(isNear ? 6 : 4) ? 1 : 0);
            } else if (oneIn(2)) {
                call("setGround", i, from(0, height), oneIn(7) ? 1 : 0);
            }
        }
    }

    /** Where the groups meet, beside a sea: it is flooded when the shelters open, and the ways to them are dry. */
    private void digPit(int meeting) {
        flood = 3 + upTo(4);
        for (int hour = 1; hour <= flood; hour++) {
            call("setHour", hour, hour == flood ? from(40, 60) : 0, 0);
        }
        for (int i = 0; i < 64; i++) {
            if (i != meeting && oneIn(2)) {
                call("setGround", i, 40, 0);
            }
        }
        call("setGround", meeting, 0, 0);
        call("setGround", meeting % 8 < 7 ? meeting + 1 : meeting - 1, 0, 1);
    }

    private void tellHours(boolean isCalm) {
        int rise = isCalm ? 4 + upTo(12) : 0;
        int most = oneIn(4) ? 80 : 35;
        call("setHour", 0, 0, isCalm ? 1 : from(0, 9));
        for (int hour = rise; hour < rise + 12; hour++) {
            call("setHour", oneIn(4) ? from(0, 47) : hour, oneIn(isCalm ? 2 : 9) ? 0 : from(0, most),
                    oneIn(isCalm ? 9 : 3) ? from(0, 9) : upTo(2));
        }
    }

    private int near(int corner) {
        int row = corner / 2 * 4 + upTo(4);
        int column = corner % 2 * 4 + upTo(4);
        return row * 8 + column;
    }

    private void step() {
        int kind = upTo(40);
        if (kind < 2 && oneIn(4)) {
            lateTelling();
        } else if (kind < 5) {
            choose();
        } else if (kind < 8) {
            call("pass", oneIn(40) ? from(1, 48) : from(1, oneIn(4) && model.hour > flood ? 4 : 1));
        } else {
            ask(ASKED[upTo(ASKED.length)]);
        }
    }

    private void lateTelling() {
        switch (upTo(8)) {
            case 0: call("setGround", from(0, 63), from(0, 60), flag()); break;
            case 1: call("setHour", from(0, 47), from(0, 80), from(0, 9)); break;
            case 2: call("addDike", from(0, 63), flag(), from(0, 99), from(2, 99)); break;
            case 3: call("addStation", from(0, 63)); break;
            case 4: call("addPump", from(0, 63), from(1, 20), from(0, 3)); break;
            case 5: call("addSensor", from(0, 63), from(1, 20), from(1, 9), from(0, 3)); break;
            case 6: call("addGroup", from(0, 63), from(1, 99), from(0, 5)); break;
            default: call("addShelter", from(0, 63), from(1, 500)); break;
        }
    }

    private void choose() {
        if (model.hour < flood) {
            call("warn", from(0, model.groups.size() - 1));
            return;
        }
        if (model.hour == flood && flood > 0) {
            call("open", from(0, model.shelters.size() - 1), 1);
            return;
        }
        switch (upTo(oneIn(3) ? 6 : 10)) {
            case 0: call("turn", from(0, model.pumps.size() - 1), oneIn(4) ? 0 : 1); break;
            case 1: call("raise", from(0, model.dikes.size() - 1), from(1, 10)); break;
            case 2: call("cut", from(0, model.dikes.size() - 1)); break;
            case 3: case 6: case 7: call("open", from(0, model.shelters.size() - 1), oneIn(6) ? 0 : 1); break;
            default: call("warn", from(0, model.groups.size() - 1)); break;
        }
    }

    private void ask(String name) {
        switch (name) {
            case "hour": case "isKnown": case "harm": case "choices": case "worst": case "come": case "gone":
            case "wetShare": case "meanWater": case "isConsistent":
                call(name);
                break;
            case "water": case "level":
                call(name, from(0, 63));
                break;
            case "dike": case "brokenAt": case "wear":
                call(name, from(0, model.dikes.size() - 1));
                break;
            case "hasPower":
                call(name, from(0, model.stations.size() - 1));
                break;
            case "newsAt":
                call(name, from(0, model.sensors.size() - 1));
                break;
            case "inShelter":
                call(name, from(0, model.shelters.size() - 1));
                break;
            case "choiceHour": case "harmWithout":
                call(name, from(0, model.chosen.size() - 1));
                break;
            default:
                call(name, from(0, model.groups.size() - 1));
                break;
        }
    }
}
