import java.util.ArrayList;
import java.util.HashMap;
import java.util.HashSet;
import java.util.List;
import java.util.Map;
import java.util.Set;
import java.util.TreeSet;

/**
 * The document written a second time, slowly: only what was told and chosen is kept, and each question runs
 * the storm again from its beginning. Answers are texts; an exception is "throws." and its name.
 */
final class Model {
    static final String INDEX = "throws.IndexOutOfBoundsException";
    static final String ARGUMENT = "throws.IllegalArgumentException";
    static final String UNSUPPORTED = "throws.UnsupportedOperationException";
    static final String STATE = "throws.IllegalStateException";
    static final String ELEMENT = "throws.NoSuchElementException";
    static final String ARITHMETIC = "throws.ArithmeticException";

    private static final Map<Integer, List<Integer>> BESIDE = new HashMap<>();

    final int[] ground = new int[64];
    final Set<Integer> seaCells = new HashSet<>();
    final int[][] told = new int[48][2];
    final List<int[]> dikes = new ArrayList<>();
    final List<int[]> stations = new ArrayList<>();
    final List<int[]> pumps = new ArrayList<>();
    final List<int[]> sensors = new ArrayList<>();
    final List<int[]> groups = new ArrayList<>();
    final List<int[]> shelters = new ArrayList<>();
    final List<Chosen> chosen = new ArrayList<>();
    int hour;
    private Run asItIs;

    static final class Chosen {
        final int hour;
        final String kind;
        final int number;
        final int by;

        Chosen(int hour, String kind, int number, int by) {
            this.hour = hour;
            this.kind = kind;
            this.number = number;
            this.by = by;
        }
    }

    /** How everything is at some time of one run. */
    final class Run {
        final Map<Integer, Integer> water = new HashMap<>();
        final List<Integer> crest = new ArrayList<>();
        final int[] wear = new int[dikes.size()];
        final String[] how = new String[dikes.size()];
        final int[] when = new int[dikes.size()];
        final Set<Integer> darkStations = new HashSet<>();
        final Set<Integer> runningPumps = new HashSet<>();
        final Map<Integer, Integer> news = new HashMap<>();
        final int[] at = new int[groups.size()];
        final int[] left = new int[groups.size()];
        final Map<Integer, Integer> underWay = new HashMap<>();
        final Set<Integer> reached = new HashSet<>();
        final Map<Integer, Integer> safeIn = new HashMap<>();
        final Map<Integer, Character> why = new HashMap<>();
        final Set<Integer> openShelters = new HashSet<>();
        long come;
        long gone;
        int now;

        Run() {
            for (int cell = 0; cell < 64; cell++) {
                if (!seaCells.contains(cell)) {
                    water.put(cell, 0);
                }
            }
            for (int i = 0; i < dikes.size(); i++) {
                crest.add(dikes.get(i)[2]);
                how[i] = "-";
            }
            for (int i = 0; i < groups.size(); i++) {
                at[i] = groups.get(i)[0];
                left[i] = groups.get(i)[1];
            }
        }

        int wet(int cell) {
            return water.getOrDefault(cell, 0);
        }

        int level(int cell) {
            if (seaCells.contains(cell)) {
                return Math.max(told[Math.min(now, 47)][0], ground[cell]);
            }
            return ground[cell] + wet(cell);
        }

        boolean known() {
            return news.values().stream().anyMatch(from -> from <= now);
        }

        int lost() {
            int sum = 0;
            for (int i = 0; i < groups.size(); i++) {
                sum += groups.get(i)[1] - left[i];
            }
            return sum;
        }

        int inside(int shelter) {
            int sum = 0;
            for (Map.Entry<Integer, Integer> entry : safeIn.entrySet()) {
                if (entry.getValue() == shelter) {
                    sum += left[entry.getKey()];
                }
            }
            return sum;
        }

        boolean can(Chosen c) {
            switch (c.kind) {
                case "raise":
                    return how[c.number].equals("-") && crest.get(c.number) + c.by <= 120;
                case "cut":
                    return how[c.number].equals("-");
                case "warn":
                    return known() && !underWay.containsKey(c.number) && !reached.contains(c.number)
                            && left[c.number] > 0;
                default:
                    return true;
            }
        }

        void make(Chosen c) {
            if (c.kind.equals("raise")) {
                crest.set(c.number, crest.get(c.number) + c.by);
            } else if (c.kind.equals("cut")) {
                how[c.number] = "c";
                when[c.number] = now;
            } else if (c.kind.equals("warn")) {
                underWay.put(c.number, now + groups.get(c.number)[2]);
            } else {
                Set<Integer> set = c.kind.equals("turn") ? runningPumps : openShelters;
                if (c.by == 1) {
                    set.add(c.number);
                } else {
                    set.remove(c.number);
                }
            }
        }

        int standing(int a, int b) {
            int most = Math.max(ground[a], ground[b]);
            for (int i = 0; i < dikes.size(); i++) {
                if (how[i].equals("-") && isBetween(i, a, b)) {
                    most = Math.max(most, crest.get(i));
                }
            }
            return most;
        }

        int given(int from, int to) {
            if (seaCells.contains(from) && seaCells.contains(to)) {
                return 0;
            }
            int stands = standing(from, to);
            if (level(from) <= level(to) || level(from) <= stands) {
                return 0;
            }
            int quarter = Math.floorDiv(level(from) - Math.max(level(to), stands), 4);
            return seaCells.contains(from) ? quarter : Math.min(quarter, Math.floorDiv(wet(from), 4));
        }

        void rain() {
            for (int cell : water.keySet()) {
                water.put(cell, wet(cell) + told[now][1]);
                come += told[now][1];
            }
        }

        void flow() {
            Map<Integer, Integer> then = new HashMap<>(water);
            int[][] flows = new int[64][64];
            for (int from = 0; from < 64; from++) {
                for (int to : beside(from)) {
                    flows[from][to] = given(from, to);
                    if (seaCells.contains(from)) {
                        come += flows[from][to];
                    } else {
                        then.merge(from, -flows[from][to], Integer::sum);
                    }
                    if (seaCells.contains(to)) {
                        gone += flows[from][to];
                    } else {
                        then.merge(to, flows[from][to], Integer::sum);
                    }
                }
            }
            wearDikes(flows);
            water.putAll(then);
        }

        void wearDikes(int[][] flows) {
            for (int i = 0; i < dikes.size(); i++) {
                int a = dikes.get(i)[0];
                int b = a + (dikes.get(i)[1] == 1 ? 8 : 1);
                int strength = dikes.get(i)[3];
                if (!how[i].equals("-")) {
                    continue;
                }
                int flowed = Math.max(flows[a][b], flows[b][a]);
                boolean over = flowed > 0;
                if (over) {
                    wear[i] += flowed;
                } else if (Math.abs(level(a) - level(b)) > Math.floorDiv(strength, 2)) {
                    wear[i]++;
                }
                if (wear[i] >= strength) {
                    how[i] = over ? "o" : "p";
                    when[i] = now;
                }
            }
        }

        void powerPumpsAndSensors() {
            for (int i = 0; i < stations.size(); i++) {
                if (wet(stations.get(i)[0]) > 3) {
                    darkStations.add(i);
                }
            }
            for (int i = 0; i < pumps.size(); i++) {
                int[] pump = pumps.get(i);
                if (runningPumps.contains(i) && !darkStations.contains(pump[2])) {
                    int taken = Math.min(pump[1], wet(pump[0]));
                    if (taken > 0) {
                        water.put(pump[0], wet(pump[0]) - taken);
                        gone += taken;
                    }
                }
            }
            for (int i = 0; i < sensors.size(); i++) {
                int[] sensor = sensors.get(i);
                if (!darkStations.contains(sensor[3]) && wet(sensor[0]) >= sensor[1]) {
                    news.putIfAbsent(i, now + sensor[2]);
                }
            }
        }

        boolean takes(int shelter, int group) {
            return openShelters.contains(shelter) && inside(shelter) + left[group] <= shelters.get(shelter)[1];
        }

        boolean isDry(int cell) {
            return !seaCells.contains(cell) && wet(cell) <= 2;
        }

        /** How many cells a way has from this first cell to the goal, or 0 if there is none. */
        int wayLength(int first, int goal, int home) {
            Set<Integer> front = new TreeSet<>();
            Set<Integer> seen = new HashSet<>();
            if (isDry(first) && first != home) {
                front.add(first);
            }
            for (int length = 1; !front.isEmpty(); length++) {
                if (front.contains(goal)) {
                    return length;
                }
                seen.addAll(front);
                Set<Integer> next = new TreeSet<>();
                for (int cell : front) {
                    for (int other : beside(cell)) {
                        if (isDry(other) && other != home && !seen.contains(other)) {
                            next.add(other);
                        }
                    }
                }
                front = next;
            }
            return 0;
        }

        /** The ways as texts that sort in the document's order: length, shelter, first cell. */
        int nextCell(int group, Map<Integer, Integer> entered) {
            TreeSet<String> ways = new TreeSet<>();
            for (int s = 0; s < shelters.size(); s++) {
                for (int first : beside(at[group])) {
                    int length = wayLength(first, shelters.get(s)[0], at[group]);
                    if (length > 0 && takes(s, group) && entered.getOrDefault(first, 0) < 4) {
                        ways.add(String.format("%02d %02d %02d", length, s, first));
                    }
                }
            }
            return ways.isEmpty() ? -1 : Integer.parseInt(ways.first().substring(6));
        }

        int shelterAt(int group) {
            for (int s = 0; s < shelters.size(); s++) {
                if (shelters.get(s)[0] == at[group] && takes(s, group)) {
                    return s;
                }
            }
            return -1;
        }

        char whyNow(int group) {
            boolean any = false;
            for (int s = 0; s < shelters.size(); s++) {
                any |= takes(s, group);
            }
            if (!known()) {
                return 'k';
            } else if (!reached.contains(group) && !underWay.containsKey(group)) {
                return 'w';
            } else if (!reached.contains(group)) {
                return 'a';
            } else if (!any) {
                return 's';
            } else if (shelterAt(group) < 0 && nextCell(group, new HashMap<>()) < 0) {
                return 'r';
            }
            return 'd';
        }

        void goGroups() {
            Map<Integer, Integer> entered = new HashMap<>();
            for (int g = 0; g < groups.size(); g++) {
                if (safeIn.containsKey(g) || left[g] == 0) {
                    continue;
                }
                int depth = wet(at[g]);
                if (depth >= 10) {
                    why.putIfAbsent(g, whyNow(g));
                    int fewer = (int) (left[g] * ((depth - 9) / 16.0f));
                    left[g] -= Math.min(left[g], Math.max(1, fewer));
                }
                if (left[g] == 0) {
                    continue;
                }
                if (underWay.getOrDefault(g, -1) == now) {
                    underWay.remove(g);
                    if (depth < 5) {
                        reached.add(g);
                    }
                }
                if (!reached.contains(g)) {
                    continue;
                }
                int here = shelterAt(g);
                int next = nextCell(g, entered);
                if (here >= 0) {
                    safeIn.put(g, here);
                } else if (next >= 0) {
                    at[g] = next;
                    entered.merge(next, 1, Integer::sum);
                }
            }
        }

        void goHour() {
            rain();
            flow();
            powerPumpsAndSensors();
            goGroups();
            now++;
        }
    }

    boolean isBetween(int dike, int a, int b) {
        int one = dikes.get(dike)[0];
        int other = one + (dikes.get(dike)[1] == 1 ? 8 : 1);
        return one == Math.min(a, b) && other == Math.max(a, b);
    }

    static List<Integer> beside(int cell) {
        return BESIDE.computeIfAbsent(cell, Model::neighbours);
    }

    private static List<Integer> neighbours(int cell) {
        List<Integer> list = new ArrayList<>();
        for (int other = 0; other < 64; other++) {
            int rows = Math.abs(other / 8 - cell / 8);
            int columns = Math.abs(other % 8 - cell % 8);
            if (rows + columns == 1) {
                list.add(other);
            }
        }
        return list;
    }

    /** Nothing that was asked changes a run, so the storm as it is is kept until something is told or done. */
    Run run(int without) {
        if (without >= 0) {
            return newRun(without);
        }
        if (asItIs == null) {
            asItIs = newRun(without);
        }
        return asItIs;
    }

    private Run newRun(int without) {
        Run run = new Run();
        for (int h = 0; h <= hour; h++) {
            for (int i = 0; i < chosen.size(); i++) {
                if (chosen.get(i).hour == h && i != without && run.can(chosen.get(i))) {
                    run.make(chosen.get(i));
                }
            }
            if (h < hour) {
                run.goHour();
            }
        }
        return run;
    }

    static boolean in(int number, int least, int most) {
        return number >= least && number <= most;
    }

    /** Adds a thing if nothing forbids it, and answers its number. */
    private String add(List<int[]> list, int most, int... thing) {
        if (list.size() == most || hour > 0) {
            return STATE;
        }
        list.add(thing);
        return "" + (list.size() - 1);
    }

    private String choose(String kind, int number, int by, Run before) {
        Chosen c = new Chosen(hour, kind, number, by);
        if (!before.can(c)) {
            return UNSUPPORTED;
        }
        if (chosen.size() == 16) {
            return STATE;
        }
        chosen.add(c);
        return "";
    }

    String answer(String call, int[] a) {
        switch (call) {
            case "setGround": case "setHour": case "addDike": case "addStation": case "addPump":
            case "addSensor": case "addGroup": case "addShelter":
                return tell(call, a);
            case "turn": case "raise": case "cut": case "open": case "warn":
                return decide(call, a);
            case "pass":
                if (!in(a[0], 1, 48)) {
                    return ARGUMENT;
                }
                if (hour + a[0] > 48) {
                    return STATE;
                }
                hour += a[0];
                asItIs = null;
                return "" + hour;
            case "choices":
                return "" + chosen.size();
            case "choiceHour":
                return in(a[0], 0, chosen.size() - 1) ? "" + chosen.get(a[0]).hour : INDEX;
            case "harmWithout":
                return in(a[0], 0, chosen.size() - 1) ? "" + run(a[0]).lost() : INDEX;
            case "worst":
                return worst();
            default:
                return ask(call, a, run(-1));
        }
    }

    private String tell(String call, int[] a) {
        asItIs = null;
        if (call.equals("setHour")) {
            if (!in(a[0], 0, 47) || !in(a[1], 0, 80) || !in(a[2], 0, 9)) {
                return ARGUMENT;
            }
            if (hour > 0) {
                return STATE;
            }
            String before = "" + (10 * told[a[0]][0] + told[a[0]][1]);
            told[a[0]] = new int[] {a[1], a[2]};
            return before;
        }
        if (!in(a[0], 0, 63)) {
            return INDEX;
        }
        switch (call) {
            case "setGround":
                if (!in(a[1], 0, 60)) {
                    return ARGUMENT;
                }
                if (hour > 0) {
                    return STATE;
                }
                String before = "" + ground[a[0]];
                ground[a[0]] = a[1];
                seaCells.remove(a[0]);
                if (a[2] == 1) {
                    seaCells.add(a[0]);
                }
                return before;
            case "addDike":
                if (!beside(a[0]).contains(a[0] + (a[1] == 1 ? 8 : 1))) {
                    return INDEX;
                }
                if (!in(a[2], 0, 99) || !in(a[3], 2, 99)) {
                    return ARGUMENT;
                }
                if (dikes.stream().anyMatch(d -> d[0] == a[0] && d[1] == a[1])) {
                    return UNSUPPORTED;
                }
                return add(dikes, 16, a.clone());
            case "addStation":
                return add(stations, 4, a.clone());
            case "addPump":
                return !in(a[2], 0, stations.size() - 1) ? INDEX : !in(a[1], 1, 20) ? ARGUMENT
                        : add(pumps, 8, a.clone());
            case "addSensor":
                return !in(a[3], 0, stations.size() - 1) ? INDEX : !in(a[1], 1, 20) || !in(a[2], 1, 9) ? ARGUMENT
                        : add(sensors, 8, a.clone());
            case "addGroup":
                return !in(a[1], 1, 99) || !in(a[2], 0, 5) ? ARGUMENT : add(groups, 6, a.clone());
            default:
                return !in(a[1], 1, 500) ? ARGUMENT : add(shelters, 4, a.clone());
        }
    }

    private String decide(String call, int[] a) {
        List<int[]> list = call.equals("turn") ? pumps : call.equals("open") ? shelters
                : call.equals("warn") ? groups : dikes;
        if (!in(a[0], 0, list.size() - 1)) {
            return INDEX;
        }
        if (call.equals("raise") && !in(a[1], 1, 10)) {
            return ARGUMENT;
        }
        Run before = run(-1);
        String refused = choose(call, a[0], a.length > 1 ? a[1] : 0, before);
        if (!refused.isEmpty()) {
            return refused;
        }
        asItIs = null;
        switch (call) {
            case "turn":
                return "" + before.runningPumps.contains(a[0]);
            case "open":
                return "" + before.openShelters.contains(a[0]);
            case "raise":
                return "" + (before.crest.get(a[0]) + a[1]);
            case "cut":
                return "" + before.wear[a[0]];
            default:
                return "" + (hour + groups.get(a[0])[2]);
        }
    }

    private String worst() {
        int best = -1;
        int fewest = run(-1).lost();
        for (int i = 0; i < chosen.size(); i++) {
            int lost = run(i).lost();
            if (lost < fewest) {
                fewest = lost;
                best = i;
            }
        }
        return best < 0 ? ELEMENT : "" + best;
    }

    private String ask(String call, int[] a, Run run) {
        switch (call) {
            case "hour":
                return "" + hour;
            case "isKnown":
                return "" + run.known();
            case "harm":
                return "" + run.lost();
            case "come":
                return "" + run.come;
            case "gone":
                return "" + run.gone;
            case "wetShare":
                long wet = run.water.values().stream().filter(w -> w > 0).count();
                return run.water.isEmpty() ? ARITHMETIC : "" + (float) wet / (float) run.water.size();
            case "meanWater":
                long sum = run.water.values().stream().mapToInt(w -> w).sum();
                return run.water.isEmpty() ? ARITHMETIC : "" + (double) sum / (double) run.water.size();
            case "isConsistent":
                return "true";
            case "water":
                return in(a[0], 0, 63) ? "" + run.wet(a[0]) : INDEX;
            case "level":
                return in(a[0], 0, 63) ? "" + run.level(a[0]) : INDEX;
            case "hasPower":
                return in(a[0], 0, stations.size() - 1) ? "" + !run.darkStations.contains(a[0]) : INDEX;
            case "newsAt":
                return !in(a[0], 0, sensors.size() - 1) ? INDEX
                        : run.news.containsKey(a[0]) ? "" + run.news.get(a[0]) : ELEMENT;
            case "inShelter":
                return in(a[0], 0, shelters.size() - 1) ? "" + run.inside(a[0]) : INDEX;
            case "dike": case "brokenAt": case "wear":
                return in(a[0], 0, dikes.size() - 1) ? askDike(call, a[0], run) : INDEX;
            default:
                return in(a[0], 0, groups.size() - 1) ? askGroup(call, a[0], run) : INDEX;
        }
    }

    private String askDike(String call, int dike, Run run) {
        switch (call) {
            case "dike":
                return run.how[dike];
            case "brokenAt":
                return run.how[dike].equals("-") ? ELEMENT : "" + run.when[dike];
            default:
                return "" + run.wear[dike];
        }
    }

    private String askGroup(String call, int group, Run run) {
        switch (call) {
            case "cellOf":
                return "" + run.at[group];
            case "people":
                return "" + run.left[group];
            case "reason":
                return run.why.containsKey(group) ? "" + run.why.get(group) : ELEMENT;
            default:
                return run.left[group] == 0 ? "l" : run.safeIn.containsKey(group) ? "s"
                        : run.reached.contains(group) ? "o" : run.underWay.containsKey(group) ? "a" : "h";
        }
    }
}
