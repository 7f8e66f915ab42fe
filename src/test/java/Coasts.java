/** Coasts that several tests begin with. */
final class Coasts {
    static final int ROCK = 60;

    private Coasts() {
    }

    /** Flat land; with the same rain on all of it nothing ever flows. */
    static Stormcellar flat(int... rains) {
        Stormcellar x = new Stormcellar();
        for (int hour = 0; hour < rains.length; hour++) {
            x.setHour(hour, 0, rains[hour]);
        }
        return x;
    }

    /** Rock but for the sea at cell 0 and the pit at cell 1, which only the sea can fill. */
    static Stormcellar pit(int... seas) {
        Stormcellar x = new Stormcellar();
        for (int cell = 0; cell < 64; cell++) {
            x.setGround(cell, ROCK, false);
        }
        x.setGround(0, 0, true);
        x.setGround(1, 0, false);
        for (int hour = 0; hour < seas.length; hour++) {
            x.setHour(hour, seas[hour], 0);
        }
        return x;
    }

    /** Land on these cells alone, with these grounds; around it high ground that neither gives nor gets. */
    static Stormcellar basin(int[] cells, int[] grounds) {
        Stormcellar x = new Stormcellar();
        for (int cell = 0; cell < 64; cell++) {
            x.setGround(cell, ROCK, true);
        }
        for (int i = 0; i < cells.length; i++) {
            x.setGround(cells[i], grounds[i], false);
        }
        return x;
    }

    /** Land on cell 9 alone, onto which so much water comes in hour 0, 59 at most, by rain and from four seas. */
    static Stormcellar deep(int water) {
        Stormcellar x = basin(new int[] {9}, new int[] {0});
        for (int cell : new int[] {1, 8, 10, 17}) {
            x.setGround(cell, 0, true);
        }
        x.setHour(0, water, water % 4);
        return x;
    }

    /** Has news at the office from hour 1 on, if there is 1 rain at least in hour 0. */
    static void addNews(Stormcellar x) {
        int station = x.addStation(63);
        x.addSensor(63, 1, 1, station);
    }

    /**
     * Something of everything, with room for more: the sea rises on the left, it rains, a dike holds and another
     * one does not, news comes at 2, and a group is near and another one far.
     */
    static Stormcellar whole() {
        Stormcellar x = new Stormcellar();
        for (int cell = 0; cell < 64; cell += 8) {
            x.setGround(cell, 0, true);
        }
        x.setGround(12, 5, false);
        x.setGround(56, 30, true);
        for (int hour = 0; hour < 12; hour++) {
            x.setHour(hour, 4 * hour, hour % 3);
        }
        x.setHour(47, 80, 9);
        x.addDike(8, false, 12, 9);
        x.addDike(16, false, 70, 60);
        addNews(x);
        x.addPump(10, 2, 0);
        x.addPump(19, 3, 0);
        x.addGroup(9, 40, 1);
        x.addGroup(29, 30, 0);
        x.addShelter(14, 100);
        x.addShelter(21, 20);
        return x;
    }

    /** The whole coast when these hours have gone by; pumps run, a shelter is open, and a group is warned at 2. */
    static Stormcellar wholeAt(int hour) {
        Stormcellar x = whole();
        x.turn(0, true);
        x.open(0, true);
        for (int i = 0; i < hour; i++) {
            if (i == 2) {
                x.warn(0);
            }
            x.pass(1);
        }
        return x;
    }

    /** The whole coast in the hour 2, when there is news, with these choices made in all. */
    static Stormcellar wholeWithChoices(int choices) {
        Stormcellar x = whole();
        x.pass(2);
        for (int i = 0; i < choices; i++) {
            x.turn(1, i % 2 == 0);
        }
        return x;
    }

    /** Everything that can be asked of an object: some 280 calls at most. */
    static String tell(Stormcellar x) {
        StringBuilder text = new StringBuilder();
        text.append(x.hour()).append(' ').append(x.choices()).append(' ').append(x.harm()).append(' ');
        text.append(x.come()).append(' ').append(x.gone()).append(' ').append(x.isKnown()).append(' ');
        text.append(told(() -> x.worst())).append(told(() -> x.wetShare())).append(told(() -> x.meanWater()));
        for (int cell = 0; cell < 64; cell++) {
            text.append(x.water(cell)).append('/').append(x.level(cell)).append(' ');
        }
        int dikes = countDikes(x);
        for (int i = 0; i < dikes; i++) {
            int dike = i;
            text.append(x.dike(i)).append(x.wear(i)).append(told(() -> x.brokenAt(dike)));
        }
        for (int i = 0; i < 4; i++) {
            int number = i;
            text.append(told(() -> x.hasPower(number))).append(told(() -> x.inShelter(number)));
        }
        for (int i = 0; i < 8; i++) {
            int sensor = i;
            text.append(told(() -> x.newsAt(sensor)));
        }
        for (int i = 0; i < 6; i++) {
            int group = i;
            text.append(told(() -> x.cellOf(group))).append(told(() -> x.state(group)));
            text.append(told(() -> x.people(group))).append(told(() -> x.reason(group)));
        }
        int choices = x.choices();
        for (int i = 0; i < choices; i++) {
            text.append(x.choiceHour(i)).append('>').append(x.harmWithout(i)).append(' ');
        }
        return text.append(x.isConsistent()).toString();
    }

    private static int countDikes(Stormcellar x) {
        for (int i = 0; i < 16; i++) {
            try {
                x.dike(i);
            } catch (IndexOutOfBoundsException none) {
                return i;
            }
        }
        return 16;
    }

    private static String told(java.util.function.Supplier<Object> call) {
        try {
            return call.get() + " ";
        } catch (RuntimeException thrown) {
            return thrown.getClass().getSimpleName() + " ";
        }
    }
}
