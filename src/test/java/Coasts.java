/** Coasts that several tests begin with. */
final class Coasts {
    static final int ROCK = 60;

    private Coasts() {
    }

    /** Flat land; with the same rain on all of it nothing ever flows. */
    static Stormcellar flat(int... rains) {
        Stormcellar x = new Stormcellar();
        for (int hour = 0; hour < rains.length; hour++) {
            x.setHour(hour, 0, rains[hour]);
        }
        return x;
    }

    /** Rock but for the sea at cell 0 and the pit at cell 1, which only the sea can fill. */
    static Stormcellar pit(int... seas) {
        Stormcellar x = new Stormcellar();
        for (int cell = 0; cell < 64; cell++) {
            x.setGround(cell, ROCK, false);
        }
        x.setGround(0, 0, true);
        x.setGround(1, 0, false);
        for (int hour = 0; hour < seas.length; hour++) {
            x.setHour(hour, seas[hour], 0);
        }
        return x;
    }

    /** Land on these cells alone, with these grounds; around it high ground that neither gives nor gets. */
    static Stormcellar basin(int[] cells, int[] grounds) {
        Stormcellar x = new Stormcellar();
        for (int cell = 0; cell < 64; cell++) {
            x.setGround(cell, ROCK, true);
        }
        for (int i = 0; i < cells.length; i++) {
            x.setGround(cells[i], grounds[i], false);
        }
        return x;
    }

    /** Has news at the office from hour 1 on, if there is 1 rain at least in hour 0. */
    static void addNews(Stormcellar x) {
        int station = x.addStation(63);
        x.addSensor(63, 1, 1, station);
    }

    /** Everything that can be asked of an object that has these numbers of things. */
    static String tell(Stormcellar x, int dikes, int stations, int sensors, int groups, int shelters) {
        StringBuilder text = new StringBuilder();
        text.append(x.hour()).append(' ').append(x.choices()).append(' ').append(x.harm()).append(' ');
        text.append(x.come()).append(' ').append(x.gone()).append(' ').append(x.isKnown()).append(' ');
        for (int cell = 0; cell < 64; cell++) {
            text.append(x.water(cell)).append('/').append(x.level(cell)).append(' ');
        }
        for (int i = 0; i < dikes; i++) {
            text.append(x.dike(i)).append(x.wear(i)).append(' ');
        }
        for (int i = 0; i < stations; i++) {
            text.append(x.hasPower(i)).append(' ');
        }
        for (int i = 0; i < sensors; i++) {
            text.append(newsOf(x, i)).append(' ');
        }
        for (int i = 0; i < groups; i++) {
            text.append(x.cellOf(i)).append(x.state(i)).append(x.people(i)).append(' ');
        }
        for (int i = 0; i < shelters; i++) {
            text.append(x.inShelter(i)).append(' ');
        }
        for (int i = 0; i < x.choices(); i++) {
            text.append(x.choiceHour(i)).append('>').append(x.harmWithout(i)).append(' ');
        }
        return text.append(x.isConsistent()).toString();
    }

    private static String newsOf(Stormcellar x, int sensor) {
        try {
            return "" + x.newsAt(sensor);
        } catch (java.util.NoSuchElementException none) {
            return "none";
        }
    }
}
