import java.util.Arrays;
import java.util.NoSuchElementException;

/** A coast through a storm; the document's promises say what each call answers. */
public final class Stormcellar {
    private static final int SIDE = 8;
    private static final int CELLS = 64;
    private static final int HOURS = 48;
    private static final int MAX_DIKES = 16;
    private static final int MAX_STATIONS = 4;
    private static final int MAX_PUMPS = 8;
    private static final int MAX_SENSORS = 8;
    private static final int MAX_GROUPS = 6;
    private static final int MAX_SHELTERS = 4;
    private static final int MAX_CHOICES = 16;
    private static final int MAX_CREST = 120;
    private static final int NONE = -1;

    private static final char STANDS = '-';
    private static final char OVERFLOWED = 'o';
    private static final char PRESSED = 'p';
    private static final char CUT = 'c';

    private static final char AT_HOME = 'h';
    private static final char WARNED = 'a';
    private static final char ON_ITS_WAY = 'o';
    private static final char SAFE = 's';
    private static final char NOBODY_LEFT = 'l';
    private static final char NOBODY_LOST = '-';

    private static final int TURN = 0;
    private static final int RAISE = 1;
    private static final int BREACH = 2;
    private static final int OPEN = 3;
    private static final int WARN = 4;

    private final Coast coast;
    private final Storm storm;
    private final Storm again;
    private final Choice[] made;
    private int madeCount;

    public Stormcellar() {
        coast = new Coast();
        storm = new Storm(coast);
        again = new Storm(coast);
        made = new Choice[MAX_CHOICES];
        for (int i = 0; i < MAX_CHOICES; i++) {
            made[i] = new Choice();
        }
        madeCount = 0;
    }

    // ---- the coast, ahead of the storm

    public int setGround(int cell, int height, boolean isSea)
            throws IndexOutOfBoundsException, IllegalArgumentException, IllegalStateException {
        needNumber(cell, CELLS);
        needRange(height, 0, 60);
        needNoHourGone();
        int before = coast.ground[cell];
        coast.ground[cell] = height;
        coast.isSea[cell] = isSea;
        return before;
    }

    public int setHour(int hour, int sea, int rain) throws IllegalArgumentException, IllegalStateException {
        needRange(hour, 0, HOURS - 1);
        needRange(sea, 0, 80);
        needRange(rain, 0, 9);
        needNoHourGone();
        int before = 10 * coast.seaLevel[hour] + coast.rain[hour];
        coast.seaLevel[hour] = sea;
        coast.rain[hour] = rain;
        return before;
    }

    public int addDike(int cell, boolean isLower, int crest, int strength)
            throws IndexOutOfBoundsException, IllegalArgumentException,
            UnsupportedOperationException, IllegalStateException {
        needNumber(cell, CELLS);
        needNeighbour(cell, isLower);
        needRange(crest, 0, 99);
        needRange(strength, 2, 99);
        int place = isLower ? 2 * cell + 1 : 2 * cell;
        if (storm.flood.dikeAt[place] != NONE) {
            throw new UnsupportedOperationException("there is a dike already");
        }
        needSpace(storm.flood.dikeCount, MAX_DIKES);
        needNoHourGone();
        again.flood.buildDike(place, crest, strength);
        return storm.flood.buildDike(place, crest, strength);
    }

    public int addStation(int cell) throws IndexOutOfBoundsException, IllegalStateException {
        needNumber(cell, CELLS);
        needSpace(storm.works.stationCount, MAX_STATIONS);
        needNoHourGone();
        again.works.buildStation(cell);
        return storm.works.buildStation(cell);
    }

    public int addPump(int cell, int rate, int station)
            throws IndexOutOfBoundsException, IllegalArgumentException, IllegalStateException {
        needNumber(cell, CELLS);
        needNumber(station, storm.works.stationCount);
        needRange(rate, 1, 20);
        needSpace(storm.works.pumpCount, MAX_PUMPS);
        needNoHourGone();
        again.works.buildPump(cell, rate, station);
        return storm.works.buildPump(cell, rate, station);
    }

    public int addSensor(int cell, int depth, int delay, int station)
            throws IndexOutOfBoundsException, IllegalArgumentException, IllegalStateException {
        needNumber(cell, CELLS);
        needNumber(station, storm.works.stationCount);
        needRange(depth, 1, 20);
        needRange(delay, 1, 9);
        needSpace(storm.works.sensorCount, MAX_SENSORS);
        needNoHourGone();
        again.works.buildSensor(cell, depth, delay, station);
        return storm.works.buildSensor(cell, depth, delay, station);
    }

    public int addGroup(int cell, int people, int delay)
            throws IndexOutOfBoundsException, IllegalArgumentException, IllegalStateException {
        needNumber(cell, CELLS);
        needRange(people, 1, 99);
        needRange(delay, 0, 5);
        needSpace(storm.crowd.groupCount, MAX_GROUPS);
        needNoHourGone();
        again.crowd.settleGroup(cell, people, delay);
        return storm.crowd.settleGroup(cell, people, delay);
    }

    public int addShelter(int cell, int room)
            throws IndexOutOfBoundsException, IllegalArgumentException, IllegalStateException {
        needNumber(cell, CELLS);
        needRange(room, 1, 500);
        needSpace(storm.crowd.shelterCount, MAX_SHELTERS);
        needNoHourGone();
        again.crowd.buildShelter(cell, room);
        return storm.crowd.buildShelter(cell, room);
    }

    // ---- choices

    public boolean turn(int pump, boolean isOn) throws IndexOutOfBoundsException, IllegalStateException {
        needNumber(pump, storm.works.pumpCount);
        needChoiceLeft();
        boolean before = storm.works.isOn[pump];
        choose(TURN, pump, isOn ? 1 : 0);
        return before;
    }

    public int raise(int dike, int by)
            throws IndexOutOfBoundsException, IllegalArgumentException,
            UnsupportedOperationException, IllegalStateException {
        needNumber(dike, storm.flood.dikeCount);
        needRange(by, 1, 10);
        needPossible(RAISE, dike, by);
        needChoiceLeft();
        choose(RAISE, dike, by);
        return storm.flood.dikes[dike].crest;
    }

    public int cut(int dike)
            throws IndexOutOfBoundsException, UnsupportedOperationException, IllegalStateException {
        needNumber(dike, storm.flood.dikeCount);
        needPossible(BREACH, dike, 0);
        needChoiceLeft();
        choose(BREACH, dike, 0);
        return storm.flood.dikes[dike].wear;
    }

    public boolean open(int shelter, boolean isOpen) throws IndexOutOfBoundsException, IllegalStateException {
        needNumber(shelter, storm.crowd.shelterCount);
        needChoiceLeft();
        boolean before = storm.crowd.shelters[shelter].isOpen;
        choose(OPEN, shelter, isOpen ? 1 : 0);
        return before;
    }

    public int warn(int group)
            throws IndexOutOfBoundsException, UnsupportedOperationException, IllegalStateException {
        needNumber(group, storm.crowd.groupCount);
        needPossible(WARN, group, 0);
        needChoiceLeft();
        choose(WARN, group, 0);
        return storm.crowd.groups[group].warnedFor;
    }

    // ---- the storm

    public int pass(int hours) throws IllegalArgumentException, IllegalStateException {
        needRange(hours, 1, HOURS);
        if (storm.hour + hours > HOURS) {
            throw new IllegalStateException("the hour would be above 48");
        }
        for (int i = 0; i < hours; i++) {
            storm.goThroughHour();
        }
        return storm.hour;
    }

    public int hour() {
        return storm.hour;
    }

    public int water(int cell) throws IndexOutOfBoundsException {
        needNumber(cell, CELLS);
        return storm.flood.water[cell];
    }

    public int level(int cell) throws IndexOutOfBoundsException {
        needNumber(cell, CELLS);
        int told = storm.hour < HOURS ? storm.hour : HOURS - 1;
        return storm.flood.levelIn(cell, told);
    }

    public char dike(int dike) throws IndexOutOfBoundsException {
        needNumber(dike, storm.flood.dikeCount);
        return storm.flood.dikes[dike].how;
    }

    public int brokenAt(int dike) throws IndexOutOfBoundsException, NoSuchElementException {
        needNumber(dike, storm.flood.dikeCount);
        if (storm.flood.dikes[dike].how == STANDS) {
            throw new NoSuchElementException("the dike is not broken");
        }
        return storm.flood.dikes[dike].brokenAt;
    }

    public int wear(int dike) throws IndexOutOfBoundsException {
        needNumber(dike, storm.flood.dikeCount);
        return storm.flood.dikes[dike].wear;
    }

    public boolean hasPower(int station) throws IndexOutOfBoundsException {
        needNumber(station, storm.works.stationCount);
        return storm.works.hasPower[station];
    }

    public int newsAt(int sensor) throws IndexOutOfBoundsException, NoSuchElementException {
        needNumber(sensor, storm.works.sensorCount);
        if (storm.works.newsAt[sensor] == NONE) {
            throw new NoSuchElementException("the sensor has noticed nothing");
        }
        return storm.works.newsAt[sensor];
    }

    public boolean isKnown() {
        return storm.works.hasNewsBy(storm.hour);
    }

    // ---- people

    public int cellOf(int group) throws IndexOutOfBoundsException {
        needNumber(group, storm.crowd.groupCount);
        return storm.crowd.groups[group].cell;
    }

    public int people(int group) throws IndexOutOfBoundsException {
        needNumber(group, storm.crowd.groupCount);
        return storm.crowd.groups[group].people;
    }

    public char state(int group) throws IndexOutOfBoundsException {
        needNumber(group, storm.crowd.groupCount);
        Group asked = storm.crowd.groups[group];
        return asked.people == 0 ? NOBODY_LEFT : asked.stage;
    }

    public int inShelter(int shelter) throws IndexOutOfBoundsException {
        needNumber(shelter, storm.crowd.shelterCount);
        return storm.crowd.shelters[shelter].inside;
    }

    public int harm() {
        return storm.crowd.lost;
    }

    public char reason(int group) throws IndexOutOfBoundsException, NoSuchElementException {
        needNumber(group, storm.crowd.groupCount);
        if (storm.crowd.groups[group].reason == NOBODY_LOST) {
            throw new NoSuchElementException("nobody of the group was lost");
        }
        return storm.crowd.groups[group].reason;
    }

    // ---- the inquiry

    public int choices() {
        return madeCount;
    }

    public int choiceHour(int choice) throws IndexOutOfBoundsException {
        needNumber(choice, madeCount);
        return made[choice].hour;
    }

    public int harmWithout(int choice) throws IndexOutOfBoundsException {
        needNumber(choice, madeCount);
        if (made[choice].askedAt != storm.hour) {
            runAgainWithout(choice);
        }
        return made[choice].lostWithout;
    }

    public int worst() throws NoSuchElementException {
        int fewest = storm.crowd.lost;
        int worst = NONE;
        for (int i = 0; i < madeCount; i++) {
            if (made[i].askedAt != storm.hour) {
                runAgainWithout(i);
            }
            if (made[i].lostWithout < fewest) {
                fewest = made[i].lostWithout;
                worst = i;
            }
        }
        if (worst == NONE) {
            throw new NoSuchElementException("without no choice fewer would have been lost");
        }
        return worst;
    }

    public long come() {
        return storm.flood.come;
    }

    public long gone() {
        return storm.flood.gone;
    }

    public float wetShare() throws ArithmeticException {
        int land = countLand();
        if (land == 0) {
            throw new ArithmeticException("there is no land");
        }
        int wet = 0;
        for (int cell = 0; cell < CELLS; cell++) {
            if (storm.flood.water[cell] > 0) {
                wet++;
            }
        }
        return (float) wet / (float) land;
    }

    public double meanWater() throws ArithmeticException {
        int land = countLand();
        if (land == 0) {
            throw new ArithmeticException("there is no land");
        }
        return (double) storm.flood.waterOnLand() / (double) land;
    }

    public boolean isConsistent() {
        runAgainWithout(NONE);
        return storm.flood.waterOnLand() == storm.flood.come - storm.flood.gone
                && storm.crowd.hasLeftNobodyOut()
                && storm.crowd.hasKeptToRooms()
                && storm.comesToTheSameAs(again);
    }

    // ---- what the calls share

    private static void needNumber(int number, int count) {
        if (number < 0 || number >= count) {
            throw new IndexOutOfBoundsException("there is no such number");
        }
    }

    private static void needNeighbour(int cell, boolean isLower) {
        if (isLower ? cell >= CELLS - SIDE : cell % SIDE == SIDE - 1) {
            throw new IndexOutOfBoundsException("there is no such neighbour");
        }
    }

    private static void needRange(int number, int least, int most) {
        if (number < least || number > most) {
            throw new IllegalArgumentException("a number is out of range");
        }
    }

    private static void needSpace(int count, int most) {
        if (count >= most) {
            throw new IllegalStateException("there are as many as there can be");
        }
    }

    private void needNoHourGone() {
        if (storm.hour > 0) {
            throw new IllegalStateException("an hour has gone by");
        }
    }

    private void needPossible(int kind, int number, int by) {
        if (!storm.canDo(kind, number, by)) {
            throw new UnsupportedOperationException("this cannot be done now");
        }
    }

    private void needChoiceLeft() {
        needSpace(madeCount, MAX_CHOICES);
    }

    private void choose(int kind, int number, int by) {
        if (madeCount < MAX_CHOICES) {
            made[madeCount].write(storm.hour, kind, number, by);
            madeCount++;
            storm.carryOut(kind, number, by);
        }
    }

    /** The answer is kept: what is chosen in the present hour acts later, so it holds until an hour goes by. */
    private void runAgainWithout(int leftOut) {
        again.begin();
        int next = 0;
        for (int hour = 0; hour <= storm.hour; hour++) {
            while (next < madeCount && made[next].hour == hour) {
                if (next != leftOut) {
                    again.redo(made[next]);
                }
                next++;
            }
            if (hour < storm.hour) {
                again.goThroughHour();
            }
        }
        if (leftOut != NONE) {
            made[leftOut].askedAt = storm.hour;
            made[leftOut].lostWithout = again.crowd.lost;
        }
    }

    private int countLand() {
        int land = 0;
        for (int cell = 0; cell < CELLS; cell++) {
            if (!coast.isSea[cell]) {
                land++;
            }
        }
        return land;
    }

    /** What was told ahead of the storm; it is the same for each run of it. */
    private static final class Coast {
        final int[] ground = new int[CELLS];
        final boolean[] isSea = new boolean[CELLS];
        final int[] seaLevel = new int[HOURS];
        final int[] rain = new int[HOURS];
    }

    /** A choice as it was written down. */
    private static final class Choice {
        int hour;
        int kind;
        int number;
        int by;
        int askedAt;
        int lostWithout;

        void write(int hourNow, int itsKind, int itsNumber, int itsBy) {
            hour = hourNow;
            kind = itsKind;
            number = itsNumber;
            by = itsBy;
            askedAt = NONE;
            lostWithout = 0;
        }
    }

    /** One run of the storm over the coast. */
    private static final class Storm {
        final Flood flood;
        final Works works;
        final Crowd crowd;
        int hour;

        Storm(Coast coast) {
            flood = new Flood(coast);
            works = new Works();
            crowd = new Crowd(coast);
            hour = 0;
        }

        void begin() {
            flood.begin();
            works.begin();
            crowd.begin();
            hour = 0;
        }

        void goThroughHour() {
            flood.rainDown(hour);
            flood.flowAll(hour);
            flood.wearDikes(hour);
            works.losePower(flood.water);
            flood.gone += works.pumpAway(flood.water);
            works.notice(flood.water, hour);
            boolean isKnown = works.hasNewsBy(hour);
            crowd.beginHour(flood.water);
            for (int i = 0; i < crowd.groupCount; i++) {
                Group group = crowd.groups[i];
                crowd.act(group, flood.water[group.cell], hour, isKnown);
            }
            hour++;
        }

        boolean canDo(int kind, int number, int by) {
            switch (kind) {
                case RAISE:
                    return flood.dikes[number].how == STANDS && flood.dikes[number].crest + by <= MAX_CREST;
                case BREACH:
                    return flood.dikes[number].how == STANDS;
                case WARN:
                    return works.hasNewsBy(hour) && crowd.groups[number].canBeWarned();
                default:
                    return true;
            }
        }

        void carryOut(int kind, int number, int by) {
            switch (kind) {
                case TURN:
                    works.isOn[number] = by == 1;
                    break;
                case RAISE:
                    flood.dikes[number].crest += by;
                    break;
                case BREACH:
                    flood.dikes[number].breakBy(CUT, hour);
                    break;
                case OPEN:
                    crowd.shelters[number].isOpen = by == 1;
                    break;
                case WARN:
                    crowd.groups[number].sendWarning(hour);
                    break;
                default:
                    break;
            }
        }

        void redo(Choice choice) {
            if (canDo(choice.kind, choice.number, choice.by)) {
                carryOut(choice.kind, choice.number, choice.by);
            }
        }

        boolean comesToTheSameAs(Storm other) {
            return hour == other.hour
                    && flood.comesToTheSameAs(other.flood)
                    && works.comesToTheSameAs(other.works)
                    && crowd.comesToTheSameAs(other.crowd);
        }
    }

    /** A dike; its place is twice the cell above or left of it, and 1 more for one to the lower neighbour. */
    private static final class Dike {
        int place;
        int firstCrest;
        int strength;
        int crest;
        int wear;
        char how;
        int brokenAt;

        void build(int itsPlace, int itsCrest, int itsStrength) {
            place = itsPlace;
            firstCrest = itsCrest;
            strength = itsStrength;
            begin();
        }

        void begin() {
            crest = firstCrest;
            wear = 0;
            how = STANDS;
            brokenAt = NONE;
        }

        void wearBy(int more, char cause, int hour) {
            wear += more;
            if (wear >= strength) {
                breakBy(cause, hour);
            }
        }

        void breakBy(char cause, int hour) {
            how = cause;
            brokenAt = hour;
        }

        boolean comesToTheSameAs(Dike other) {
            return crest == other.crest && wear == other.wear
                    && how == other.how && brokenAt == other.brokenAt;
        }
    }

    /** The water on the coast, and the dikes that hold it. */
    private static final class Flood {
        final Coast coast;
        final int[] water = new int[CELLS];
        final int[] levels = new int[CELLS];
        final int[] change = new int[CELLS];
        final int[] flows = new int[2 * CELLS];
        final int[] dikeAt = new int[2 * CELLS];
        final Dike[] dikes = new Dike[MAX_DIKES];
        int dikeCount;
        long come;
        long gone;

        Flood(Coast itsCoast) {
            coast = itsCoast;
            Arrays.fill(dikeAt, NONE);
            for (int i = 0; i < MAX_DIKES; i++) {
                dikes[i] = new Dike();
            }
        }

        int buildDike(int place, int crest, int strength) {
            int number = dikeCount;
            dikes[number].build(place, crest, strength);
            dikeAt[place] = number;
            dikeCount++;
            return number;
        }

        void begin() {
            Arrays.fill(water, 0);
            for (int i = 0; i < dikeCount; i++) {
                dikes[i].begin();
            }
            come = 0;
            gone = 0;
        }

        int levelIn(int cell, int hour) {
            int ground = coast.ground[cell];
            if (!coast.isSea[cell]) {
                return ground + water[cell];
            }
            int sea = coast.seaLevel[hour];
            return sea > ground ? sea : ground;
        }

        void rainDown(int hour) {
            int rain = coast.rain[hour];
            for (int cell = 0; cell < CELLS; cell++) {
                if (!coast.isSea[cell]) {
                    water[cell] += rain;
                    come += rain;
                }
            }
        }

        void flowAll(int hour) {
            Arrays.fill(change, 0);
            for (int cell = 0; cell < CELLS; cell++) {
                levels[cell] = levelIn(cell, hour);
            }
            for (int cell = 0; cell < CELLS; cell++) {
                if (cell % SIDE < SIDE - 1) {
                    flowBetween(cell, cell + 1, 2 * cell);
                }
                if (cell < CELLS - SIDE) {
                    flowBetween(cell, cell + SIDE, 2 * cell + 1);
                }
            }
            for (int cell = 0; cell < CELLS; cell++) {
                water[cell] += change[cell];
            }
        }

        private void flowBetween(int cell, int other, int place) {
            int high = levels[cell] > levels[other] ? cell : other;
            int low = high == cell ? other : cell;
            int flow = flowDown(high, low, between(cell, other, place));
            flows[place] = flow;
            if (coast.isSea[high]) {
                come += flow;
            } else {
                change[high] -= flow;
            }
            if (coast.isSea[low]) {
                gone += flow;
            } else {
                change[low] += flow;
            }
        }

        private int between(int cell, int other, int place) {
            int height = coast.ground[cell] > coast.ground[other] ? coast.ground[cell] : coast.ground[other];
            int number = dikeAt[place];
            if (number != NONE && dikes[number].how == STANDS && dikes[number].crest > height) {
                return dikes[number].crest;
            }
            return height;
        }

        /** Its own ground stands between too: so land gives a quarter of its water at most, and sea nothing to sea. */
        private int flowDown(int high, int low, int height) {
            int floor = levels[low] > height ? levels[low] : height;
            return levels[high] > floor ? (levels[high] - floor) / 4 : 0;
        }

        void wearDikes(int hour) {
            for (int i = 0; i < dikeCount; i++) {
                if (dikes[i].how == STANDS) {
                    wearDike(dikes[i], hour);
                }
            }
        }

        private void wearDike(Dike dike, int hour) {
            int cell = dike.place / 2;
            int other = dike.place % 2 == 1 ? cell + SIDE : cell + 1;
            int apart = Math.abs(levels[cell] - levels[other]);
            if (flows[dike.place] >= 1) {
                dike.wearBy(flows[dike.place], OVERFLOWED, hour);
            } else if (apart > dike.strength / 2) {
                dike.wearBy(1, PRESSED, hour);
            }
        }

        long waterOnLand() {
            long sum = 0;
            for (int cell = 0; cell < CELLS; cell++) {
                sum += water[cell];
            }
            return sum;
        }

        boolean comesToTheSameAs(Flood other) {
            for (int cell = 0; cell < CELLS; cell++) {
                if (water[cell] != other.water[cell]) {
                    return false;
                }
            }
            for (int i = 0; i < dikeCount; i++) {
                if (!dikes[i].comesToTheSameAs(other.dikes[i])) {
                    return false;
                }
            }
            return come == other.come && gone == other.gone;
        }
    }

    /** The stations, and the pumps and sensors that have their power from them. */
    private static final class Works {
        final int[] stationCell = new int[MAX_STATIONS];
        final boolean[] hasPower = new boolean[MAX_STATIONS];
        int stationCount;
        final int[] pumpCell = new int[MAX_PUMPS];
        final int[] pumpRate = new int[MAX_PUMPS];
        final int[] pumpStation = new int[MAX_PUMPS];
        final boolean[] isOn = new boolean[MAX_PUMPS];
        int pumpCount;
        final int[] sensorCell = new int[MAX_SENSORS];
        final int[] sensorDepth = new int[MAX_SENSORS];
        final int[] sensorDelay = new int[MAX_SENSORS];
        final int[] sensorStation = new int[MAX_SENSORS];
        final int[] newsAt = new int[MAX_SENSORS];
        int sensorCount;

        int buildStation(int cell) {
            int number = stationCount;
            stationCell[number] = cell;
            hasPower[number] = true;
            stationCount++;
            return number;
        }

        int buildPump(int cell, int rate, int station) {
            int number = pumpCount;
            pumpCell[number] = cell;
            pumpRate[number] = rate;
            pumpStation[number] = station;
            pumpCount++;
            return number;
        }

        int buildSensor(int cell, int depth, int delay, int station) {
            int number = sensorCount;
            sensorCell[number] = cell;
            sensorDepth[number] = depth;
            sensorDelay[number] = delay;
            sensorStation[number] = station;
            newsAt[number] = NONE;
            sensorCount++;
            return number;
        }

        void begin() {
            for (int i = 0; i < stationCount; i++) {
                hasPower[i] = true;
            }
            for (int i = 0; i < pumpCount; i++) {
                isOn[i] = false;
            }
            for (int i = 0; i < sensorCount; i++) {
                newsAt[i] = NONE;
            }
        }

        void losePower(int[] water) {
            for (int i = 0; i < stationCount; i++) {
                if (water[stationCell[i]] > 3) {
                    hasPower[i] = false;
                }
            }
        }

        int pumpAway(int[] water) {
            int sum = 0;
            for (int i = 0; i < pumpCount; i++) {
                if (isOn[i] && hasPower[pumpStation[i]]) {
                    int there = water[pumpCell[i]];
                    int taken = there < pumpRate[i] ? there : pumpRate[i];
                    water[pumpCell[i]] = there - taken;
                    sum += taken;
                }
            }
            return sum;
        }

        void notice(int[] water, int hour) {
            for (int i = 0; i < sensorCount; i++) {
                if (newsAt[i] == NONE && hasPower[sensorStation[i]] && water[sensorCell[i]] >= sensorDepth[i]) {
                    newsAt[i] = hour + sensorDelay[i];
                }
            }
        }

        boolean hasNewsBy(int hour) {
            for (int i = 0; i < sensorCount; i++) {
                if (newsAt[i] != NONE && newsAt[i] <= hour) {
                    return true;
                }
            }
            return false;
        }

        boolean comesToTheSameAs(Works other) {
            for (int i = 0; i < stationCount; i++) {
                if (hasPower[i] != other.hasPower[i]) {
                    return false;
                }
            }
            for (int i = 0; i < pumpCount; i++) {
                if (isOn[i] != other.isOn[i]) {
                    return false;
                }
            }
            for (int i = 0; i < sensorCount; i++) {
                if (newsAt[i] != other.newsAt[i]) {
                    return false;
                }
            }
            return true;
        }
    }

    /** A group of people, and where its warning is. */
    private static final class Group {
        int home;
        int firstPeople;
        int delay;
        int cell;
        int people;
        char stage;
        int warnedFor;
        char reason;

        void settle(int itsHome, int itsPeople, int itsDelay) {
            home = itsHome;
            firstPeople = itsPeople;
            delay = itsDelay;
            begin();
        }

        void begin() {
            cell = home;
            people = firstPeople;
            stage = AT_HOME;
            warnedFor = NONE;
            reason = NOBODY_LOST;
        }

        boolean isAtRisk() {
            return people > 0 && stage != SAFE;
        }

        /** Returns how many it loses. */
        int lose(int waterHere) {
            float sixteenth = (float) (waterHere - 9) / 16f;
            int fewer = (int) ((float) people * sixteenth);
            if (fewer < 1) {
                fewer = 1;
            }
            if (fewer > people) {
                fewer = people;
            }
            people -= fewer;
            return fewer;
        }

        boolean canBeWarned() {
            return stage == AT_HOME && people > 0;
        }

        void sendWarning(int hour) {
            stage = WARNED;
            warnedFor = hour + delay;
        }

        void hearWarning(int waterHere) {
            stage = waterHere >= 5 ? AT_HOME : ON_ITS_WAY;
            warnedFor = NONE;
        }

        boolean comesToTheSameAs(Group other) {
            return cell == other.cell && people == other.people && stage == other.stage
                    && warnedFor == other.warnedFor && reason == other.reason;
        }
    }

    /** A shelter, and how many people are in it. */
    private static final class Shelter {
        int cell;
        int room;
        boolean isOpen;
        int inside;

        void build(int itsCell, int itsRoom) {
            cell = itsCell;
            room = itsRoom;
            begin();
        }

        void begin() {
            isOpen = false;
            inside = 0;
        }

        boolean takes(int people) {
            return isOpen && room - inside >= people;
        }
    }

    /** The groups, the shelters that they go to, and how many people were lost. */
    private static final class Crowd {
        final Ways ways;
        final Group[] groups = new Group[MAX_GROUPS];
        int groupCount;
        final Shelter[] shelters = new Shelter[MAX_SHELTERS];
        int shelterCount;
        final int[] goneOnto = new int[CELLS];
        int lost;

        Crowd(Coast coast) {
            ways = new Ways(coast.isSea);
            for (int i = 0; i < MAX_GROUPS; i++) {
                groups[i] = new Group();
            }
            for (int i = 0; i < MAX_SHELTERS; i++) {
                shelters[i] = new Shelter();
            }
        }

        int settleGroup(int cell, int people, int delay) {
            int number = groupCount;
            groups[number].settle(cell, people, delay);
            groupCount++;
            return number;
        }

        int buildShelter(int cell, int room) {
            int number = shelterCount;
            shelters[number].build(cell, room);
            shelterCount++;
            return number;
        }

        void begin() {
            for (int i = 0; i < groupCount; i++) {
                groups[i].begin();
            }
            for (int i = 0; i < shelterCount; i++) {
                shelters[i].begin();
            }
            lost = 0;
        }

        void beginHour(int[] water) {
            Arrays.fill(goneOnto, 0);
            ways.lookWhereDry(water);
        }

        void act(Group group, int waterHere, int hour, boolean isKnown) {
            if (group.isAtRisk() && waterHere >= 10) {
                if (group.reason == NOBODY_LOST) {
                    group.reason = reasonNow(group, isKnown);
                }
                lost += group.lose(waterHere);
            }
            if (group.isAtRisk() && group.stage == WARNED && group.warnedFor == hour) {
                group.hearWarning(waterHere);
            }
            if (group.isAtRisk() && group.stage == ON_ITS_WAY) {
                goOn(group);
            }
        }

        private char reasonNow(Group group, boolean isKnown) {
            if (!isKnown) {
                return 'k';
            }
            if (group.stage == AT_HOME) {
                return 'w';
            }
            if (group.stage == WARNED) {
                return 'a';
            }
            if (!isTakenAnywhere(group.people)) {
                return 's';
            }
            if (shelterHere(group) == NONE && nextCell(group, CELLS) == NONE) {
                return 'r';
            }
            return 'd';
        }

        private boolean isTakenAnywhere(int people) {
            for (int i = 0; i < shelterCount; i++) {
                if (shelters[i].takes(people)) {
                    return true;
                }
            }
            return false;
        }

        private int shelterHere(Group group) {
            for (int i = 0; i < shelterCount; i++) {
                if (shelters[i].cell == group.cell && shelters[i].takes(group.people)) {
                    return i;
                }
            }
            return NONE;
        }

        private void goOn(Group group) {
            int here = shelterHere(group);
            if (here != NONE) {
                shelters[here].inside += group.people;
                group.stage = SAFE;
                return;
            }
            int next = nextCell(group, 4);
            if (next != NONE) {
                group.cell = next;
                goneOnto[next]++;
            }
        }

        /** Only a nearer one takes the place of an earlier one, so the lowest numbers win. */
        private int nextCell(Group group, int fewerThan) {
            int best = NONE;
            int least = CELLS;
            for (int i = 0; i < shelterCount; i++) {
                if (shelters[i].takes(group.people)) {
                    ways.measure(shelters[i].cell, group.cell);
                    for (int side = 0; side < 4; side++) {
                        int next = ways.neighbours[4 * group.cell + side];
                        if (next != NONE && ways.distance[next] < least && goneOnto[next] < fewerThan) {
                            least = ways.distance[next];
                            best = next;
                        }
                    }
                }
            }
            return best;
        }

        /** Those who are safe are counted by the shelters, the others by their groups. */
        boolean hasLeftNobodyOut() {
            int there = 0;
            int now = lost;
            for (int i = 0; i < groupCount; i++) {
                there += groups[i].firstPeople;
                if (groups[i].stage != SAFE) {
                    now += groups[i].people;
                }
            }
            for (int i = 0; i < shelterCount; i++) {
                now += shelters[i].inside;
            }
            return now == there;
        }

        boolean hasKeptToRooms() {
            for (int i = 0; i < shelterCount; i++) {
                if (shelters[i].inside > shelters[i].room) {
                    return false;
                }
            }
            return true;
        }

        boolean comesToTheSameAs(Crowd other) {
            for (int i = 0; i < groupCount; i++) {
                if (!groups[i].comesToTheSameAs(other.groups[i])) {
                    return false;
                }
            }
            for (int i = 0; i < shelterCount; i++) {
                if (shelters[i].isOpen != other.shelters[i].isOpen
                        || shelters[i].inside != other.shelters[i].inside) {
                    return false;
                }
            }
            return lost == other.lost;
        }
    }

    /** How far the dry land cells are from a shelter. */
    private static final class Ways {
        final boolean[] isSea;
        final boolean[] isDry = new boolean[CELLS];
        final int[] neighbours = new int[4 * CELLS];
        final int[] distance = new int[CELLS];
        final int[] reached = new int[CELLS];

        /** The neighbours of a cell stand by their numbers, the lowest first. */
        Ways(boolean[] itsIsSea) {
            isSea = itsIsSea;
            for (int cell = 0; cell < CELLS; cell++) {
                neighbours[4 * cell] = cell >= SIDE ? cell - SIDE : NONE;
                neighbours[4 * cell + 1] = cell % SIDE > 0 ? cell - 1 : NONE;
                neighbours[4 * cell + 2] = cell % SIDE < SIDE - 1 ? cell + 1 : NONE;
                neighbours[4 * cell + 3] = cell < CELLS - SIDE ? cell + SIDE : NONE;
            }
        }

        void lookWhereDry(int[] water) {
            for (int cell = 0; cell < CELLS; cell++) {
                isDry[cell] = !isSea[cell] && water[cell] <= 2;
            }
        }

        /** A cell that no way reaches is as far as CELLS, farther than any other one can be. */
        void measure(int goal, int without) {
            for (int cell = 0; cell < CELLS; cell++) {
                distance[cell] = CELLS;
            }
            if (goal == without || !isDry[goal]) {
                return;
            }
            distance[goal] = 0;
            reached[0] = goal;
            int count = 1;
            for (int i = 0; i < count && i < CELLS; i++) {
                int cell = reached[i];
                for (int side = 0; side < 4; side++) {
                    int next = neighbours[4 * cell + side];
                    if (next != NONE && next != without && distance[next] == CELLS && isDry[next] && count < CELLS) {
                        distance[next] = distance[cell] + 1;
                        reached[count] = next;
                        count++;
                    }
                }
            }
        }
    }
}
