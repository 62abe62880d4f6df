/** A bumps chart: what each call promises stands in the document; how the parts work together, in README.md. */
public final class BumpsChart {
    public static final int INVALID_ARGUMENT = -1001;
    public static final int NOT_POSSIBLE = -1002;
    public static final int LIMIT_REACHED = -1003;
    public static final int NOT_FOUND = -1004;

    private static final int MOST_CREWS = 24;
    private static final int MOST_DAYS = 6;
    private static final int MOST_STARTERS = 9;
    private static final int MOST_BUMPS = 4;
    // a day has 16 bumps at the most: 8 races of 4 starters, or 4 races of up to 9
    private static final int MOST_LOGGED = 96;
    private static final int MOST_STATES = 4;
    private static final int MOST_SIGNS = 80;
    private static final int MOST_SPEED = 1000;
    private static final int MOST_TIME = 1000;

    private static final int NO_CREW = -1;
    private static final int NO_RACE = -1;
    private static final int NO_STARTER = -1;

    private static final int REASON_FORM = 1;
    private static final int REASON_NO_STARTER = 2;
    private static final int REASON_OUT = 3;
    private static final int REASON_NOT_BEHIND = 4;
    private static final int REASON_BETWEEN = 5;

    private final Chart now = new Chart();
    private final History history = new History();
    private final Forecast forecast = new Forecast();
    private final Script script = new Script();

    public BumpsChart() {
        now.startAnew(12, 4, 4);
    }

    // ---- crews

    public int begin(int crews, int size, int days) {
        if (crews < 2 || crews > MOST_CREWS || size < 3 || size > 8 || days < 1 || days > MOST_DAYS) {
            return INVALID_ARGUMENT;
        }
        history.keep(now);
        now.startAnew(crews, size, days);
        return now.divisions();
    }

    public int setSpeed(int crew, int speed) {
        if (!now.hasCrew(crew) || speed < 1 || speed > MOST_SPEED) {
            return INVALID_ARGUMENT;
        }
        history.keep(now);
        int previous = now.speeds.get(crew);
        now.speeds.put(crew, speed);
        return previous;
    }

    public int set(int what, int value) {
        if (what == 0 && value >= 100 && value <= 5000) {
            history.keep(now);
            int previous = now.gap;
            now.gap = value;
            return previous;
        }
        if (what == 1 && value >= 1 && value <= 1000) {
            history.keep(now);
            int previous = now.raceLength;
            now.raceLength = value;
            return previous;
        }
        return INVALID_ARGUMENT;
    }

    public int count(int what) {
        switch (what) {
            case 0: return now.crews;
            case 1: return now.size;
            case 2: return now.divisions();
            case 3: return now.days;
            case 4: return now.daysOver;
            case 5: return now.hasRace() ? now.division : NOT_FOUND;
            case 6: return now.hasRace() ? now.race.made : NOT_FOUND;
            case 7: return now.hasRace() ? now.starters() : NOT_FOUND;
            case 8: return now.gap;
            case 9: return now.raceLength;
            case 10: return history.kept;
            case 11: return script.length;
            case 12: return now.order.get(0);
            default: return INVALID_ARGUMENT;
        }
    }

    public int crew(int crew, int what) {
        if (!now.hasCrew(crew)) {
            return INVALID_ARGUMENT;
        }
        switch (what) {
            case 0: return now.speeds.get(crew);
            case 1: return now.places.get(crew);
            case 2: return now.divisionOf(crew);
            case 3: return now.isStarter(crew) ? now.startNumber(crew) : NOT_FOUND;
            case 4: return now.isStarter(crew) ? outFlag(crew) : NOT_FOUND;
            case 5: return now.daysRisen(crew);
            case 6: return now.daysFallen(crew);
            case 7: return now.award(crew);
            case 8: return now.log.madeBy(crew);
            case 9: return now.log.madeOn(crew);
            default: return INVALID_ARGUMENT;
        }
    }

    private int outFlag(int crew) {
        return now.race.isOut(crew) ? 1 : 0;
    }

    public int at(int place) {
        return place >= 0 && place < now.crews ? now.order.get(place) : INVALID_ARGUMENT;
    }

    // ---- races

    public int starter(int index) {
        if (index < 0) {
            return INVALID_ARGUMENT;
        }
        return index < now.starters() ? now.starterAt(index) : NOT_FOUND;
    }

    public int bump(int a, int b) {
        if (!now.hasCrew(a) || !now.hasCrew(b)) {
            return INVALID_ARGUMENT;
        }
        if (now.reasonAgainst(now.race, a, b) != 0) {
            return NOT_POSSIBLE;
        }
        history.keep(now);
        now.race.add(a, b);
        return now.race.made - 1;
    }

    public int why(int a, int b) {
        if (!now.hasCrew(a) || !now.hasCrew(b)) {
            return INVALID_ARGUMENT;
        }
        return now.reasonAgainst(now.race, a, b);
    }

    public int bumped(int bump, int what) {
        if (!now.race.has(bump)) {
            return INVALID_ARGUMENT;
        }
        switch (what) {
            case 0: return now.race.ups.get(bump);
            case 1: return now.race.downs.get(bump);
            case 2: return now.span(bump) - 1;
            default: return INVALID_ARGUMENT;
        }
    }

    public int rerow(int bump) {
        if (!now.race.has(bump)) {
            return INVALID_ARGUMENT;
        }
        history.keep(now);
        int taken = now.withThoseThatNeed(bump);
        now.race.takeBack(taken);
        return Integer.bitCount(taken);
    }

    public int finish() {
        if (!now.hasRace()) {
            return NOT_POSSIBLE;
        }
        history.keep(now);
        return now.endRace();
    }

    public int undo() {
        Chart latest = history.latest();
        if (latest == null) {
            return NOT_POSSIBLE;
        }
        now.copyFrom(latest);
        history.dropLatest();
        return history.kept;
    }

    // ---- foretelling

    public int foretold(int index, int what) {
        if (index < 0 || what < 0 || what > 2) {
            return INVALID_ARGUMENT;
        }
        forecast.foretell(now);
        if (index >= forecast.found) {
            return NOT_FOUND;
        }
        switch (what) {
            case 0: return now.starterAt(forecast.ups.get(index));
            case 1: return now.starterAt(forecast.downs.get(index));
            default: return floatBits((float) forecast.timeOf(index));
        }
    }

    public int row() {
        if (!now.hasRace() || now.race.made > 0) {
            return NOT_POSSIBLE;
        }
        history.keep(now);
        forecast.foretell(now);
        for (int i = 0; i < forecast.found; i++) {
            now.race.add(now.starterAt(forecast.ups.get(i)), now.starterAt(forecast.downs.get(i)));
        }
        return now.endRace();
    }

    public int distanceBits(int index, int time) {
        if (index < 1 || time < 0 || time > MOST_TIME) {
            return INVALID_ARGUMENT;
        }
        if (index >= now.starters()) {
            return NOT_FOUND;
        }
        return floatBits((float) (now.position(index - 1, time) - now.position(index, time)));
    }

    public int speedFor(int crew) {
        if (!now.hasCrew(crew)) {
            return INVALID_ARGUMENT;
        }
        int number = now.startNumber(crew);
        // the first starter has nobody to bump
        if (number < 1) {
            return NOT_FOUND;
        }
        for (int speed = 1; speed <= MOST_SPEED; speed++) {
            forecast.foretellWith(now, crew, speed);
            if (forecast.hasUp(number)) {
                return speed;
            }
        }
        return NOT_FOUND;
    }

    /** The bits of a float of a size that times and distances have: 0, or far from the least and the greatest float. */
    private static int floatBits(float value) {
        if (value == 0.0f) {
            return 0;
        }
        float part = value < 0.0f ? -value : value;
        int exponent = 127;
        for (int step = 0; step < 127 && part >= 2.0f; step++) {
            part = part / 2.0f;
            exponent++;
        }
        for (int step = 0; step < 126 && part < 1.0f; step++) {
            part = part * 2.0f;
            exponent--;
        }
        int fraction = (int) ((part - 1.0f) * 8388608.0f);
        int bits = (exponent << 23) | fraction;
        return value < 0.0f ? bits | (1 << 31) : bits;
    }

    // ---- chart

    public int place(int crew, int day) {
        return now.hasCrew(crew) && now.hasDay(day) ? now.placeAfter(crew, day) : INVALID_ARGUMENT;
    }

    public int again(int crew, int day) {
        return now.hasCrew(crew) && now.hasDay(day) ? now.log.follow(crew, day) : INVALID_ARGUMENT;
    }

    public int bestRise() {
        return now.daysOver > 0 ? now.bestRiser() : NOT_FOUND;
    }

    // ---- texts

    public int type(int character) {
        if (character < 32 || character > 126) {
            return INVALID_ARGUMENT;
        }
        if (script.length >= MOST_SIGNS) {
            return LIMIT_REACHED;
        }
        script.append(character);
        return script.length;
    }

    public int clearText() {
        int previous = script.length;
        script.length = 0;
        return previous;
    }

    public int fault(int what) {
        if (what < 0 || what > 1) {
            return INVALID_ARGUMENT;
        }
        script.check(now);
        if (script.reason == 0) {
            return NOT_FOUND;
        }
        return what == 0 ? script.faultAt : script.reason;
    }

    public int enter() {
        script.check(now);
        if (script.reason != 0) {
            return NOT_POSSIBLE;
        }
        history.keep(now);
        now.race.copyFrom(script.trial);
        return script.bumps;
    }

    /** A row of numbers, each index of which is tested; what stands outside it reads as 0. */
    private static final class Cells {
        private final int[] cells;

        Cells(int length) {
            cells = new int[length < 0 ? 0 : length];
        }

        int get(int index) {
            return index >= 0 && index < cells.length ? cells[index] : 0;
        }

        void put(int index, int value) {
            if (index >= 0 && index < cells.length) {
                cells[index] = value;
            }
        }

        void copyFrom(Cells other) {
            System.arraycopy(other.cells, 0, cells, 0, Math.min(other.cells.length, cells.length));
        }
    }

    /** The bumps of one race, in the order in which they were made. */
    private static final class Race {
        final Cells ups = new Cells(MOST_BUMPS);
        final Cells downs = new Cells(MOST_BUMPS);
        int made;

        boolean has(int bump) {
            return bump >= 0 && bump < made;
        }

        void add(int up, int down) {
            if (made < MOST_BUMPS) {
                ups.put(made, up);
                downs.put(made, down);
                made++;
            }
        }

        boolean isOut(int crew) {
            for (int i = 0; i < made; i++) {
                if (ups.get(i) == crew || downs.get(i) == crew) {
                    return true;
                }
            }
            return false;
        }

        /** Takes back the bumps whose bits are set. */
        void takeBack(int taken) {
            int before = made;
            made = 0;
            for (int i = 0; i < before; i++) {
                if ((taken & (1 << i)) == 0) {
                    add(ups.get(i), downs.get(i));
                }
            }
        }

        void copyFrom(Race other) {
            ups.copyFrom(other.ups);
            downs.copyFrom(other.downs);
            made = other.made;
        }
    }

    /** The bumps of all finished races, in their order. */
    private static final class Log {
        private final Cells ofDay = new Cells(MOST_LOGGED);
        private final Cells ups = new Cells(MOST_LOGGED);
        private final Cells downs = new Cells(MOST_LOGGED);
        private final Cells spans = new Cells(MOST_LOGGED);
        private int logged;

        void empty() {
            logged = 0;
        }

        void add(int day, int up, int down, int span) {
            if (logged < MOST_LOGGED) {
                ofDay.put(logged, day);
                ups.put(logged, up);
                downs.put(logged, down);
                spans.put(logged, span);
                logged++;
            }
        }

        int madeBy(int crew) {
            return countOf(ups, crew);
        }

        int madeOn(int crew) {
            return countOf(downs, crew);
        }

        private int countOf(Cells crews, int crew) {
            int sum = 0;
            for (int i = 0; i < logged; i++) {
                sum += crews.get(i) == crew ? 1 : 0;
            }
            return sum;
        }

        /** The place of a crew after a day, from its bumps alone: on the day 0 its place is its own number. */
        int follow(int crew, int lastDay) {
            int place = crew;
            for (int i = 0; i < logged && ofDay.get(i) <= lastDay; i++) {
                if (ups.get(i) == crew) {
                    place -= spans.get(i);
                } else if (downs.get(i) == crew) {
                    place += spans.get(i);
                }
            }
            return place;
        }

        void copyFrom(Log other) {
            ofDay.copyFrom(other.ofDay);
            ups.copyFrom(other.ups);
            downs.copyFrom(other.downs);
            spans.copyFrom(other.spans);
            logged = other.logged;
        }
    }

    /** All that a state of the history records. */
    private static final class Chart {
        final Cells speeds = new Cells(MOST_CREWS);
        final Cells places = new Cells(MOST_CREWS);
        final Cells order = new Cells(MOST_CREWS);
        final Race race = new Race();
        final Log log = new Log();
        int crews;
        int size;
        int days;
        int daysOver;
        int division = NO_RACE;
        int gap = 1500;
        int raceLength = 300;
        private final Cells placesAfter = new Cells((MOST_DAYS + 1) * MOST_CREWS);

        void startAnew(int newCrews, int newSize, int newDays) {
            crews = newCrews;
            size = newSize;
            days = newDays;
            daysOver = 0;
            for (int i = 0; i < crews; i++) {
                speeds.put(i, 400);
                putAt(i, i);
            }
            notePlaces();
            race.made = 0;
            log.empty();
            division = divisions() - 1;
        }

        boolean hasCrew(int crew) {
            return crew >= 0 && crew < crews;
        }

        boolean hasDay(int day) {
            return day >= 0 && day <= daysOver;
        }

        boolean hasRace() {
            return division != NO_RACE;
        }

        int divisions() {
            return size > 0 ? (crews + size - 1) / size : 0;
        }

        int divisionOf(int crew) {
            return size > 0 ? places.get(crew) / size : 0;
        }

        private void putAt(int place, int crew) {
            order.put(place, crew);
            places.put(crew, place);
        }

        // the race

        /** How many starters the present race has, 0 if there is none; the sandwich crew is next to the last place. */
        int starters() {
            return hasRace() ? Math.min(size + 1, crews - division * size) : 0;
        }

        int starterAt(int number) {
            return order.get(division * size + number);
        }

        int startNumber(int crew) {
            int number = places.get(crew) - division * size;
            return hasCrew(crew) && number >= 0 && number < starters() ? number : NO_STARTER;
        }

        boolean isStarter(int crew) {
            return startNumber(crew) != NO_STARTER;
        }

        /** Why a can not bump b, were the bumps made that are told; 0 if it can. */
        int reasonAgainst(Race bumps, int a, int b) {
            int numberOfA = startNumber(a);
            int numberOfB = startNumber(b);
            if (numberOfA == NO_STARTER || numberOfB == NO_STARTER) {
                return REASON_NO_STARTER;
            }
            if (bumps.isOut(a) || bumps.isOut(b)) {
                return REASON_OUT;
            }
            if (numberOfA <= numberOfB) {
                return REASON_NOT_BEHIND;
            }
            for (int number = numberOfB + 1; number < numberOfA; number++) {
                if (!bumps.isOut(starterAt(number))) {
                    return REASON_BETWEEN;
                }
            }
            return 0;
        }

        /** By how many places the two crews of a bump of the present race differ. */
        int span(int bump) {
            return places.get(race.ups.get(bump)) - places.get(race.downs.get(bump));
        }

        /** The bits of a bump and of all that need it; one that needs another is always the later one. */
        int withThoseThatNeed(int bump) {
            int taken = 1 << bump;
            for (int later = bump + 1; later < race.made; later++) {
                if ((taken & neededBy(later)) != 0) {
                    taken |= 1 << later;
                }
            }
            return taken;
        }

        private int neededBy(int bump) {
            int needed = 0;
            for (int earlier = 0; earlier < bump; earlier++) {
                if (liesWithin(race.ups.get(earlier), bump) || liesWithin(race.downs.get(earlier), bump)) {
                    needed |= 1 << earlier;
                }
            }
            return needed;
        }

        private boolean liesWithin(int crew, int bump) {
            int place = places.get(crew);
            return place > places.get(race.downs.get(bump)) && place < places.get(race.ups.get(bump));
        }

        /** Finishes the present race; how many bumps it had. */
        int endRace() {
            int made = race.made;
            for (int i = 0; i < made; i++) {
                int up = race.ups.get(i);
                int down = race.downs.get(i);
                log.add(daysOver + 1, up, down, span(i));
                exchange(up, down);
            }
            race.made = 0;
            if (division > 0) {
                division--;
            } else {
                endDay();
            }
            return made;
        }

        private void exchange(int up, int down) {
            int placeOfUp = places.get(up);
            int placeOfDown = places.get(down);
            putAt(placeOfDown, up);
            putAt(placeOfUp, down);
        }

        private void endDay() {
            daysOver++;
            notePlaces();
            division = daysOver < days ? divisions() - 1 : NO_RACE;
        }

        /** Where a starter is at a time, in centimetres. */
        double position(int number, int time) {
            int speed = speeds.get(starterAt(number));
            return (double) speed * (double) time - (double) (number * gap);
        }

        // the days that are over

        private void notePlaces() {
            for (int crew = 0; crew < crews; crew++) {
                placesAfter.put(daysOver * MOST_CREWS + crew, places.get(crew));
            }
        }

        int placeAfter(int crew, int day) {
            return placesAfter.get(day * MOST_CREWS + crew);
        }

        int daysRisen(int crew) {
            int sum = 0;
            for (int day = 1; day <= daysOver; day++) {
                sum += placeAfter(crew, day) < placeAfter(crew, day - 1) ? 1 : 0;
            }
            return sum;
        }

        int daysFallen(int crew) {
            int sum = 0;
            for (int day = 1; day <= daysOver; day++) {
                sum += placeAfter(crew, day) > placeAfter(crew, day - 1) ? 1 : 0;
            }
            return sum;
        }

        /** 1 for blades, 2 for spoons, 0 for neither. */
        int award(int crew) {
            if (daysOver == 0) {
                return 0;
            }
            if (daysRisen(crew) == daysOver) {
                return 1;
            }
            return daysFallen(crew) == daysOver ? 2 : 0;
        }

        int bestRiser() {
            int best = NO_CREW;
            int bestRise = 0;
            for (int place = 0; place < crews; place++) {
                int crew = order.get(place);
                int rise = placeAfter(crew, 0) - placeAfter(crew, daysOver);
                if (best == NO_CREW || rise > bestRise) {
                    best = crew;
                    bestRise = rise;
                }
            }
            return best;
        }

        void copyFrom(Chart other) {
            speeds.copyFrom(other.speeds);
            places.copyFrom(other.places);
            order.copyFrom(other.order);
            race.copyFrom(other.race);
            log.copyFrom(other.log);
            placesAfter.copyFrom(other.placesAfter);
            crews = other.crews;
            size = other.size;
            days = other.days;
            daysOver = other.daysOver;
            division = other.division;
            gap = other.gap;
            raceLength = other.raceLength;
        }
    }

    /** The states before the latest changes, the oldest one first; their objects are made once and used again. */
    private static final class History {
        private final Chart[] past = new Chart[MOST_STATES];
        int kept;

        History() {
            for (int i = 0; i < past.length; i++) {
                past[i] = new Chart();
            }
        }

        void keep(Chart state) {
            if (kept < past.length) {
                kept++;
            } else {
                moveOldestToEnd();
            }
            Chart latest = latest();
            if (latest != null) {
                latest.copyFrom(state);
            }
        }

        private void moveOldestToEnd() {
            for (int i = 1; i < past.length; i++) {
                Chart older = past[i - 1];
                past[i - 1] = past[i];
                past[i] = older;
            }
        }

        /** The latest state, null if none is kept. */
        Chart latest() {
            return kept > 0 && kept <= past.length ? past[kept - 1] : null;
        }

        void dropLatest() {
            if (kept > 0) {
                kept--;
            }
        }
    }

    /** The foretold bumps of the present race, by the numbers of the starters. */
    private static final class Forecast {
        final Cells ups = new Cells(MOST_BUMPS);
        final Cells downs = new Cells(MOST_BUMPS);
        int found;
        private final double[] times = new double[MOST_BUMPS];
        private final Cells speeds = new Cells(MOST_STARTERS);
        private final Cells outs = new Cells(MOST_STARTERS);
        private int starters;

        void foretell(Chart chart) {
            foretellWith(chart, NO_CREW, 0);
        }

        /** Foretells as if the crew had the speed. */
        void foretellWith(Chart chart, int crew, int speed) {
            starters = chart.starters();
            for (int number = 0; number < starters; number++) {
                int starter = chart.starterAt(number);
                speeds.put(number, starter == crew ? speed : chart.speeds.get(starter));
                outs.put(number, 0);
            }
            found = 0;
            boolean more = true;
            for (int i = 0; i < MOST_BUMPS && more; i++) {
                more = findNext(chart.gap, (double) chart.raceLength);
            }
        }

        private boolean findNext(int gap, double raceLength) {
            int up = NO_STARTER;
            int down = NO_STARTER;
            double least = raceLength;
            int ahead = NO_STARTER;
            for (int number = 0; number < starters; number++) {
                if (outs.get(number) != 0) {
                    continue;
                }
                int closing = ahead == NO_STARTER ? 0 : speeds.get(number) - speeds.get(ahead);
                if (closing > 0) {
                    double time = (double) ((number - ahead) * gap) / (double) closing;
                    if (time < least || (up == NO_STARTER && time == least)) {
                        up = number;
                        down = ahead;
                        least = time;
                    }
                }
                ahead = number;
            }
            if (up == NO_STARTER) {
                return false;
            }
            add(up, down, least);
            return true;
        }

        private void add(int up, int down, double time) {
            if (found >= 0 && found < times.length) {
                ups.put(found, up);
                downs.put(found, down);
                times[found] = time;
                found++;
            }
            outs.put(up, 1);
            outs.put(down, 1);
        }

        double timeOf(int index) {
            return index >= 0 && index < times.length ? times[index] : 0.0;
        }

        boolean hasUp(int number) {
            for (int i = 0; i < found; i++) {
                if (ups.get(i) == number) {
                    return true;
                }
            }
            return false;
        }
    }

    /** The text, and what its latest check found. */
    private static final class Script {
        int length;
        int reason;
        int faultAt;
        int bumps;
        final Race trial = new Race();
        private final Cells signs = new Cells(MOST_SIGNS);
        private int up;
        private int down;
        private int next;

        void append(int sign) {
            if (length < MOST_SIGNS) {
                signs.put(length, sign);
                length++;
            }
        }

        /** Makes the bumps of the text in trial, after those of the race, up to the first that is not possible. */
        void check(Chart chart) {
            trial.copyFrom(chart.race);
            bumps = 0;
            reason = 0;
            int from = 0;
            for (int step = 0; step < MOST_SIGNS && from < length && reason == 0; step++) {
                reason = readBump(from) ? chart.reasonAgainst(trial, up, down) : REASON_FORM;
                if (reason == 0) {
                    trial.add(up, down);
                    bumps++;
                    from = next;
                }
            }
            faultAt = from;
        }

        /** Reads the bump that begins at a position; false if it is not of the form. */
        private boolean readBump(int from) {
            int dash = from + digitsAt(from);
            int end = dash + 1 + digitsAt(dash + 1);
            if (signAt(dash) != '-' || signAt(end) != ';') {
                return false;
            }
            up = numberAt(from, dash);
            down = numberAt(dash + 1, end);
            next = end + 1;
            return dash > from && end > dash + 1;
        }

        /** How many digits begin at a position, 2 at the most. */
        private int digitsAt(int from) {
            int digits = 0;
            while (digits < 2 && signAt(from + digits) >= '0' && signAt(from + digits) <= '9') {
                digits++;
            }
            return digits;
        }

        private int numberAt(int from, int end) {
            int number = 0;
            for (int i = from; i < end; i++) {
                number = number * 10 + signAt(i) - '0';
            }
            return number;
        }

        /** The sign at a position, 0 behind the end. */
        private int signAt(int position) {
            return position < length ? signs.get(position) : 0;
        }
    }
}
