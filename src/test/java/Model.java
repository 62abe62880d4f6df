import java.util.ArrayDeque;
import java.util.ArrayList;
import java.util.Deque;
import java.util.List;
import java.util.regex.Matcher;
import java.util.regex.Pattern;

/** The document once more, written apart from the program and without care for speed, to compare answers with. */
final class Model {
    private static final Pattern BUMP = Pattern.compile("([0-9]{1,2})-([0-9]{1,2});");

    /** A bump: the crews, their numbers in the race, the day of the race. */
    private record Bump(int a, int b, int numberA, int numberB, int day) { }

    private record Foretold(int a, int b, double time) { }

    private static final class State {
        int n = 12;
        int d = 4;
        int days = 4;
        int gap = 1500;
        int length = 300;
        int racesDone = 0;
        int[] speed = filled(24, 400);
        List<Integer> order = new ArrayList<>();
        List<List<Integer>> orders = new ArrayList<>();
        List<Bump> present = new ArrayList<>();
        List<Bump> finished = new ArrayList<>();

        State copy() {
            State s = new State();
            s.n = n;
            s.d = d;
            s.days = days;
            s.gap = gap;
            s.length = length;
            s.racesDone = racesDone;
            s.speed = speed.clone();
            s.order = new ArrayList<>(order);
            s.orders = new ArrayList<>(orders);
            s.present = new ArrayList<>(present);
            s.finished = new ArrayList<>(finished);
            return s;
        }

        void begin(int crews, int size, int newDays) {
            n = crews;
            d = size;
            days = newDays;
            racesDone = 0;
            speed = filled(24, 400);
            order = new ArrayList<>();
            for (int k = 0; k < n; k++) {
                order.add(k);
            }
            orders = new ArrayList<>(List.of(List.copyOf(order)));
            present = new ArrayList<>();
            finished = new ArrayList<>();
        }

        int divisions() {
            int m = 0;
            while (m * d < n) {
                m++;
            }
            return m;
        }

        int daysOver() {
            return racesDone / divisions();
        }

        boolean race() {
            return daysOver() < days;
        }

        int division() {
            return divisions() - 1 - racesDone % divisions();
        }

        List<Integer> starters() {
            List<Integer> all = new ArrayList<>();
            if (race()) {
                for (int place = 0; place < n; place++) {
                    boolean own = place / d == division();
                    boolean sandwich = division() < divisions() - 1 && place == (division() + 1) * d;
                    if (own || sandwich) {
                        all.add(order.get(place));
                    }
                }
            }
            return all;
        }

        static boolean out(List<Bump> bumps, int crew) {
            return bumps.stream().anyMatch(b -> b.a == crew || b.b == crew);
        }

        int reason(List<Bump> bumps, int a, int b) {
            List<Integer> all = starters();
            int i = all.indexOf(a);
            int j = all.indexOf(b);
            if (i < 0 || j < 0) {
                return 2;
            }
            if (out(bumps, a) || out(bumps, b)) {
                return 3;
            }
            if (i <= j) {
                return 4;
            }
            return all.subList(j + 1, i).stream().allMatch(c -> out(bumps, c)) ? 0 : 5;
        }

        Bump make(int a, int b) {
            return new Bump(a, b, starters().indexOf(a), starters().indexOf(b), daysOver() + 1);
        }

        List<Foretold> foretell(int[] with) {
            List<Integer> all = starters();
            List<Bump> made = new ArrayList<>();
            List<Foretold> told = new ArrayList<>();
            Foretold best;
            do {
                best = null;
                for (int b : all) {
                    for (int a : all) {
                        if (reason(made, a, b) == 0 && with[a] > with[b]) {
                            int apart = all.indexOf(a) - all.indexOf(b);
                            double t = (double) (apart * gap) / (double) (with[a] - with[b]);
                            if (t <= length && (best == null || t < best.time)) {
                                best = new Foretold(a, b, t);
                            }
                        }
                    }
                }
                if (best != null) {
                    told.add(best);
                    made.add(make(best.a, best.b));
                }
            } while (best != null);
            return told;
        }

        int finish() {
            int made = present.size();
            for (Bump b : present) {
                int placeA = order.indexOf(b.a);
                int placeB = order.indexOf(b.b);
                order.set(placeA, b.b);
                order.set(placeB, b.a);
            }
            finished.addAll(present);
            present.clear();
            racesDone++;
            if (racesDone % divisions() == 0) {
                orders.add(List.copyOf(order));
            }
            return made;
        }

        private static int[] filled(int length, int value) {
            int[] row = new int[length];
            java.util.Arrays.fill(row, value);
            return row;
        }
    }

    private State now = new State();
    private final Deque<State> past = new ArrayDeque<>();
    private String text = "";

    Model() {
        now.begin(12, 4, 4);
    }

    private void keep() {
        past.addLast(now.copy());
        if (past.size() == 5) {
            past.removeFirst();
        }
    }

    private boolean noCrew(int crew) {
        return crew < 0 || crew >= now.n;
    }

    private static boolean within(int value, int least, int most) {
        return value >= least && value <= most;
    }

    int begin(int crews, int size, int days) {
        if (!within(crews, 2, 24) || !within(size, 3, 8) || !within(days, 1, 6)) {
            return -1001;
        }
        keep();
        now.begin(crews, size, days);
        return now.divisions();
    }

    int setSpeed(int crew, int speed) {
        if (noCrew(crew) || !within(speed, 1, 1000)) {
            return -1001;
        }
        keep();
        int old = now.speed[crew];
        now.speed[crew] = speed;
        return old;
    }

    int set(int what, int value) {
        if (!within(what, 0, 1) || !within(value, what == 0 ? 100 : 1, what == 0 ? 5000 : 1000)) {
            return -1001;
        }
        keep();
        int old = what == 0 ? now.gap : now.length;
        if (what == 0) {
            now.gap = value;
        } else {
            now.length = value;
        }
        return old;
    }

    int count(int what) {
        if (!within(what, 0, 12)) {
            return -1001;
        }
        if (within(what, 5, 7) && !now.race()) {
            return -1004;
        }
        int[] answers = {now.n, now.d, now.divisions(), now.days, now.daysOver(), now.division(), now.present.size(),
            now.starters().size(), now.gap, now.length, past.size(), text.length(), now.order.get(0)};
        return answers[what];
    }

    private int daysOf(int crew, int sign) {
        int sum = 0;
        for (int day = 1; day < now.orders.size(); day++) {
            int before = now.orders.get(day - 1).indexOf(crew);
            sum += Integer.signum(now.orders.get(day).indexOf(crew) - before) == sign ? 1 : 0;
        }
        return sum;
    }

    int crew(int crew, int what) {
        if (noCrew(crew) || !within(what, 0, 9)) {
            return -1001;
        }
        int number = now.starters().indexOf(crew);
        if (within(what, 3, 4) && number < 0) {
            return -1004;
        }
        int risen = daysOf(crew, -1);
        int fallen = daysOf(crew, 1);
        int over = now.daysOver();
        int award = over == 0 ? 0 : risen == over ? 1 : fallen == over ? 2 : 0;
        int made = (int) now.finished.stream().filter(b -> b.a == crew).count();
        int suffered = (int) now.finished.stream().filter(b -> b.b == crew).count();
        int[] answers = {now.speed[crew], now.order.indexOf(crew), now.order.indexOf(crew) / now.d, number,
            State.out(now.present, crew) ? 1 : 0, risen, fallen, award, made, suffered};
        return answers[what];
    }

    int at(int place) {
        return noCrew(place) ? -1001 : now.order.get(place);
    }

    int starter(int index) {
        if (index < 0) {
            return -1001;
        }
        return index < now.starters().size() ? now.starters().get(index) : -1004;
    }

    int bump(int a, int b) {
        if (noCrew(a) || noCrew(b)) {
            return -1001;
        }
        if (now.reason(now.present, a, b) != 0) {
            return -1002;
        }
        keep();
        now.present.add(now.make(a, b));
        return now.present.size() - 1;
    }

    int why(int a, int b) {
        return noCrew(a) || noCrew(b) ? -1001 : now.reason(now.present, a, b);
    }

    int bumped(int bump, int what) {
        if (bump < 0 || bump >= now.present.size() || !within(what, 0, 2)) {
            return -1001;
        }
        Bump b = now.present.get(bump);
        return what == 0 ? b.a : what == 1 ? b.b : b.numberA - b.numberB - 1;
    }

    private static boolean needs(Bump later, Bump earlier) {
        return within(earlier.numberA, later.numberB + 1, later.numberA - 1)
            || within(earlier.numberB, later.numberB + 1, later.numberA - 1);
    }

    int rerow(int bump) {
        if (bump < 0 || bump >= now.present.size()) {
            return -1001;
        }
        keep();
        List<Bump> all = now.present;
        List<Bump> taken = new ArrayList<>(List.of(all.get(bump)));
        for (int before = 0; before < taken.size();) {
            before = taken.size();
            for (int later = 1; later < all.size(); later++) {
                for (int earlier = 0; earlier < later; earlier++) {
                    Bump l = all.get(later);
                    if (taken.contains(all.get(earlier)) && !taken.contains(l) && needs(l, all.get(earlier))) {
                        taken.add(l);
                    }
                }
            }
        }
        all.removeAll(taken);
        return taken.size();
    }

    int finish() {
        if (!now.race()) {
            return -1002;
        }
        keep();
        return now.finish();
    }

    int undo() {
        if (past.isEmpty()) {
            return -1002;
        }
        now = past.removeLast();
        return past.size();
    }

    int foretold(int index, int what) {
        if (index < 0 || !within(what, 0, 2)) {
            return -1001;
        }
        List<Foretold> all = now.foretell(now.speed);
        if (index >= all.size()) {
            return -1004;
        }
        Foretold f = all.get(index);
        return what == 0 ? f.a : what == 1 ? f.b : Float.floatToIntBits((float) f.time);
    }

    int row() {
        if (!now.race() || !now.present.isEmpty()) {
            return -1002;
        }
        keep();
        for (Foretold f : now.foretell(now.speed)) {
            now.present.add(now.make(f.a, f.b));
        }
        return now.finish();
    }

    private double position(int k, int time) {
        return (double) now.speed[now.starters().get(k)] * time - (double) (k * now.gap);
    }

    int distanceBits(int index, int time) {
        if (index < 1 || !within(time, 0, 1000)) {
            return -1001;
        }
        if (index >= now.starters().size()) {
            return -1004;
        }
        return Float.floatToIntBits((float) (position(index - 1, time) - position(index, time)));
    }

    int speedFor(int crew) {
        if (noCrew(crew)) {
            return -1001;
        }
        for (int speed = 1; speed <= 1000 && now.starters().contains(crew); speed++) {
            int[] with = now.speed.clone();
            with[crew] = speed;
            if (now.foretell(with).stream().anyMatch(f -> f.a == crew)) {
                return speed;
            }
        }
        return -1004;
    }

    int place(int crew, int day) {
        return noCrew(crew) || !within(day, 0, now.daysOver()) ? -1001 : now.orders.get(day).indexOf(crew);
    }

    int again(int crew, int day) {
        if (noCrew(crew) || !within(day, 0, now.daysOver())) {
            return -1001;
        }
        int place = crew;
        for (Bump b : now.finished) {
            int apart = b.numberA - b.numberB;
            place += b.day > day ? 0 : b.a == crew ? -apart : b.b == crew ? apart : 0;
        }
        return place;
    }

    int bestRise() {
        int best = -1004;
        int most = Integer.MIN_VALUE;
        for (int crew : now.daysOver() == 0 ? List.<Integer>of() : now.order) {
            int rise = crew - now.orders.get(now.daysOver()).indexOf(crew);
            if (rise > most) {
                best = crew;
                most = rise;
            }
        }
        return best;
    }

    int type(int character) {
        if (!within(character, 32, 126)) {
            return -1001;
        }
        if (text.length() == 80) {
            return -1003;
        }
        text = text + (char) character;
        return text.length();
    }

    int clearText() {
        int old = text.length();
        text = "";
        return old;
    }

    /** Position, reason and number of bumps; the reason is 0 if there is no fault. */
    private int[] check(List<Bump> bumps) {
        int from = 0;
        int made = 0;
        while (from < text.length()) {
            Matcher m = BUMP.matcher(text).region(from, text.length());
            if (!m.lookingAt()) {
                return new int[] {from, 1, made};
            }
            int a = Integer.parseInt(m.group(1));
            int b = Integer.parseInt(m.group(2));
            int reason = now.reason(bumps, a, b);
            if (reason != 0) {
                return new int[] {from, reason, made};
            }
            bumps.add(now.make(a, b));
            made++;
            from = m.end();
        }
        return new int[] {0, 0, made};
    }

    int fault(int what) {
        if (!within(what, 0, 1)) {
            return -1001;
        }
        int[] found = check(new ArrayList<>(now.present));
        return found[1] == 0 ? -1004 : found[what];
    }

    int enter() {
        List<Bump> bumps = new ArrayList<>(now.present);
        int[] found = check(bumps);
        if (found[1] != 0) {
            return -1002;
        }
        keep();
        now.present = bumps;
        return found[2];
    }
}
