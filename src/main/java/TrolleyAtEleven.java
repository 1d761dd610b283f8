/** A trolley at eleven: a house told in letters, her round through it, and what could be otherwise. */
public final class TrolleyAtEleven {
    private static final int NOBODY = -1;
    private static final int OTHER = -2;
    private static final int STATE = -3;
    private static final int BELOW = -4;
    private static final int ROOM = -6;
    private static final int NONE = -9;
    private static final long FAR = 4000000000000000000L;

    private static final int MOST_FLOORS = 6;
    private static final int MOST_PEOPLE = 20;
    private static final int MOST_LEVEL = 9;
    private static final int MOST_LETTERS = 96;
    private static final int MOST_IN_ROW = 12;
    private static final int MOST_BUNS = 60;
    private static final int MOST_KEPT = 20;
    private static final int MOST_CUPS = 40;
    private static final int ALL_ORDERS = 720;
    private static final int GREEDY_BUNS = 3;
    private static final int WITHOUT_SIGN = 0x7fffffff;

    private static final int CUPS = 0;
    private static final int WARM = 1;
    private static final int ICED = 2;
    private static final int CURRANT = 3;
    private static final int PLAIN = 4;
    private static final int START = 5;
    private static final int GOING = 6;
    private static final int LIFT = 7;
    private static final int FILLING = 8;
    private static final int KEPT = 9;
    private static final int[] SETTINGS_AT_FIRST = {40, 90, 10, 10, 10, 4, 0, 1, 1, 0};
    private static final int[] MOST_OF_SETTINGS = {40, 99, 60, 60, 60, 9, 1, 9, 2, 20};

    private static final int OFFICE = 0;
    private static final int MEETING = 1;
    private static final int TELEPHONE = 2;
    private static final int DIRECTOR = 3;
    private static final int GREEDY = 4;
    private static final int QUICK = 5;

    private static final int MINUTES = 0;
    private static final int SERVED = 1;
    private static final int MISSED = 2;
    private static final int COLD = 3;
    private static final int ICED_EATEN = 4;
    private static final int BUNLESS = 5;
    private static final int STANDING = 6;
    private static final int COST = 7;
    private static final int TOTALS = 8;

    private final House now = new House();
    private final House trial = new House();
    private final House taken = new House();
    private boolean isTaken = false;
    private final Round round = new Round();
    private final Orders orders = new Orders();
    private final int[] found = new int[MOST_FLOORS];
    private final int[] coldDays = new int[MOST_FLOORS];
    private final Reader reader = new Reader();
    private final int[] numbers = new int[MOST_IN_ROW];
    private int numberCount = 0;
    private final int[] refusals = new int[7];

    public TrolleyAtEleven() {
    }

    public int letter(int c) {
        if (c < 0) return refuse(BELOW);
        if (c > 255 || reader.length >= MOST_LETTERS) return refuse(ROOM);
        reader.add(c);
        return reader.length;
    }

    public int house() {
        trial.copyFrom(now);
        int answer = reader.readInto(trial);
        reader.length = 0;
        if (answer > 0) now.copyFrom(trial);
        return answer;
    }

    public int story(int floor, int what) {
        if (!now.hasFloor(floor)) return refuse(NOBODY);
        switch (what) {
            case 0: return now.kind[floor];
            case 1: return now.level[floor];
            case 2: return now.people[floor];
            case 3: return now.chat[floor];
            case 4: return now.placeOf(floor);
            default: return refuse(OTHER);
        }
    }

    public int place(int i) {
        if (!now.hasFloor(i)) return refuse(NOBODY);
        return now.order[i];
    }

    public int change(int one, int other) {
        if (!now.canSwap(one, other)) return refuse(NOBODY);
        now.swap(one, other);
        return now.placeOf(one);
    }

    public int people(int floor, int v) {
        if (!now.hasFloor(floor)) return refuse(NOBODY);
        if (v < 1) return refuse(BELOW);
        if (v > MOST_PEOPLE) return refuse(ROOM);
        int before = now.people[floor];
        now.people[floor] = v;
        return before;
    }

    public int set(int what, int v) {
        if (what < 0 || what >= MOST_OF_SETTINGS.length) return refuse(OTHER);
        if (v < 0) return refuse(BELOW);
        if (v > MOST_OF_SETTINGS[what]) return refuse(ROOM);
        int before = now.settings[what];
        now.settings[what] = v;
        return before;
    }

    public int come(int floor, int minute) {
        if (!now.hasFloor(floor)) return refuse(NOBODY);
        if (minute < 0) return refuse(BELOW);
        if (minute > 999) return refuse(ROOM);
        return now.comingAt(floor, minute);
    }

    public int going(int from, int to) {
        if (from < 0 || to < 0) return refuse(BELOW);
        if (from > MOST_LEVEL || to > MOST_LEVEL) return refuse(ROOM);
        return now.minutesBetween(from, to);
    }

    public int total(int what) {
        if (!isTotal(what)) return refuse(OTHER);
        round.walk(now, now.order);
        return round.totals[what];
    }

    public int at(int i, int what) {
        if (!now.hasFloor(i)) return refuse(NOBODY);
        if (what < 0 || what > 3) return refuse(OTHER);
        round.walk(now, now.order);
        switch (what) {
            case 0: return round.minute[i];
            case 1: return round.warm[i];
            case 2: return round.served[i];
            default: return round.iced[i];
        }
    }

    public int when(int floor) {
        if (!now.hasFloor(floor)) return refuse(NOBODY);
        round.walk(now, now.order);
        return round.minute[now.placeOf(floor)];
    }

    public int best(int what) {
        if (!isTotal(what)) return refuse(OTHER);
        return findBest(what);
    }

    public int bestAt(int what, int i) {
        if (!isTotal(what)) return refuse(OTHER);
        if (!now.hasFloor(i)) return refuse(NOBODY);
        findBest(what);
        return found[i];
    }

    public int turned(int floor) {
        if (!now.hasFloor(floor)) return refuse(NOBODY);
        countColdDays();
        return coldDays[floor];
    }

    public int most() {
        countColdDays();
        int most = 0;
        for (int floor = 0; floor < now.floors; floor++) {
            most = Math.max(most, coldDays[floor]);
        }
        return most;
    }

    public int enough(int sort) {
        if (sort < 0 || sort > 2) return refuse(OTHER);
        trial.copyFrom(now);
        for (int buns = 0; buns <= MOST_BUNS; buns++) {
            trial.settings[ICED + sort] = buns;
            round.walk(trial, trial.order);
            if (round.totals[BUNLESS] == 0) return buns;
        }
        return NONE;
    }

    public int fill() {
        return cheapest(FILLING);
    }

    public int ramp() {
        return cheapest(GOING);
    }

    public int keep(int what) {
        if (what < 0 || what > 1) return refuse(OTHER);
        trial.copyFrom(now);
        int bestKept = 0;
        int mostIced = -1;
        for (int kept = 0; kept <= MOST_KEPT; kept++) {
            trial.settings[KEPT] = kept;
            round.walk(trial, trial.order);
            int iced = now.floors == 0 ? 0 : round.iced[now.floors - 1];
            if (iced > mostIced) {
                mostIced = iced;
                bestKept = kept;
            }
        }
        return what == 0 ? bestKept : mostIced;
    }

    public int oneEach() {
        round.walk(now, now.order);
        int bunless = round.totals[BUNLESS];
        round.walkWithOneBunEach(now, now.order);
        return bunless - round.totals[BUNLESS];
    }

    public int machine() {
        return minutesToMachine();
    }

    public int saves() {
        round.walk(now, now.order);
        return minutesToMachine() - round.totals[STANDING];
    }

    public long late(int t, int part) {
        if (t < 0) return FAR - refuse(BELOW);
        if (t > 10) return FAR - refuse(ROOM);
        if (part < 0 || part > 1) return FAR - refuse(OTHER);
        int tenths = tenthsOnTheWay(t);
        int divisor = commonDivisorWithTen(tenths);
        return part == 0 ? tenths / divisor : 10 / divisor;
    }

    public int more(int floor) {
        if (!now.hasFloor(floor)) return refuse(NOBODY);
        round.walk(now, now.order);
        int missed = round.totals[MISSED];
        trial.copyFrom(now);
        for (int people = MOST_PEOPLE; people > now.people[floor]; people--) {
            trial.people[floor] = people;
            round.walk(trial, trial.order);
            if (round.totals[MISSED] <= missed) return people - now.people[floor];
        }
        return 0;
    }

    public int squeak(int s) {
        if (s < 0) return refuse(BELOW);
        if (s > MOST_LEVEL) return refuse(ROOM);
        round.walk(now, now.order);
        int standing = 0;
        for (int i = 0; i < now.floors; i++) {
            if (now.level[now.order[i]] <= s) standing += round.standing[i];
        }
        return standing;
    }

    public int row(int v) {
        if (v < 0) return refuse(BELOW);
        if (v > 99 || numberCount >= MOST_IN_ROW) return refuse(ROOM);
        numbers[numberCount] = v;
        numberCount++;
        return numberCount;
    }

    public int fits(int i) {
        if (i < -1) return refuse(BELOW);
        if (i != -1 && !now.hasFloor(i)) return refuse(NOBODY);
        int fitting = countFitting();
        if (i == -1) return fitting;
        return fitting == 0 ? NONE : found[i];
    }

    public int judge() {
        round.walk(now, now.order);
        int answer = firstNotSo();
        numberCount = 0;
        return answer;
    }

    public int lots(int n, int z) {
        if (n < 1) return refuse(BELOW);
        if (n > 20) return refuse(ROOM);
        trial.copyFrom(now);
        int seed = z;
        int cost = 0;
        for (int day = 0; day < n; day++) {
            for (int floor = 0; floor < trial.floors; floor++) {
                seed = seed * 1664525 + 1013904223;
                trial.people[floor] = (seed & WITHOUT_SIGN) / 256 % MOST_PEOPLE + 1;
            }
            round.walk(trial, trial.order);
            cost += round.totals[COST];
        }
        return cost;
    }

    public int image() {
        taken.copyFrom(now);
        isTaken = true;
        return now.floors;
    }

    public int on() {
        if (!isTaken) return refuse(STATE);
        now.copyFrom(taken);
        return now.floors;
    }

    public int count(int what) {
        if (what >= 11 && what <= 16) return refusals[what - 10];
        switch (what) {
            case 0: return now.floors;
            case 1: return now.allPeople();
            case 2: return now.settings[ICED] + now.settings[CURRANT] + now.settings[PLAIN];
            case 3: return now.settings[CUPS];
            case 4: return now.settings[WARM];
            case 5: return now.settings[START];
            case 6: return now.settings[GOING];
            case 7: return now.settings[FILLING];
            case 8: return numberCount;
            case 9: return reader.length;
            default: return NONE;
        }
    }

    private int refuse(int refusal) {
        refusals[-refusal]++;
        return refusal;
    }

    private static boolean isTotal(int what) {
        return what >= 0 && what < TOTALS;
    }

    /** Leaves the best order in found. */
    private int findBest(int what) {
        boolean mostIsBest = what == SERVED || what == ICED_EATEN;
        int least = 0;
        orders.begin(now.floors);
        for (int tried = 0; tried < ALL_ORDERS; tried++) {
            round.walk(now, orders.order);
            int value = mostIsBest ? -round.totals[what] : round.totals[what];
            if (tried == 0 || value < least) {
                least = value;
                orders.copyTo(found);
            }
            if (!orders.advance()) break;
        }
        return mostIsBest ? -least : least;
    }

    /** Leaves the first fitting order in found. */
    private int countFitting() {
        int fitting = 0;
        orders.begin(now.floors);
        for (int tried = 0; tried < ALL_ORDERS; tried++) {
            round.walk(now, orders.order);
            if (firstNotSo() == NONE) {
                if (fitting == 0) orders.copyTo(found);
                fitting++;
            }
            if (!orders.advance()) break;
        }
        return fitting;
    }

    /** Of the round walked last. */
    private int firstNotSo() {
        for (int i = 0; i < numberCount; i++) {
            if (i >= now.floors || numbers[i] != round.served[i]) return i;
        }
        return NONE;
    }

    private void countColdDays() {
        for (int floor = 0; floor < now.floors; floor++) {
            coldDays[floor] = 0;
        }
        for (int day = 0; day < now.floors; day++) {
            turn(day);
            round.walk(now, trial.order);
            for (int i = 0; i < now.floors; i++) {
                if (round.cold[i] > 0) coldDays[trial.order[i]]++;
            }
        }
    }

    /** Leaves the order of a day in that of trial. */
    private void turn(int day) {
        for (int i = 0; i < now.floors; i++) {
            int place = i + day;
            if (place >= now.floors) place -= now.floors;
            trial.order[i] = now.order[place];
        }
    }

    private int cheapest(int setting) {
        trial.copyFrom(now);
        int best = 0;
        int least = 0;
        for (int v = 0; v <= MOST_OF_SETTINGS[setting]; v++) {
            trial.settings[setting] = v;
            round.walk(trial, trial.order);
            if (v == 0 || round.totals[COST] < least) {
                least = round.totals[COST];
                best = v;
            }
        }
        return best;
    }

    private int minutesToMachine() {
        int minutes = 0;
        for (int floor = 0; floor < now.floors; floor++) {
            minutes += now.people[floor] * (2 * now.level[floor] + 1);
        }
        return minutes;
    }

    /** GOING plays no part: LATE asks of the lift, whichever way she goes now. */
    private int tenthsOnTheWay(int rampTenths) {
        int tenths = 0;
        int from = now.settings[START];
        for (int i = 0; i < now.floors; i++) {
            int to = now.level[now.order[i]];
            tenths += (10 - rampTenths) * now.minutesByLift(from, to);
            tenths += rampTenths * House.minutesByRamp(from, to);
            from = to;
        }
        return tenths;
    }

    private static int commonDivisorWithTen(int number) {
        if (number % 10 == 0) return 10;
        if (number % 5 == 0) return 5;
        return number % 2 == 0 ? 2 : 1;
    }

    /** All that an image holds: the floors, their order, the urn, the buns and her rules. */
    private static final class House {
        int floors = 0;
        final int[] kind = new int[MOST_FLOORS];
        final int[] level = new int[MOST_FLOORS];
        final int[] people = new int[MOST_FLOORS];
        final int[] chat = new int[MOST_FLOORS];
        final int[] order = new int[MOST_FLOORS];
        final int[] settings = new int[SETTINGS_AT_FIRST.length];

        House() {
            System.arraycopy(SETTINGS_AT_FIRST, 0, settings, 0, settings.length);
        }

        void copyFrom(House other) {
            floors = other.floors;
            System.arraycopy(other.kind, 0, kind, 0, MOST_FLOORS);
            System.arraycopy(other.level, 0, level, 0, MOST_FLOORS);
            System.arraycopy(other.people, 0, people, 0, MOST_FLOORS);
            System.arraycopy(other.chat, 0, chat, 0, MOST_FLOORS);
            System.arraycopy(other.order, 0, order, 0, MOST_FLOORS);
            System.arraycopy(other.settings, 0, settings, 0, settings.length);
        }

        boolean hasFloor(int floor) {
            return floor >= 0 && floor < floors;
        }

        /** The caller has seen that there is room. */
        void addFloor(int itsKind, int itsLevel, int itsPeople, int itsChat) {
            kind[floors] = itsKind;
            level[floors] = itsLevel;
            people[floors] = itsPeople;
            chat[floors] = itsChat;
            order[floors] = floors;
            floors++;
        }

        int placeOf(int floor) {
            for (int i = 0; i < floors; i++) {
                if (order[i] == floor) return i;
            }
            return 0;
        }

        boolean canSwap(int one, int other) {
            return hasFloor(one) && hasFloor(other) && one != other;
        }

        void swap(int one, int other) {
            int placeOfOne = placeOf(one);
            order[placeOf(other)] = one;
            order[placeOfOne] = other;
        }

        int allPeople() {
            int sum = 0;
            for (int floor = 0; floor < floors; floor++) {
                sum += people[floor];
            }
            return sum;
        }

        int comingAt(int floor, int minute) {
            switch (kind[floor]) {
                case MEETING:
                case QUICK:
                    return minute < 10 ? 0 : people[floor];
                case TELEPHONE:
                case GREEDY:
                    return halfRoundedUp(people[floor]);
                default:
                    return people[floor];
            }
        }

        int bunsWanted(int floor) {
            return kind[floor] == GREEDY ? GREEDY_BUNS : 1;
        }

        int minutesToServe(int floor, int n) {
            int minutes = halfRoundedUp(n) + chat[floor];
            if (kind[floor] == DIRECTOR) return minutes + 2;
            return kind[floor] == QUICK ? minutes / 2 : minutes;
        }

        int minutesBetween(int from, int to) {
            return settings[GOING] == 0 ? minutesByLift(from, to) : minutesByRamp(from, to);
        }

        int minutesByLift(int from, int to) {
            return from == to ? 0 : settings[LIFT] + Math.abs(from - to);
        }

        static int minutesByRamp(int from, int to) {
            return 3 * Math.abs(from - to);
        }

        static int halfRoundedUp(int n) {
            return (n + 1) / 2;
        }
    }

    /** A round in mind: nothing of the house changes by it. The rows go by places in the order. */
    private static final class Round {
        final int[] totals = new int[TOTALS];
        final int[] minute = new int[MOST_FLOORS];
        final int[] warm = new int[MOST_FLOORS];
        final int[] served = new int[MOST_FLOORS];
        final int[] iced = new int[MOST_FLOORS];
        final int[] cold = new int[MOST_FLOORS];
        final int[] standing = new int[MOST_FLOORS];
        int clock = 0;
        int cups = 0;
        int warmWhenFilled = 0;
        int filledAt = 0;
        int icedLeft = 0;
        int othersLeft = 0;
        boolean oneBunEach = false;

        void walk(House house, int[] order) {
            oneBunEach = false;
            goRound(house, order);
        }

        void walkWithOneBunEach(House house, int[] order) {
            oneBunEach = true;
            goRound(house, order);
        }

        private void goRound(House house, int[] order) {
            begin(house);
            int from = house.settings[START];
            for (int i = 0; i < house.floors; i++) {
                int floor = order[i];
                clock += house.minutesBetween(from, house.level[floor]);
                from = house.level[floor];
                visit(house, floor, i);
            }
            totals[MINUTES] = clock;
            totals[COST] = clock + 2 * totals[COLD] + 3 * totals[BUNLESS] + 4 * totals[MISSED];
        }

        private void begin(House house) {
            for (int what = 0; what < TOTALS; what++) {
                totals[what] = 0;
            }
            clock = 0;
            filledAt = 0;
            cups = house.settings[CUPS];
            warmWhenFilled = house.settings[WARM];
            icedLeft = house.settings[ICED];
            othersLeft = house.settings[CURRANT] + house.settings[PLAIN];
        }

        private void visit(House house, int floor, int i) {
            minute[i] = clock;
            int coming = house.comingAt(floor, clock);
            if (cups < coming) refill(house.settings[FILLING]);
            warm[i] = warmNow();
            served[i] = Math.min(coming, cups);
            cups -= served[i];
            cold[i] = warm[i] < 60 ? served[i] : 0;
            standing[i] = coming * clock;
            boolean last = i == house.floors - 1;
            takeBuns(i, oneBunEach ? 1 : house.bunsWanted(floor), last ? 0 : house.settings[KEPT]);
            clock += house.minutesToServe(floor, served[i]);
            totals[SERVED] += served[i];
            totals[MISSED] += coming - served[i];
            totals[COLD] += cold[i];
            totals[ICED_EATEN] += iced[i];
            totals[STANDING] += standing[i];
        }

        private int warmNow() {
            int warmth = warmWhenFilled - (clock - filledAt) / 4;
            return warmth < 0 ? 0 : warmth;
        }

        private void refill(int filling) {
            if (filling == 0) return;
            if (filling == 1) {
                warmWhenFilled = 90;
                cups = MOST_CUPS;
                clock += 11;
            } else {
                warmWhenFilled = (warmNow() + 90) / 2;
                cups = Math.min(MOST_CUPS, cups + 20);
                clock += 6;
            }
            filledAt = clock;
        }

        /** Currant and plain are one heap here: no answer tells them apart once the round has begun. */
        private void takeBuns(int i, int each, int kept) {
            int icedFree = Math.max(0, icedLeft - kept);
            int eaten = Math.min(served[i] * each, icedFree + othersLeft);
            iced[i] = Math.min(eaten, icedFree);
            icedLeft -= iced[i];
            othersLeft -= eaten - iced[i];
            int withBuns = each == GREEDY_BUNS ? (eaten + GREEDY_BUNS - 1) / GREEDY_BUNS : eaten;
            totals[BUNLESS] += served[i] - withBuns;
        }
    }

    /** All orders of so many floors, one behind the other, the first by floors first. */
    private static final class Orders {
        final int[] order = new int[MOST_FLOORS];
        int size = 0;

        void begin(int floors) {
            size = floors;
            for (int i = 0; i < size; i++) {
                order[i] = i;
            }
        }

        void copyTo(int[] other) {
            System.arraycopy(order, 0, other, 0, size);
        }

        /** False if that was the last one. */
        boolean advance() {
            int rising = size - 2;
            while (rising >= 0 && order[rising] > order[rising + 1]) rising--;
            if (rising < 0) return false;
            int greater = size - 1;
            while (greater > rising && order[greater] < order[rising]) greater--;
            exchange(rising, greater);
            int low = rising + 1;
            int high = size - 1;
            while (low < high) {
                exchange(low, high);
                low++;
                high--;
            }
            return true;
        }

        private void exchange(int one, int other) {
            int held = order[one];
            order[one] = order[other];
            order[other] = held;
        }
    }

    /** The letters, and how they become a house. */
    private static final class Reader {
        final int[] letters = new int[MOST_LETTERS];
        int length = 0;

        /** The caller has seen that there is room. */
        void add(int c) {
            letters[length] = c;
            length++;
        }

        /** How many statements, or the fault; with a fault the house is left as it may be. */
        int readInto(House house) {
            int wrong = firstWrongLetter();
            if (wrong >= 0) return -1000 - wrong;
            int statements = 0;
            for (int start = 0; start < length; start += Math.max(1, lengthOfStatement(letters[start]))) {
                if (!apply(start, house)) return -2000 - start;
                statements++;
            }
            return statements;
        }

        /** -1 if there is none. */
        private int firstWrongLetter() {
            if (length == 0) return 0;
            for (int start = 0; start < length; start += Math.max(1, lengthOfStatement(letters[start]))) {
                int size = lengthOfStatement(letters[start]);
                if (size == 0) return start;
                for (int i = 1; i < size; i++) {
                    if (start + i >= length || !mayStand(start, i, size)) return start + i;
                }
            }
            return -1;
        }

        /** With its semicolon; 0 if no statement begins so. */
        private static int lengthOfStatement(int head) {
            switch (head) {
                case 'f': return 7;
                case 'u': return 6;
                case 'b': return 8;
                case 's': return 3;
                case 'g': return 4;
                case 'r': return 5;
                case 'x': return 4;
                default: return 0;
            }
        }

        private boolean mayStand(int start, int i, int size) {
            int c = letters[start + i];
            if (i == size - 1) return c == ';';
            if (i == 1 && letters[start] == 'f') return kindOf(c) >= 0;
            return c >= '0' && c <= '9';
        }

        /** -1 if it is the letter of none. */
        private static int kindOf(int c) {
            switch (c) {
                case 'o': return OFFICE;
                case 'm': return MEETING;
                case 't': return TELEPHONE;
                case 'd': return DIRECTOR;
                case 'g': return GREEDY;
                case 'q': return QUICK;
                default: return -1;
            }
        }

        /** Whether the statement is as it must be; only then all of it is in the house. */
        private boolean apply(int start, House house) {
            int i = start + 1;
            switch (letters[start]) {
                case 'f':
                    return applyFloor(i, house);
                case 'u':
                    return put(house, CUPS, two(i)) && put(house, WARM, two(i + 2));
                case 'b':
                    return put(house, ICED, two(i)) && put(house, CURRANT, two(i + 2))
                        && put(house, PLAIN, two(i + 4));
                case 's':
                    return put(house, START, digit(i));
                case 'g':
                    return put(house, GOING, digit(i)) && put(house, LIFT, digit(i + 1));
                case 'r':
                    return put(house, FILLING, digit(i)) && put(house, KEPT, two(i + 1));
                default:
                    return applyChange(i, house);
            }
        }

        private boolean applyFloor(int i, House house) {
            int people = two(i + 2);
            if (house.floors >= MOST_FLOORS || people < 1 || people > MOST_PEOPLE) return false;
            house.addFloor(kindOf(letters[i]), digit(i + 1), people, digit(i + 4));
            return true;
        }

        private boolean applyChange(int i, House house) {
            int one = digit(i);
            int other = digit(i + 1);
            if (!house.canSwap(one, other)) return false;
            house.swap(one, other);
            return true;
        }

        private static boolean put(House house, int setting, int v) {
            if (v > MOST_OF_SETTINGS[setting]) return false;
            house.settings[setting] = v;
            return true;
        }

        private int digit(int i) {
            return letters[i] - '0';
        }

        private int two(int i) {
            return 10 * digit(i) + digit(i + 1);
        }
    }
}
