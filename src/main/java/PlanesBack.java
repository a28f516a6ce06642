/**
 * Leased airliners that must be given back as told. The document DOC.md says what each call answers.
 *
 * Every row is made once, with the object, and used again: no call makes an object.
 */
public final class PlanesBack {
    public static final int BAD = -1, NOT = -2, FULL = -3, BIG = -4, VOID = -2000000000;

    private static final int MOST_KINDS = 10, MOST_PLANES = 10, MOST_PARTS = 100, MOST_STAYS = 500;
    private static final int MOST_LAWS = 10, MOST_ORDERS = 20, MOST_LINKS = 4, MOST_BYTES = 120;
    private static final int MOST_NEEDED = 3, MOST_TO_CHOOSE = 8, LAST_DAY = 9999;
    private static final int MOST_TOLD = 99999, MOST_USED = 999999, MOST_COINS = 2000000000;
    private static final int MOST_HALF = 1999999999;
    private static final int MEASURES = 3, HOURS = 0, LANDINGS = 1, DAYS = 2;
    private static final int SHOP = 10, STORE = 11, GONE = 12;
    private static final int NONE = -1;

    private final Kinds kinds;
    private final Planes planes;
    private final Parts parts;
    private final Stays stays;
    private final Tape tape;
    private final Laws laws;
    private final LawReader lawReader;
    private final Orders orders;
    private final Contracts contracts;
    private final Lives lives;
    private final Judge judge;
    private int today;
    private int paid;
    private int bestPrice;

    public PlanesBack() {
        kinds = new Kinds();
        planes = new Planes();
        stays = new Stays();
        parts = new Parts(stays);
        tape = new Tape();
        laws = new Laws();
        lawReader = new LawReader(tape);
        orders = new Orders(planes);
        contracts = new Contracts(tape);
        lives = new Lives(kinds, parts, laws);
        judge = new Judge(planes, lives, orders, contracts);
        bestPrice = VOID;
    }

    // ---- kinds, planes, time

    public int kind(int hours, int landings, int days, int coins) {
        if (!isTold(hours) || !isTold(landings) || !isTold(days) || !within(coins, 0, 999999)) {
            return BAD;
        }
        return kinds.add(hours, landings, days, coins);
    }

    public int plane(int worth) {
        if (!within(worth, 0, 999999)) {
            return BAD;
        }
        return planes.add(worth);
    }

    public int need(int plane, int kind, int n) {
        if (!planes.has(plane) || !kinds.has(kind) || !within(n, 0, MOST_NEEDED)) {
            return BAD;
        }
        if (planes.isBack(plane) || parts.ofKindAt(kind, plane) > n) {
            return NOT;
        }
        return planes.changeNeed(plane, kind, n);
    }

    public int days(int n) {
        if (!within(n, 1, 400) || today + n > LAST_DAY) {
            return BAD;
        }
        today += n;
        parts.age(n);
        return today;
    }

    public int fly(int plane, int hours, int landings) {
        if (!planes.has(plane) || !within(hours, 1, 999) || !within(landings, 0, 999)) {
            return BAD;
        }
        if (planes.isBack(plane) || judge.groundOf(plane, today, today) != 0) {
            return NOT;
        }
        if (!planes.canFly(plane, hours, landings) || !parts.canFly(plane, hours, landings)) {
            return NOT;
        }
        parts.wear(plane, hours, landings);
        setReservesAside(plane, hours);
        return planes.wear(plane, hours, landings);
    }

    public int ofPlane(int plane, int what) {
        if (!planes.has(plane)) {
            return VOID;
        }
        switch (what) {
            case 0: return planes.hours[plane];
            case 1: return planes.landings[plane];
            case 2: return planes.isBack(plane) ? 1 : 0;
            case 3: return parts.countAt(plane);
            case 4: return planes.worth[plane];
            case 5: return planes.backCost[plane];
            case 6: return planes.backDay[plane];
            case 7: return contracts.returnDay[plane];
            case 8: return contracts.rent[plane];
            default: return VOID;
        }
    }

    public int grounded(int plane, int k) {
        if (!planes.has(plane) || !isDay(k)) {
            return BAD;
        }
        return judge.groundOf(plane, k, today);
    }

    // ---- parts

    public int part(int kind, int number, int hours, int landings, int days) {
        if (!kinds.has(kind) || !within(number, 1, MOST_TOLD)) {
            return BAD;
        }
        if (!isTold(hours) || !isTold(landings) || !isTold(days)) {
            return BAD;
        }
        if (parts.size >= MOST_PARTS || !stays.hasRoom(1)) {
            return FULL;
        }
        int part = parts.add(kind, number);
        parts.setUsed(part, hours, landings, days);
        parts.begin(part, STORE, today);
        return part;
    }

    public int move(int part, int place) {
        if (!parts.has(part) || !isPlace(place)) {
            return BAD;
        }
        if (parts.place[part] == place || parts.place[part] == GONE || !takes(place, parts.kind[part])) {
            return NOT;
        }
        if (!stays.hasRoom(1)) {
            return FULL;
        }
        parts.go(part, place, today);
        return 1;
    }

    public int swap(int on, int stored) {
        if (!parts.has(on) || !parts.has(stored)) {
            return BAD;
        }
        int plane = parts.place[on];
        if (!planes.has(plane) || parts.place[stored] != STORE || parts.kind[on] != parts.kind[stored]) {
            return NOT;
        }
        if (!stays.hasRoom(2)) {
            return FULL;
        }
        parts.go(on, STORE, today);
        parts.go(stored, plane, today);
        return 1;
    }

    public int repair(int part, int measures) {
        if (!parts.has(part) || !within(measures, 1, 7)) {
            return BAD;
        }
        if (parts.place[part] != SHOP) {
            return NOT;
        }
        parts.renew(part, measures);
        return 1;
    }

    public int ofPart(int part, int what) {
        if (!parts.has(part)) {
            return VOID;
        }
        switch (what) {
            case 0: return parts.kind[part];
            case 1: return parts.number[part];
            case 2: return parts.place[part];
            case 3: return parts.usedOf(part, HOURS);
            case 4: return parts.usedOf(part, LANDINGS);
            case 5: return parts.usedOf(part, DAYS);
            case 6: return stays.countOf(part);
            case 7: return stays.gapsOf(part);
            case 8: return parts.whyCantBe(part, today);
            default: return VOID;
        }
    }

    public int left(int part, int measure, int k) {
        if (!parts.has(part) || !within(measure, 0, MEASURES - 1) || !isDay(k)) {
            return VOID;
        }
        if (kinds.limitOf(parts.kind[part], measure) == 0) {
            return VOID;
        }
        lives.reckon(part, k);
        return lives.rest[measure];
    }

    public int least(int part, int k) {
        if (!parts.has(part) || !isDay(k)) {
            return BAD;
        }
        int measure = lives.leastOf(part, k);
        return measure == NONE ? NOT : measure;
    }

    public int stay(int part, int i, int what) {
        int stay = stayAt(part, i);
        if (stay == NONE) {
            return VOID;
        }
        switch (what) {
            case 0: return stays.where[stay];
            case 1: return stays.from[stay];
            case 2: return stays.to[stay];
            case 3: return stays.usedAtStart(stay, HOURS);
            case 4: return parts.usedAtEnd(part, stay, HOURS);
            case 5: return stays.usedAtStart(stay, LANDINGS);
            case 6: return parts.usedAtEnd(part, stay, LANDINGS);
            case 7: return stays.paper[stay] ? 1 : 0;
            default: return VOID;
        }
    }

    public int paper(int part, int i, int is) {
        int stay = stayAt(part, i);
        if (stay == NONE || !within(is, 0, 1)) {
            return BAD;
        }
        if (stays.goesOn(stay)) {
            return NOT;
        }
        int was = stays.paper[stay] ? 1 : 0;
        stays.paper[stay] = is == 1;
        return was;
    }

    public int past(int part, int where, int days, int hours, int landings, int ends) {
        if (!parts.has(part) || !isPlace(where) || !isTold(hours) || !isTold(landings)) {
            return BAD;
        }
        if (days < 0 || ends < 0) {
            return BAD;
        }
        int first = days / 20000, last = days % 20000;
        int more = ends / 100000 - 500, hoursAtEnd = ends % 100000;
        int landingsAtEnd = landings + more;
        if (last > LAST_DAY || first > last || more > 499 || !isTold(landingsAtEnd)) {
            return BAD;
        }
        if (!stays.hasRoom(1)) {
            return FULL;
        }
        int stay = stays.add(part, where, first - LAST_DAY, hours, landings);
        stays.end(stay, last - LAST_DAY, hoursAtEnd, landingsAtEnd);
        return stays.countOf(part);
    }

    // ---- gap law, orders

    public int feed(int n, int v) {
        if (!within(n, 1, 4)) {
            return BAD;
        }
        return tape.take(n, v);
    }

    public int law(int from) {
        if (!isDay(from)) {
            return BAD;
        }
        if (laws.size >= MOST_LAWS) {
            return FULL;
        }
        int fault = lawReader.read(laws.code[laws.size]);
        tape.size = 0;
        if (fault != NONE) {
            return -100 - fault;
        }
        return laws.add(today, from, lawReader.size);
    }

    public int lost(int part, int i, int k) {
        int stay = stayAt(part, i);
        if (stay == NONE || !isDay(k)) {
            return BAD;
        }
        return stays.isGap(stay) ? lives.hundredths(part, stay, k) : NOT;
    }

    public int order(int kind, int day) {
        if (!kinds.has(kind) || !isDay(day)) {
            return BAD;
        }
        return orders.add(kind, day);
    }

    public int done(int order, int plane) {
        if (!orders.has(order) || !planes.has(plane)) {
            return BAD;
        }
        if (!orders.isDue(order, plane)) {
            return NOT;
        }
        orders.finish(order, plane);
        return 1;
    }

    // ---- contracts

    public int contract(int plane, int day, int rent) {
        if (!planes.has(plane) || !isDay(day) || !isTold(rent)) {
            return BAD;
        }
        if (planes.isBack(plane)) {
            return NOT;
        }
        int fault = contracts.read();
        tape.size = 0;
        if (fault != NONE) {
            return -100 - fault;
        }
        return contracts.sign(plane, day, rent);
    }

    public int lacks(int plane, int i, int day, int k) {
        if (!planes.has(plane) || !contracts.hasLine(plane, i) || !isDay(day) || !isDay(k)) {
            return BAD;
        }
        judge.survey(plane, NONE, k);
        return judge.unitsOf(plane, i, day);
    }

    public int costs(int plane, int i, int day, int k) {
        if (!planes.has(plane) || !contracts.isSigned(plane) || !isDay(day) || !isDay(k)) {
            return VOID;
        }
        if (i != -1 && !contracts.hasLine(plane, i)) {
            return VOID;
        }
        judge.survey(plane, NONE, k);
        return i == -1 ? judge.priceOf(plane, day) : judge.linePrice(plane, i, day);
    }

    public int giveBack(int plane) {
        if (!planes.has(plane)) {
            return BAD;
        }
        if (planes.isBack(plane) || !contracts.isSigned(plane)) {
            return NOT;
        }
        judge.survey(plane, NONE, today);
        int price = judge.priceOf(plane, today);
        planes.close(plane, price, today);
        parts.leaveWith(plane, today);
        return price;
    }

    public int best(int plane, int kind) {
        if (!planes.has(plane) || !kinds.has(kind)) {
            return BAD;
        }
        if (!contracts.isSigned(plane) || planes.isBack(plane) || planes.needOf(plane, kind) == 0) {
            return NOT;
        }
        if (parts.ofKindAt(kind, plane) + parts.ofKindAt(kind, STORE) > MOST_TO_CHOOSE) {
            return BIG;
        }
        judge.survey(plane, kind, today);
        judge.fillRow(plane, kind, today);
        int chosen = judge.choose(plane, planes.needOf(plane, kind), today);
        if (chosen != 0) {
            bestPrice = judge.chosenPrice;
        }
        return chosen;
    }

    public int bestCost() {
        return bestPrice;
    }

    // ---- coins

    public int reserve(int plane, int kind) {
        if (!planes.has(plane) || !kinds.has(kind)) {
            return BAD;
        }
        return planes.savedFor(plane, kind);
    }

    public int claim(int part, int coins) {
        if (!parts.has(part) || !within(coins, 1, 999999)) {
            return BAD;
        }
        int plane = parts.place[part] == SHOP ? parts.placeAhead(part) : NONE;
        if (!planes.has(plane)) {
            return NOT;
        }
        int out = planes.payOut(plane, parts.kind[part], coins);
        paid += out;
        return out;
    }

    public int half(int plane, int k) {
        if (!planes.has(plane) || !isDay(k)) {
            return VOID;
        }
        return lives.halfOf(plane, k);
    }

    public int insure(int plane) {
        if (!planes.has(plane)) {
            return BAD;
        }
        if (judge.groundOf(plane, today, today) != 0) {
            return 0;
        }
        int insured = planes.worth[plane] + Math.max(0, lives.halfOf(plane, today));
        return (insured + 999) / 1000;
    }

    public int link(int plane, int lessor, int rent) {
        if (!planes.has(plane) || !within(lessor, 0, 9) || !isTold(rent)) {
            return BAD;
        }
        return planes.addLink(plane, rent);
    }

    public int net(int plane, int i, int days) {
        if (!planes.has(plane) || !within(days, 1, 999) || !within(i, 0, planes.links[plane] - 1)) {
            return VOID;
        }
        return (planes.linkRent(plane, i) - planes.linkRent(plane, i + 1)) * days;
    }

    public int count(int what) {
        switch (what) {
            case 0: return kinds.size;
            case 1: return planes.size;
            case 2: return parts.size;
            case 3: return today;
            case 4: return laws.size;
            case 5: return orders.size;
            case 6: return stays.size;
            case 7: return tape.size;
            case 8: return parts.countAt(GONE);
            case 9: return parts.countAt(STORE);
            case 10: return parts.countAt(SHOP);
            case 11: return planes.backs();
            case 12: return paid;
            default: return BAD;
        }
    }

    // ---- what the calls share

    private static boolean within(int value, int low, int high) {
        return value >= low && value <= high;
    }

    private static boolean isDay(int day) {
        return within(day, 0, LAST_DAY);
    }

    private static boolean isTold(int value) {
        return within(value, 0, MOST_TOLD);
    }

    private static int held(long coins) {
        return (int) Math.min(MOST_COINS, coins);
    }

    private boolean isPlace(int place) {
        return planes.has(place) || place == SHOP || place == STORE;
    }

    private boolean takes(int place, int kind) {
        if (!planes.has(place)) {
            return true;
        }
        return !planes.isBack(place) && parts.ofKindAt(kind, place) < planes.needOf(place, kind);
    }

    private int stayAt(int part, int i) {
        return parts.has(part) ? stays.at(part, i) : NONE;
    }

    private void setReservesAside(int plane, int hours) {
        for (int kind = 0; kind < kinds.size; kind++) {
            planes.save(plane, kind, (long) hours * kinds.reserves[kind] * parts.ofKindAt(kind, plane));
        }
    }

    private static final class Kinds {
        int size;
        final int[] limits = new int[MOST_KINDS * MEASURES];
        final int[] rates = new int[MOST_KINDS];
        final int[] reserves = new int[MOST_KINDS];

        boolean has(int kind) {
            return kind >= 0 && kind < size;
        }

        int add(int hours, int landings, int days, int coins) {
            if (size >= MOST_KINDS) {
                return FULL;
            }
            limits[size * MEASURES + HOURS] = hours;
            limits[size * MEASURES + LANDINGS] = landings;
            limits[size * MEASURES + DAYS] = days;
            rates[size] = coins / 1000;
            reserves[size] = coins % 1000;
            return size++;
        }

        int limitOf(int kind, int measure) {
            return limits[kind * MEASURES + measure];
        }
    }

    private static final class Planes {
        int size;
        final int[] worth = new int[MOST_PLANES];
        final int[] hours = new int[MOST_PLANES];
        final int[] landings = new int[MOST_PLANES];
        final int[] backCost = new int[MOST_PLANES];
        final int[] backDay = new int[MOST_PLANES];
        final int[] links = new int[MOST_PLANES];
        final int[] rents = new int[MOST_PLANES * MOST_LINKS];
        final int[] needs = new int[MOST_PLANES * MOST_KINDS];
        final int[] saved = new int[MOST_PLANES * MOST_KINDS];

        boolean has(int plane) {
            return plane >= 0 && plane < size;
        }

        int add(int itsWorth) {
            if (size >= MOST_PLANES) {
                return FULL;
            }
            worth[size] = itsWorth;
            backCost[size] = -1;
            backDay[size] = -1;
            return size++;
        }

        boolean isBack(int plane) {
            return backDay[plane] >= 0;
        }

        void close(int plane, int price, int day) {
            backCost[plane] = price;
            backDay[plane] = day;
        }

        int backs() {
            int found = 0;
            for (int plane = 0; plane < size; plane++) {
                found += isBack(plane) ? 1 : 0;
            }
            return found;
        }

        int needOf(int plane, int kind) {
            return needs[plane * MOST_KINDS + kind];
        }

        int changeNeed(int plane, int kind, int n) {
            int was = needOf(plane, kind);
            needs[plane * MOST_KINDS + kind] = n;
            return was;
        }

        int needOfAll(int plane) {
            int sum = 0;
            for (int kind = 0; kind < MOST_KINDS; kind++) {
                sum += needOf(plane, kind);
            }
            return sum;
        }

        boolean canFly(int plane, int moreHours, int moreLandings) {
            return hours[plane] + moreHours <= MOST_USED && landings[plane] + moreLandings <= MOST_USED;
        }

        int wear(int plane, int moreHours, int moreLandings) {
            hours[plane] += moreHours;
            landings[plane] += moreLandings;
            return hours[plane];
        }

        int savedFor(int plane, int kind) {
            return saved[plane * MOST_KINDS + kind];
        }

        void save(int plane, int kind, long coins) {
            saved[plane * MOST_KINDS + kind] = held(savedFor(plane, kind) + coins);
        }

        int payOut(int plane, int kind, int coins) {
            int out = Math.min(coins, savedFor(plane, kind));
            saved[plane * MOST_KINDS + kind] -= out;
            return out;
        }

        // No call asks who a lessor is, so the rent alone is kept.
        int addLink(int plane, int rent) {
            if (links[plane] >= MOST_LINKS) {
                return FULL;
            }
            rents[plane * MOST_LINKS + links[plane]] = rent;
            links[plane]++;
            return links[plane];
        }

        int linkRent(int plane, int i) {
            return i >= 0 && i < links[plane] ? rents[plane * MOST_LINKS + i] : 0;
        }
    }

    private static final class Parts {
        final Stays stays;
        int size;
        final int[] kind = new int[MOST_PARTS];
        final int[] number = new int[MOST_PARTS];
        final int[] place = new int[MOST_PARTS];
        final int[] used = new int[MOST_PARTS * MEASURES];
        // The stay that goes on is not always the last in order: a past one may begin on its day.
        final int[] open = new int[MOST_PARTS];

        Parts(Stays stays) {
            this.stays = stays;
        }

        boolean has(int part) {
            return part >= 0 && part < size;
        }

        int add(int itsKind, int itsNumber) {
            kind[size] = itsKind;
            number[size] = itsNumber;
            stays.first[size] = NONE;
            return size++;
        }

        int usedOf(int part, int measure) {
            return used[part * MEASURES + measure];
        }

        void setUsed(int part, int hours, int landings, int days) {
            used[part * MEASURES + HOURS] = hours;
            used[part * MEASURES + LANDINGS] = landings;
            used[part * MEASURES + DAYS] = days;
        }

        void begin(int part, int itsPlace, int day) {
            place[part] = itsPlace;
            open[part] = stays.add(part, itsPlace, day, usedOf(part, HOURS), usedOf(part, LANDINGS));
        }

        void go(int part, int itsPlace, int day) {
            stays.end(open[part], day, usedOf(part, HOURS), usedOf(part, LANDINGS));
            begin(part, itsPlace, day);
        }

        void leaveWith(int plane, int day) {
            for (int part = 0; part < size; part++) {
                if (place[part] == plane) {
                    stays.end(open[part], day, usedOf(part, HOURS), usedOf(part, LANDINGS));
                    open[part] = NONE;
                    place[part] = GONE;
                }
            }
        }

        int countAt(int itsPlace) {
            int found = 0;
            for (int part = 0; part < size; part++) {
                found += place[part] == itsPlace ? 1 : 0;
            }
            return found;
        }

        int ofKindAt(int itsKind, int itsPlace) {
            int found = 0;
            for (int part = 0; part < size; part++) {
                found += kind[part] == itsKind && place[part] == itsPlace ? 1 : 0;
            }
            return found;
        }

        void age(int days) {
            for (int part = 0; part < size; part++) {
                if (place[part] != GONE) {
                    used[part * MEASURES + DAYS] += days;
                }
            }
        }

        boolean canFly(int plane, int hours, int landings) {
            for (int part = 0; part < size; part++) {
                if (place[part] == plane && (usedOf(part, HOURS) + hours > MOST_USED
                        || usedOf(part, LANDINGS) + landings > MOST_USED)) {
                    return false;
                }
            }
            return true;
        }

        void wear(int plane, int hours, int landings) {
            for (int part = 0; part < size; part++) {
                if (place[part] == plane) {
                    used[part * MEASURES + HOURS] += hours;
                    used[part * MEASURES + LANDINGS] += landings;
                }
            }
        }

        void renew(int part, int measures) {
            for (int measure = 0; measure < MEASURES; measure++) {
                if ((measures >> measure & 1) == 1) {
                    used[part * MEASURES + measure] = 0;
                }
            }
        }

        int usedAtEnd(int part, int stay, int measure) {
            return stays.goesOn(stay) ? usedOf(part, measure) : stays.usedAtEnd(stay, measure);
        }

        int placeAhead(int part) {
            int ahead = stays.aheadOf(part, open[part]);
            return ahead == NONE ? NONE : stays.where[ahead];
        }

        int whyCantBe(int part, int today) {
            if (stays.overlap(part, today)) {
                return 1;
            }
            if (growsLess(part)) {
                return 2;
            }
            return hasTwin(part) ? 3 : 0;
        }

        private boolean growsLess(int part) {
            int ahead = NONE, stay = stays.first[part];
            for (int n = 0; n < MOST_STAYS && stay != NONE; n++) {
                if (stays.where[stay] == SHOP) {
                    ahead = NONE;
                } else {
                    if (isLess(part, stay, stay) || ahead != NONE && isLess(part, ahead, stay)) {
                        return true;
                    }
                    ahead = stay;
                }
                stay = stays.next[stay];
            }
            return false;
        }

        // Of one stay its end is set against its own beginning, of two the later beginning against the end ahead.
        private boolean isLess(int part, int ahead, int stay) {
            for (int measure = HOURS; measure <= LANDINGS; measure++) {
                int end = usedAtEnd(part, ahead, measure), start = stays.usedAtStart(stay, measure);
                if (ahead == stay ? end < start : start < end) {
                    return true;
                }
            }
            return false;
        }

        private boolean hasTwin(int part) {
            for (int other = 0; other < size; other++) {
                if (other != part && place[other] != GONE
                        && kind[other] == kind[part] && number[other] == number[part]) {
                    return true;
                }
            }
            return false;
        }
    }

    /** The stays of all parts as they were told, with a chain for each part in the order of their beginnings. */
    private static final class Stays {
        int size;
        final int[] where = new int[MOST_STAYS];
        final int[] from = new int[MOST_STAYS];
        final int[] to = new int[MOST_STAYS];
        final int[] hoursAtStart = new int[MOST_STAYS];
        final int[] hoursAtEnd = new int[MOST_STAYS];
        final int[] landingsAtStart = new int[MOST_STAYS];
        final int[] landingsAtEnd = new int[MOST_STAYS];
        final boolean[] paper = new boolean[MOST_STAYS];
        final int[] next = new int[MOST_STAYS];
        final int[] first = new int[MOST_PARTS];

        boolean hasRoom(int n) {
            return size + n <= MOST_STAYS;
        }

        int add(int part, int place, int day, int hours, int landings) {
            if (size >= MOST_STAYS) {
                return NONE;
            }
            where[size] = place;
            from[size] = day;
            to[size] = VOID;
            hoursAtStart[size] = hours;
            landingsAtStart[size] = landings;
            chain(part, size);
            return size++;
        }

        private void chain(int part, int stay) {
            int ahead = NONE, behind = first[part];
            for (int n = 0; n < MOST_STAYS && behind != NONE && from[behind] <= from[stay]; n++) {
                ahead = behind;
                behind = next[behind];
            }
            next[stay] = behind;
            if (ahead == NONE) {
                first[part] = stay;
            } else {
                next[ahead] = stay;
            }
        }

        void end(int stay, int day, int hours, int landings) {
            if (stay < 0 || stay >= size) {
                return;
            }
            to[stay] = day;
            hoursAtEnd[stay] = hours;
            landingsAtEnd[stay] = landings;
        }

        boolean goesOn(int stay) {
            return to[stay] == VOID;
        }

        boolean isGap(int stay) {
            return !goesOn(stay) && !paper[stay];
        }

        int usedAtStart(int stay, int measure) {
            return measure == HOURS ? hoursAtStart[stay] : landingsAtStart[stay];
        }

        int usedAtEnd(int stay, int measure) {
            return measure == HOURS ? hoursAtEnd[stay] : landingsAtEnd[stay];
        }

        int at(int part, int i) {
            int stay = i < 0 ? NONE : first[part];
            for (int n = 0; n < i && stay != NONE; n++) {
                stay = next[stay];
            }
            return stay;
        }

        int aheadOf(int part, int stay) {
            int ahead = NONE, other = first[part];
            for (int n = 0; n < MOST_STAYS && other != NONE && other != stay; n++) {
                ahead = other;
                other = next[other];
            }
            return ahead;
        }

        int countOf(int part) {
            int found = 0, stay = first[part];
            for (int n = 0; n < MOST_STAYS && stay != NONE; n++) {
                found++;
                stay = next[stay];
            }
            return found;
        }

        int gapsOf(int part) {
            int found = 0, stay = first[part];
            for (int n = 0; n < MOST_STAYS && stay != NONE; n++) {
                found += isGap(stay) ? 1 : 0;
                stay = next[stay];
            }
            return found;
        }

        int gapsAhead(int part, int stay) {
            int found = 0, other = first[part];
            boolean earlier = true;
            for (int n = 0; n < MOST_STAYS && other != NONE; n++) {
                if (other == stay) {
                    earlier = false;
                } else if (isGap(other) && (to[other] < to[stay] || earlier && to[other] == to[stay])) {
                    found++;
                }
                other = next[other];
            }
            return found;
        }

        boolean overlap(int part, int today) {
            int stay = first[part];
            for (int n = 0; n < MOST_STAYS && stay != NONE; n++) {
                int other = next[stay];
                for (int m = 0; m < MOST_STAYS && other != NONE; m++) {
                    if (where[stay] != where[other] && from[stay] < lastDay(other, today)
                            && from[other] < lastDay(stay, today)) {
                        return true;
                    }
                    other = next[other];
                }
                stay = next[stay];
            }
            return false;
        }

        private int lastDay(int stay, int today) {
            return goesOn(stay) ? today : to[stay];
        }
    }

    private static final class Tape {
        static final int END = -1;

        int size;
        final int[] bytes = new int[MOST_BYTES];

        int take(int n, int v) {
            if (size + n > MOST_BYTES) {
                return FULL;
            }
            for (int i = 0; i < n; i++) {
                bytes[size + i] = v >> 8 * i & 255;
            }
            size += n;
            return size;
        }

        int at(int place) {
            return place >= 0 && place < size ? bytes[place] : END;
        }

        boolean hasDigitAt(int place) {
            return at(place) >= '0' && at(place) <= '9';
        }

        /** How many digits of one number stand there: a sixth is none of its own. */
        int digitsAt(int place) {
            int digits = 0;
            while (digits < 5 && hasDigitAt(place + digits)) {
                digits++;
            }
            return digits;
        }

        int numberAt(int place, int digits) {
            int number = 0;
            for (int i = 0; i < digits; i++) {
                number = number * 10 + at(place + i) - '0';
            }
            return number;
        }
    }

    /** The laws as steps for a stack, so that a law's text is read just once. */
    private static final class Laws {
        static final int NUMBER = 0, NAME = 1, NEGATE = 2, SKIP = 3, SKIP_IF_ZERO = 4;
        static final int ADD = 5, LESS_BY = 6, TIMES = 7, DIVIDE = 8, BELOW = 9, SAME = 10, ABOVE = 11;
        static final String NAMES = "dhlwkn";

        int size;
        final int[] made = new int[MOST_LAWS];
        final int[] from = new int[MOST_LAWS];
        final int[] length = new int[MOST_LAWS];
        final int[][] code = new int[MOST_LAWS][MOST_BYTES];
        final int[] stack = new int[MOST_BYTES];
        int top;

        int add(int day, int fromDay, int steps) {
            if (size >= MOST_LAWS) {
                return FULL;
            }
            made[size] = day;
            from[size] = fromDay;
            length[size] = steps;
            return size++;
        }

        int inForce(int end, int k) {
            for (int law = size - 1; law >= 0; law--) {
                if (made[law] <= k && from[law] <= end) {
                    return law;
                }
            }
            return NONE;
        }

        int workOut(int law, int[] names) {
            top = 0;
            for (int i = 0; i < length[law]; i++) {
                int step = code[law][i] & 15, value = code[law][i] >> 4;
                switch (step) {
                    case NUMBER: push(value); break;
                    case NAME: push(value < names.length ? names[value] : 0); break;
                    case NEGATE: push(-pop()); break;
                    // A skip leads on to a later step; the loop itself goes one further.
                    case SKIP: i = Math.max(i, value - 1); break;
                    case SKIP_IF_ZERO: i = pop() == 0 ? Math.max(i, value - 1) : i; break;
                    default:
                        int second = pop();
                        push(join(step, pop(), second));
                }
            }
            return pop();
        }

        private void push(int value) {
            if (top < stack.length) {
                stack[top] = value;
                top++;
            }
        }

        private int pop() {
            if (top <= 0) {
                return 0;
            }
            top--;
            return stack[top];
        }

        private static int join(int step, int a, int b) {
            switch (step) {
                case ADD: return a + b;
                case LESS_BY: return a - b;
                case TIMES: return a * b;
                case DIVIDE: return b == 0 ? 0 : a / b;
                case BELOW: return a < b ? 1 : 0;
                case SAME: return a == b ? 1 : 0;
                default: return a > b ? 1 : 0;
            }
        }
    }

    /** Reads a law from the tape by its grammar: one method for each of E, C, S, P and O. */
    private static final class LawReader {
        static final int MOST_OPEN = 8;

        final Tape tape;
        int[] code;
        int size;
        int place;
        int fault;

        LawReader(Tape tape) {
            this.tape = tape;
            this.code = new int[0];
        }

        int read(int[] into) {
            code = into;
            size = 0;
            place = 0;
            fault = NONE;
            readChoice(0);
            if (place < tape.size) {
                fail();
            }
            return fault;
        }

        // Behind a fault nothing more is read, so the first one stays and every method comes to its end.
        private int next() {
            return fault == NONE ? tape.at(place) : Tape.END;
        }

        private void fail() {
            if (fault == NONE) {
                fault = place;
            }
        }

        private void take(char wanted) {
            if (next() == wanted) {
                place++;
            } else {
                fail();
            }
        }

        private boolean opens(int depth) {
            if (depth >= MOST_OPEN) {
                fail();
                return false;
            }
            place++;
            return true;
        }

        private int put(int step, int value) {
            if (size < code.length) {
                code[size] = step | value << 4;
                size++;
            }
            return size - 1;
        }

        // A skip is put before it is known where it leads.
        private void leadHere(int skip) {
            if (skip >= 0 && skip < code.length) {
                code[skip] = code[skip] & 15 | size << 4;
            }
        }

        private void readChoice(int depth) {
            readComparison(depth);
            if (next() == '?' && opens(depth)) {
                int toSecond = put(Laws.SKIP_IF_ZERO, 0);
                readChoice(depth + 1);
                take(':');
                int toEnd = put(Laws.SKIP, 0);
                leadHere(toSecond);
                readChoice(depth + 1);
                leadHere(toEnd);
            }
        }

        private void readComparison(int depth) {
            readSum(depth);
            int sign = next();
            if (sign == '<' || sign == '=' || sign == '>') {
                place++;
                readSum(depth);
                put(sign == '<' ? Laws.BELOW : sign == '=' ? Laws.SAME : Laws.ABOVE, 0);
            }
        }

        private void readSum(int depth) {
            readProduct(depth);
            for (int n = 0; n < MOST_BYTES && (next() == '+' || next() == '-'); n++) {
                int step = next() == '+' ? Laws.ADD : Laws.LESS_BY;
                place++;
                readProduct(depth);
                put(step, 0);
            }
        }

        private void readProduct(int depth) {
            readOperand(depth);
            for (int n = 0; n < MOST_BYTES && (next() == '*' || next() == '/'); n++) {
                int step = next() == '*' ? Laws.TIMES : Laws.DIVIDE;
                place++;
                readOperand(depth);
                put(step, 0);
            }
        }

        private void readOperand(int depth) {
            int first = next();
            if (first == '-') {
                if (opens(depth)) {
                    readOperand(depth + 1);
                    put(Laws.NEGATE, 0);
                }
            } else if (first == '(') {
                if (opens(depth)) {
                    readChoice(depth + 1);
                    take(')');
                }
            } else {
                readNumberOrName(first);
            }
        }

        private void readNumberOrName(int first) {
            int name = first == Tape.END ? NONE : Laws.NAMES.indexOf((char) first);
            int digits = first == Tape.END ? 0 : tape.digitsAt(place);
            if (name >= 0) {
                put(Laws.NAME, name);
                place++;
            } else if (digits > 0) {
                put(Laws.NUMBER, tape.numberAt(place, digits));
                place += digits;
            } else {
                fail();
            }
        }
    }

    private static final class Orders {
        final Planes planes;
        int size;
        final int[] kind = new int[MOST_ORDERS];
        final int[] day = new int[MOST_ORDERS];
        final boolean[] isDone = new boolean[MOST_ORDERS * MOST_PLANES];

        Orders(Planes planes) {
            this.planes = planes;
        }

        boolean has(int order) {
            return order >= 0 && order < size;
        }

        int add(int itsKind, int itsDay) {
            if (size >= MOST_ORDERS) {
                return FULL;
            }
            kind[size] = itsKind;
            day[size] = itsDay;
            return size++;
        }

        void finish(int order, int plane) {
            isDone[order * MOST_PLANES + plane] = true;
        }

        boolean isDue(int order, int plane) {
            return planes.needOf(plane, kind[order]) > 0 && !isDone[order * MOST_PLANES + plane];
        }

        int countDue(int plane) {
            int found = 0;
            for (int order = 0; order < size; order++) {
                found += isDue(order, plane) ? 1 : 0;
            }
            return found;
        }

        boolean anyLate(int plane, int today) {
            for (int order = 0; order < size; order++) {
                if (day[order] < today && isDue(order, plane)) {
                    return true;
                }
            }
            return false;
        }
    }

    /** A contract's lines, four ints each: the letter and up to three numbers. */
    private static final class Contracts {
        static final int WIDTH = 4, MOST_LINES = 30;

        final Tape tape;
        final int[] lines = new int[MOST_PLANES];
        final int[] returnDay = new int[MOST_PLANES];
        final int[] rent = new int[MOST_PLANES];
        final int[][] texts = new int[MOST_PLANES][MOST_LINES * WIDTH];
        // A text with a fault must leave the earlier contract, so it is read here first.
        final int[] draft = new int[MOST_LINES * WIDTH];
        int drafted;
        int place;
        int fault;

        Contracts(Tape tape) {
            this.tape = tape;
            for (int plane = 0; plane < MOST_PLANES; plane++) {
                returnDay[plane] = -1;
            }
        }

        boolean isSigned(int plane) {
            return lines[plane] > 0;
        }

        boolean hasLine(int plane, int i) {
            return i >= 0 && i < lines[plane];
        }

        int letterOf(int plane, int i) {
            return texts[plane][i * WIDTH];
        }

        int numberOf(int plane, int i, int n) {
            return texts[plane][i * WIDTH + n];
        }

        int sign(int plane, int day, int itsRent) {
            System.arraycopy(draft, 0, texts[plane], 0, drafted * WIDTH);
            lines[plane] = drafted;
            returnDay[plane] = day;
            rent[plane] = itsRent;
            return drafted;
        }

        int read() {
            drafted = 0;
            place = 0;
            fault = NONE;
            do {
                readLine();
                drafted++;
            } while (drafted < MOST_LINES && fault == NONE && place < tape.size);
            return fault;
        }

        private void readLine() {
            int letter = tape.at(place);
            int numbers = numbersBehind(letter);
            if (numbers == 0) {
                fault = place;
                return;
            }
            place++;
            draft[drafted * WIDTH] = letter;
            for (int n = 1; n <= numbers && fault == NONE; n++) {
                take(' ');
                readNumber(drafted * WIDTH + n);
            }
            take(';');
        }

        private static int numbersBehind(int letter) {
            switch (letter) {
                case 'h': case 'l': case 'd': return 3;
                case 't': return 2;
                case 'g': case 'o': case 'm': return 1;
                default: return 0;
            }
        }

        private void take(char wanted) {
            if (fault != NONE) {
                return;
            }
            if (tape.at(place) == wanted) {
                place++;
            } else {
                fault = place;
            }
        }

        private void readNumber(int into) {
            if (fault != NONE) {
                return;
            }
            int digits = tape.digitsAt(place);
            if (digits == 0) {
                fault = place;
                return;
            }
            draft[into] = tape.numberAt(place, digits);
            place += digits;
        }
    }

    /** What is left in parts, and what they are worth by it. */
    private static final class Lives {
        final Kinds kinds;
        final Parts parts;
        final Stays stays;
        final Laws laws;
        final int[] names = new int[Laws.NAMES.length()];
        final int[] rest = new int[MEASURES];

        Lives(Kinds kinds, Parts parts, Laws laws) {
            this.kinds = kinds;
            this.parts = parts;
            this.stays = parts.stays;
            this.laws = laws;
        }

        int hundredths(int part, int stay, int k) {
            int law = laws.inForce(stays.to[stay], k);
            if (law == NONE) {
                return 0;
            }
            names[0] = stays.to[stay] - stays.from[stay];
            names[1] = stays.hoursAtEnd[stay] - stays.hoursAtStart[stay];
            names[2] = stays.landingsAtEnd[stay] - stays.landingsAtStart[stay];
            names[3] = stays.where[stay];
            names[4] = parts.kind[part];
            names[5] = stays.gapsAhead(part, stay);
            return Math.max(0, Math.min(100, laws.workOut(law, names)));
        }

        /** Puts what is left of a part's measures into the row rest; one without a limit says nothing there. */
        void reckon(int part, int k) {
            int kind = parts.kind[part];
            for (int measure = 0; measure < MEASURES; measure++) {
                rest[measure] = kinds.limitOf(kind, measure) - parts.usedOf(part, measure);
            }
            int stay = stays.first[part];
            for (int n = 0; n < MOST_STAYS && stay != NONE; n++) {
                if (stays.isGap(stay)) {
                    takeAway(kind, hundredths(part, stay, k));
                }
                stay = stays.next[stay];
            }
        }

        private void takeAway(int kind, int share) {
            for (int measure = 0; measure < MEASURES; measure++) {
                rest[measure] -= kinds.limitOf(kind, measure) * share / 100;
            }
        }

        int leastOf(int part, int k) {
            reckon(part, k);
            int found = NONE;
            long least = 0;
            for (int measure = 0; measure < MEASURES; measure++) {
                int limit = kinds.limitOf(parts.kind[part], measure);
                if (limit > 0) {
                    long share = rest[measure] * 10000L / limit;
                    if (found == NONE || share < least) {
                        found = measure;
                        least = share;
                    }
                }
            }
            return found;
        }

        boolean isWornOut(int part, int k) {
            reckon(part, k);
            for (int measure = 0; measure < MEASURES; measure++) {
                if (kinds.limitOf(parts.kind[part], measure) > 0 && rest[measure] < 0) {
                    return true;
                }
            }
            return false;
        }

        int halfOf(int plane, int k) {
            long sum = 0;
            for (int part = 0; part < parts.size; part++) {
                if (parts.place[part] == plane) {
                    sum += halfOfPart(part, k);
                }
            }
            return (int) Math.max(-MOST_HALF, Math.min(MOST_HALF, sum));
        }

        private long halfOfPart(int part, int k) {
            int kind = parts.kind[part];
            long sum = 0;
            reckon(part, k);
            for (int measure = 0; measure < MEASURES; measure++) {
                int limit = kinds.limitOf(kind, measure);
                if (limit > 0) {
                    sum += (long) (rest[measure] - limit / 2) * kinds.rates[kind] / 100;
                }
            }
            return sum;
        }
    }

    /** Judges planes: what grounds them, what they lack by contract, and with which parts they cost least. */
    private static final class Judge {
        final Planes planes;
        final Lives lives;
        final Kinds kinds;
        final Parts parts;
        final Orders orders;
        final Contracts contracts;
        // What a part has left is worked out once a call, however many lines and choices ask for it.
        final int[] rests = new int[MOST_PARTS * MEASURES];
        final int[] gaps = new int[MOST_PARTS];
        final int[] judged = new int[MOST_PARTS];
        int judgedSize;
        final int[] row = new int[MOST_TO_CHOOSE];
        int rowSize;
        int chosenPrice;

        Judge(Planes planes, Lives lives, Orders orders, Contracts contracts) {
            this.planes = planes;
            this.lives = lives;
            this.kinds = lives.kinds;
            this.parts = lives.parts;
            this.orders = orders;
            this.contracts = contracts;
        }

        // A plane never has more of a kind than it needs: so what it lacks in all is its needs less its parts.
        int groundOf(int plane, int k, int today) {
            if (parts.countAt(plane) < planes.needOfAll(plane)) {
                return 1;
            }
            for (int part = 0; part < parts.size; part++) {
                if (parts.place[part] == plane && lives.isWornOut(part, k)) {
                    return 2;
                }
            }
            return orders.anyLate(plane, today) ? 3 : 0;
        }

        /** The parts on a plane will be judged, but for those of one kind, if that is not NONE. */
        void survey(int plane, int butKind, int k) {
            judgedSize = 0;
            for (int part = 0; part < parts.size; part++) {
                if (parts.place[part] == plane && parts.kind[part] != butKind) {
                    look(part, k);
                    judge(part);
                }
            }
        }

        private void look(int part, int k) {
            lives.reckon(part, k);
            System.arraycopy(lives.rest, 0, rests, part * MEASURES, MEASURES);
            gaps[part] = parts.stays.gapsOf(part);
        }

        private void judge(int part) {
            if (judgedSize < judged.length) {
                judged[judgedSize] = part;
                judgedSize++;
            }
        }

        int priceOf(int plane, int day) {
            long sum = 0;
            for (int i = 0; i < contracts.lines[plane]; i++) {
                sum += linePrice(plane, i, day);
            }
            return held(sum);
        }

        int linePrice(int plane, int i, int day) {
            long units = unitsOf(plane, i, day);
            switch (contracts.letterOf(plane, i)) {
                case 'h': case 'l': case 'd': return held(units * contracts.numberOf(plane, i, 3));
                case 't': return latePrice(plane, i, units);
                default: return held(units * contracts.numberOf(plane, i, 1));
            }
        }

        private int latePrice(int plane, int i, long late) {
            long rent = contracts.rent[plane];
            long full = Math.min(late, contracts.numberOf(plane, i, 1));
            return held(full * rent + (late - full) * (rent * contracts.numberOf(plane, i, 2) / 100));
        }

        int unitsOf(int plane, int i, int day) {
            switch (contracts.letterOf(plane, i)) {
                case 'h': return shortOf(plane, i, HOURS);
                case 'l': return shortOf(plane, i, LANDINGS);
                case 'd': return shortOf(plane, i, DAYS);
                case 'g': return gapsOfAll();
                case 'o': return orders.countDue(plane);
                case 'm': return planes.needOfAll(plane) - judgedSize;
                default: return Math.max(0, day - contracts.returnDay[plane]);
            }
        }

        private int shortOf(int plane, int i, int measure) {
            int kind = contracts.numberOf(plane, i, 1), wanted = contracts.numberOf(plane, i, 2);
            if (!kinds.has(kind) || kinds.limitOf(kind, measure) == 0) {
                return 0;
            }
            int sum = 0;
            for (int n = 0; n < judgedSize; n++) {
                if (parts.kind[judged[n]] == kind) {
                    sum += Math.max(0, wanted - rests[judged[n] * MEASURES + measure]);
                }
            }
            return sum;
        }

        private int gapsOfAll() {
            int sum = 0;
            for (int n = 0; n < judgedSize; n++) {
                sum += gaps[judged[n]];
            }
            return sum;
        }

        void fillRow(int plane, int kind, int today) {
            rowSize = 0;
            for (int part = 0; part < parts.size && rowSize < row.length; part++) {
                int place = parts.place[part];
                if (parts.kind[part] == kind && (place == plane || place == STORE)) {
                    look(part, today);
                    row[rowSize] = part;
                    rowSize++;
                }
            }
        }

        /**
         * The best of the row, beside the parts surveyed, as bits of their places; 0, if the row is empty.
         * A price is a sum over parts: so of sets that cost the same the one with the lowest bits
         * is also the first by rising numbers.
         */
        int choose(int plane, int need, int today) {
            int others = judgedSize, wanted = Math.min(need, rowSize), found = 0, foundNew = 0;
            for (int bits = 1; bits < 1 << rowSize; bits++) {
                if (Integer.bitCount(bits) == wanted) {
                    judgedSize = others;
                    judgeOfRow(bits);
                    int price = priceOf(plane, today), fresh = countNotOn(bits, plane);
                    if (found == 0 || price < chosenPrice || price == chosenPrice && fresh < foundNew) {
                        found = bits;
                        foundNew = fresh;
                        chosenPrice = price;
                    }
                }
            }
            return found;
        }

        private void judgeOfRow(int bits) {
            for (int n = 0; n < rowSize; n++) {
                if ((bits >> n & 1) == 1) {
                    judge(row[n]);
                }
            }
        }

        private int countNotOn(int bits, int plane) {
            int found = 0;
            for (int n = 0; n < rowSize; n++) {
                found += (bits >> n & 1) == 1 && parts.place[row[n]] != plane ? 1 : 0;
            }
            return found;
        }
    }
}
