import java.io.IOException;

/** Boundary cases of promises 1 to 8, and of the terms that they go by. */
public final class EdgesKindsPlanesTest extends Sentences {
    private EdgesKindsPlanesTest() throws IOException {
        super("EdgesKindsPlanesTest");
    }

    public static void main(String[] args) throws IOException {
        EdgesKindsPlanesTest t = new EdgesKindsPlanesTest();
        t.aNewObject();
        t.nothingIsThereAtFirst();
        t.constants();
        t.changesNothing();
        t.callsOfOneObject();
        t.day();
        t.tenKinds();
        t.limits();
        t.coins();
        t.ratesAndReserves();
        t.kindsAnswers();
        t.tenPlanes();
        t.worth();
        t.planesAtFirst();
        t.planesAnswers();
        t.needed();
        t.needsAnswers();
        t.needsWhatIsOn();
        t.daysGoBy();
        t.daysBeyond();
        t.daysOfParts();
        t.usedOnAPlane();
        t.flown();
        t.flightsRefused();
        t.flightsTooFar();
        t.flightsAnswers();
        t.ofPlanes();
        t.ofEachPlane();
        t.ofReturned();
        t.groundedDays();
        t.groundedByMissing();
        t.groundedByLeft();
        t.groundedByOrder();
        t.ordersOfEachPlane();
        t.groundedFirst();
        t.groundedReturned();
        t.groundedAsKnown();
        t.end(1, 8);
    }

    private void aNewObject() {
        promise(1, "DAY 0, no kinds, no planes, no parts.");
        for (int what = 0; what <= 12; what++) {
            int asked = what;
            due("count " + what, start(), x -> x.count(asked), 0);
        }
        due("bestCost", start(), x -> x.bestCost(), VOID);
    }

    private void nothingIsThereAtFirst() {
        terms("BAD (-1): no such kind, plane, part, or a number is not as said");
        Scene s = start();
        refused("need", s, x -> x.need(0, 0, 0), BAD);
        refused("fly", s, x -> x.fly(0, 1, 0), BAD);
        refused("ofPlane", s, x -> x.ofPlane(0, 0), VOID);
        refused("grounded", s, x -> x.grounded(0, 0), BAD);
        refused("part", s, x -> x.part(0, 1, 0, 0, 0), BAD);
        refused("move", s, x -> x.move(0, 10), BAD);
        refused("swap", s, x -> x.swap(0, 0), BAD);
        refused("repair", s, x -> x.repair(0, 1), BAD);
        refused("ofPart", s, x -> x.ofPart(0, 0), VOID);
        refused("left", s, x -> x.left(0, 0, 0), VOID);
        refused("least", s, x -> x.least(0, 0), BAD);
        refused("stay", s, x -> x.stay(0, 0, 0), VOID);
        refused("paper", s, x -> x.paper(0, 0, 0), BAD);
        refused("past", s, x -> x.past(0, 11, 0, 0, 0, 50000000), BAD);
        refused("lost", s, x -> x.lost(0, 0, 0), BAD);
        refused("order", s, x -> x.order(0, 0), BAD);
        refused("done", s, x -> x.done(0, 0), BAD);
        refused("contract", s, x -> x.contract(0, 0, 0), BAD);
        refused("lacks", s, x -> x.lacks(0, 0, 0, 0), BAD);
        refused("costs", s, x -> x.costs(0, -1, 0, 0), VOID);
        refused("giveBack", s, x -> x.giveBack(0), BAD);
        refused("best", s, x -> x.best(0, 0), BAD);
        refused("reserve", s, x -> x.reserve(0, 0), BAD);
        refused("claim", s, x -> x.claim(0, 1), BAD);
        refused("half", s, x -> x.half(0, 0), VOID);
        refused("insure", s, x -> x.insure(0), BAD);
        refused("link", s, x -> x.link(0, 0, 0), BAD);
        refused("net", s, x -> x.net(0, 0, 1), VOID);
    }

    private void constants() {
        terms("BAD (-1)");
        due("BAD", start(), x -> PlanesBack.BAD, -1);
        terms("NOT (-2): as told; FULL (-3); BIG (-4). VOID is -2000000000.");
        due("NOT", start(), x -> PlanesBack.NOT, -2);
        due("FULL", start(), x -> PlanesBack.FULL, -3);
        due("BIG", start(), x -> PlanesBack.BIG, -4);
        due("VOID", start(), x -> PlanesBack.VOID, -2000000000);
    }

    private void changesNothing() {
        terms("What is answered so changes nothing.");
        for (int far : new int[] {MIN, -1000000000, 1000000000, MAX}) {
            refused("calls that are BAD by " + far, rich(), x -> answersBy(x, far, BAD), 27);
            refused("calls that are VOID by " + far, rich(), x -> answersBy(x, far, VOID), 7);
        }
    }

    /** Every call that takes a number, with every number as far off as can be: how many give this answer. */
    private static int answersBy(PlanesBack x, int far, int answer) {
        int[] all = {x.kind(far, far, far, far), x.plane(far), x.need(far, far, far), x.days(far), x.fly(far, far, far),
            x.ofPlane(far, far), x.grounded(far, far), x.part(far, far, far, far, far), x.move(far, far),
            x.swap(far, far), x.repair(far, far), x.ofPart(far, far), x.left(far, far, far), x.least(far, far),
            x.stay(far, far, far), x.paper(far, far, far), x.past(far, far, far, far, far, far), x.feed(far, far),
            x.law(far), x.lost(far, far, far), x.order(far, far), x.done(far, far), x.contract(far, far, far),
            x.lacks(far, far, far, far), x.costs(far, far, far, far), x.giveBack(far), x.best(far, far),
            x.reserve(far, far), x.claim(far, far), x.half(far, far), x.insure(far), x.link(far, far, far),
            x.net(far, far, far), x.count(far)};
        int found = 0;
        for (int got : all) {
            found += got == answer ? 1 : 0;
        }
        return found;
    }

    private void callsOfOneObject() {
        terms("An object is used for at most 512 calls after it has been made");
        Scene s = rich();
        Scene all = s.times(511 - s.size(), i -> x -> x.days(1));
        due("the 512th call", all, x -> x.days(1), 4 + 512 - s.size());
        due("the 512th call is a question", all, x -> x.ofPart(0, 5), 34 + 511 - s.size());
        refused("the 512th call is refused", all, x -> x.days(0), BAD);
    }

    private void day() {
        terms("DAY is a count, 0 at first, at most 9999.");
        due("at first", start(), x -> x.count(3), 0);
        Scene s = start().times(24, i -> x -> x.days(400)).then(x -> x.days(398));
        due("ahead of the last", s, x -> x.count(3), 9998);
        due("the last", s, x -> x.days(1), 9999);
        refused("beyond the last", s, x -> x.days(2), BAD);
        refused("beyond the last, which is today", s.then(x -> x.days(1)), x -> x.days(1), BAD);
    }

    private void tenKinds() {
        terms("KINDS 0 .. 9 of parts, as they were told");
        Scene nine = start().times(9, i -> x -> x.kind(i, i, i, i));
        due("the ninth", start().times(8, i -> x -> x.kind(i, i, i, i)), x -> x.kind(1, 1, 1, 1), 8);
        due("the tenth", nine, x -> x.kind(1, 1, 1, 1), 9);
        refused("an eleventh", nine.then(x -> x.kind(0, 0, 0, 0)), x -> x.kind(1, 1, 1, 1), FULL);
        Scene ten = nine.then(x -> x.kind(9, 9, 9, 9));
        within("parts of kind", ten, v -> x -> x.part(v, 1, 0, 0, 0), 0, 9, 0, BAD);
        due("its own limit", ten.then(x -> x.part(9, 1, 0, 0, 0)), x -> x.left(0, 2, 0), 9);
    }

    private void limits() {
        terms("LIMITS of HOURS, LANDINGS and DAYS (0 .. 99999 each; 0: none)");
        Scene s = rich();
        within("hours", s, v -> x -> x.kind(v, 0, 0, 0), 0, 99999, 3, BAD);
        within("landings", s, v -> x -> x.kind(0, v, 0, 0), 0, 99999, 3, BAD);
        within("days", s, v -> x -> x.kind(0, 0, v, 0), 0, 99999, 3, BAD);
        for (int measure = 0; measure < 3; measure++) {
            int m = measure;
            for (int limit : new int[] {0, 1, 99999}) {
                int[] of = {0, 0, 0};
                of[m] = limit;
                Scene one = start().then(x -> x.kind(of[0], of[1], of[2], 0), x -> x.part(0, 1, 1, 1, 1));
                due("left of " + limit, one, x -> x.left(0, m, 0), limit == 0 ? VOID : limit - 1);
            }
        }
    }

    private void coins() {
        promise(2, "coins: 1000 times RATE, and RESERVE.");
        within("coins", rich(), v -> x -> x.kind(0, 0, 0, v), 0, 999999, 3, BAD);
        int[][] told = {{0, 0, 0}, {1, 0, 1}, {999, 0, 999}, {1000, 1, 0}, {1001, 1, 1}, {999000, 999, 0},
            {999999, 999, 999}};
        for (int[] coins : told) {
            Scene s = start().then(x -> x.kind(200, 0, 0, coins[0]), x -> x.plane(0), x -> x.need(0, 0, 1))
                .then(x -> x.part(0, 1, 0, 0, 0), x -> x.move(0, 0));
            due("rate of " + coins[0], s, x -> x.half(0, 0), coins[1]);
            due("reserve of " + coins[0], s.then(x -> x.fly(0, 1, 0)), x -> x.reserve(0, 0), coins[2]);
        }
    }

    private void ratesAndReserves() {
        terms("a RATE (0 .. 999 coins a unit of each measure: section 5), a RESERVE (0 .. 999 coins an hour)");
        for (int told : new int[] {0, 1, 998, 999}) {
            Scene s = start().then(x -> x.kind(200, 200, 200, 1000 * told + 999 - told), x -> x.plane(0))
                .then(x -> x.need(0, 0, 1), x -> x.part(0, 1, 0, 0, 0), x -> x.move(0, 0));
            due("rate " + told, s, x -> x.half(0, 0), 3 * told);
            due("reserve " + (999 - told), s.then(x -> x.fly(0, 1, 0)), x -> x.reserve(0, 0), 999 - told);
        }
        refused("rate 1000", rich(), x -> x.kind(200, 0, 0, 1000 * 1000), BAD);
        refused("rate -1", rich(), x -> x.kind(200, 0, 0, -1000), BAD);
        refused("reserve -1", rich(), x -> x.kind(200, 0, 0, -1), BAD);
    }

    private void kindsAnswers() {
        promise(2, "BAD, FULL.");
        Scene full = start().times(10, i -> x -> x.kind(i, i, i, i));
        refused("full", full, x -> x.kind(0, 0, 0, 0), FULL);
        refused("bad hours ahead of full", full, x -> x.kind(-1, 0, 0, 0), BAD);
        refused("bad landings ahead of full", full, x -> x.kind(0, 100000, 0, 0), BAD);
        refused("bad days ahead of full", full, x -> x.kind(0, 0, -1, 0), BAD);
        refused("bad coins ahead of full", full, x -> x.kind(0, 0, 0, 1000000), BAD);
    }

    private void tenPlanes() {
        terms("PLANES 0 .. 9: how many parts of each KIND it needs");
        Scene nine = start().times(9, i -> x -> x.plane(i));
        due("the ninth", start().times(8, i -> x -> x.plane(i)), x -> x.plane(1), 8);
        due("the tenth", nine, x -> x.plane(1), 9);
        Scene ten = nine.then(x -> x.plane(9));
        refused("an eleventh", ten, x -> x.plane(1), FULL);
        within("worth of plane", ten, v -> x -> x.ofPlane(v, 4), 0, 9, v -> v, VOID);
    }

    private void worth() {
        terms("WORTH (0 .. 999999)");
        within("worth", rich(), v -> x -> x.plane(v), 0, 999999, 3, BAD);
        for (int worth : new int[] {0, 1, 999998, 999999}) {
            due("kept " + worth, start().then(x -> x.plane(worth)), x -> x.ofPlane(0, 4), worth);
        }
    }

    private void planesAtFirst() {
        terms("HOURS and LANDINGS of its own (0 at first)");
        Scene s = rich().then(x -> x.plane(5));
        due("hours", s, x -> x.ofPlane(3, 0), 0);
        due("landings", s, x -> x.ofPlane(3, 1), 0);
        terms("STATES: 0 here, 1 RETURNED.");
        due("here", s, x -> x.ofPlane(3, 2), 0);
        due("returned", s, x -> x.ofPlane(2, 2), 1);
    }

    private void planesAnswers() {
        promise(3, "BAD, FULL.");
        Scene full = start().times(10, i -> x -> x.plane(i));
        refused("full", full, x -> x.plane(0), FULL);
        refused("bad ahead of full, below", full, x -> x.plane(-1), BAD);
        refused("bad ahead of full, above", full, x -> x.plane(1000000), BAD);
    }

    private void needed() {
        terms("how many parts of each KIND it needs (0 .. 3; told; 0 at first)");
        Scene s = rich();
        within("n", s, v -> x -> x.need(1, 2, v), 0, 3, 0, BAD);
        for (int n = 0; n <= 3; n++) {
            int told = n;
            due("told " + n, s.then(x -> x.need(1, 2, told)), x -> x.need(1, 2, 0), told);
            Scene all = start().then(x -> x.kind(0, 0, 0, 0), x -> x.plane(0), x -> x.need(0, 0, told))
                .times(told, i -> x -> x.part(0, 1, 0, 0, 0)).times(told, i -> x -> x.move(i, 0))
                .then(x -> x.part(0, 2, 0, 0, 0));
            refused("one more than " + n, all, x -> x.move(told, 0), NOT);
            if (n > 0) {
                due("the last of " + n, all.then(x -> x.move(0, 10)), x -> x.move(told, 0), 1);
            }
        }
    }

    private void needsAnswers() {
        promise(4, "BAD; NOT: more are on it, or it is RETURNED.");
        Scene s = rich();
        refused("plane below", s, x -> x.need(-1, 0, 2), BAD);
        refused("plane above", s, x -> x.need(3, 0, 2), BAD);
        refused("kind below", s, x -> x.need(0, -1, 2), BAD);
        refused("kind above", s, x -> x.need(0, 3, 2), BAD);
        refused("more are on it", s, x -> x.need(0, 1, 0), NOT);
        refused("returned", s, x -> x.need(2, 2, 1), NOT);
        refused("returned, of a kind that it does not need", s, x -> x.need(2, 0, 3), NOT);
        refused("bad ahead of not, returned", s, x -> x.need(2, 2, 4), BAD);
        refused("bad ahead of not, more are on it", s, x -> x.need(0, 0, -1), BAD);
        refused("no such kind of a returned one", s, x -> x.need(2, 3, 0), BAD);
    }

    private void needsWhatIsOn() {
        promise(4, "A PLANE needs n parts of a KIND: what it did.");
        Scene two = start().then(x -> x.kind(0, 0, 0, 0), x -> x.plane(0), x -> x.need(0, 0, 3))
            .times(2, i -> x -> x.part(0, 1 + i, 0, 0, 0)).times(2, i -> x -> x.move(i, 0));
        refused("none, two are on it", two, x -> x.need(0, 0, 0), NOT);
        refused("one, two are on it", two, x -> x.need(0, 0, 1), NOT);
        due("two, two are on it", two, x -> x.need(0, 0, 2), 3);
        due("three, two are on it", two, x -> x.need(0, 0, 3), 3);
        due("one, one is on it", two.then(x -> x.move(0, 11)), x -> x.need(0, 0, 1), 3);
        due("none, none is on it", two.then(x -> x.move(0, 11), x -> x.move(1, 10)), x -> x.need(0, 0, 0), 3);
    }

    private void daysGoBy() {
        promise(5, "n (1 .. 400) DAYS go by: DAY.");
        within("n", rich(), v -> x -> x.days(v), 1, 400, v -> 4 + v, BAD);
        due("none on the first day", start(), x -> x.days(0), BAD);
    }

    private void daysBeyond() {
        promise(5, "BAD (also beyond 9999).");
        Scene s = rich().times(24, i -> x -> x.days(400)).then(x -> x.days(195));
        due("day", s, x -> x.count(3), 9799);
        within("n", s, v -> x -> x.days(v), 1, 200, v -> 9799 + v, BAD);
        Scene last = s.then(x -> x.days(200));
        refused("one beyond the last", last, x -> x.days(1), BAD);
        refused("400 beyond the last", last, x -> x.days(400), BAD);
        refused("none on the last", last, x -> x.days(0), BAD);
    }

    private void daysOfParts() {
        terms("by 1 of DAYS for each DAY that goes by, wherever it is (but GONE)");
        Scene s = rich();
        int[] used = {34, 14, 4, 9, 6};
        for (int part = 0; part < 5; part++) {
            int p = part, grows = part == 4 ? 0 : 1;
            due("of part " + p, s, x -> x.ofPart(p, 5), used[p]);
            due("a day on of part " + p, s.then(x -> x.days(1)), x -> x.ofPart(p, 5), used[p] + grows);
            due("400 days on of part " + p, s.then(x -> x.days(400)), x -> x.ofPart(p, 5), used[p] + 400 * grows);
        }
        Scene most = start().then(x -> x.kind(0, 0, 99999, 0), x -> x.part(0, 1, 0, 0, 99999), x -> x.days(400));
        due("beyond what can be told", most, x -> x.ofPart(0, 5), 100399);
        due("and beyond the limit", most, x -> x.left(0, 2, 0), -400);
    }

    private void usedOnAPlane() {
        terms("by the HOURS and LANDINGS that its PLANE flies while it is on it");
        Scene s = ready().then(x -> x.fly(0, 5, 4), x -> x.swap(0, 1), x -> x.fly(0, 7, 6));
        due("hours up to its leave", s, x -> x.ofPart(0, 3), 15);
        due("landings up to its leave", s, x -> x.ofPart(0, 4), 24);
        due("hours since it came", s, x -> x.ofPart(1, 3), 17);
        due("landings since it came", s, x -> x.ofPart(1, 4), 26);
        due("days do not grow by it", s, x -> x.ofPart(1, 5), 30);
        due("nor by another plane", s.then(x -> x.fly(1, 9, 9)), x -> x.ofPart(1, 3), 17);
    }

    private static Scene ready() {
        return start().then(x -> x.kind(5000, 5000, 0, 7), x -> x.plane(0), x -> x.plane(0), x -> x.need(0, 0, 1))
            .then(x -> x.part(0, 1, 10, 20, 30), x -> x.part(0, 2, 10, 20, 30), x -> x.move(0, 0));
    }

    private void flown() {
        promise(6, "so many HOURS (1 .. 999) and LANDINGS (0 .. 999): its HOURS.");
        Scene s = ready();
        within("hours", s, v -> x -> x.fly(0, v, 5), 1, 999, v -> v, BAD);
        within("landings", s, v -> x -> x.fly(0, 5, v), 0, 999, 5, BAD);
        for (int n : new int[] {1, 999}) {
            Scene flown = s.then(x -> x.fly(0, n, n));
            due("its landings", flown, x -> x.ofPlane(0, 1), n);
            due("hours of the part on it", flown, x -> x.ofPart(0, 3), 10 + n);
            due("landings of the part on it", flown, x -> x.ofPart(0, 4), 20 + n);
            due("hours of the part in store", flown, x -> x.ofPart(1, 3), 10);
            due("landings of the part in store", flown, x -> x.ofPart(1, 4), 20);
        }
        due("no landing", s.then(x -> x.fly(0, 1, 0)), x -> x.ofPlane(0, 1), 0);
    }

    private void flightsRefused() {
        promise(6, "BAD; NOT: it is GROUNDED, RETURNED,");
        Scene s = ready();
        refused("plane below", s, x -> x.fly(-1, 1, 0), BAD);
        refused("plane above", s, x -> x.fly(2, 1, 0), BAD);
        refused("one is missing", s.then(x -> x.move(0, 11)), x -> x.fly(0, 1, 0), NOT);
        Scene used = s.then(x -> x.fly(0, 999, 0), x -> x.fly(0, 999, 0), x -> x.fly(0, 999, 0), x -> x.fly(0, 999, 0));
        due("one hour is left", used.then(x -> x.fly(0, 993, 0)), x -> x.fly(0, 1, 0), 4990);
        due("no hour is left", used.then(x -> x.fly(0, 994, 0)), x -> x.fly(0, 1, 0), 4991);
        refused("one hour is too many", used.then(x -> x.fly(0, 995, 0)), x -> x.fly(0, 1, 0), NOT);
        Scene ordered = s.then(x -> x.order(0, 3), x -> x.days(3));
        due("the order's day is today", ordered, x -> x.fly(0, 1, 0), 1);
        refused("the order's day was yesterday", ordered.then(x -> x.days(1)), x -> x.fly(0, 1, 0), NOT);
        due("the order is done", ordered.then(x -> x.days(1), x -> x.done(0, 0)), x -> x.fly(0, 1, 0), 1);
        refused("returned", s.contract("g 1;", 1, 0, 0).then(x -> x.giveBack(1)), x -> x.fly(1, 1, 0), NOT);
        refused("returned and grounded", rich(), x -> x.fly(2, 1, 0), NOT);
    }

    // The document's 512 calls do not lead to 999999: these runs go on beyond them, where answers are free.
    private void flightsTooFar() {
        promise(6, "or some USED or its own would be above 999999.");
        PlanesBack hours = farPart(99999, 0, 999, 0);
        due("used hours 900 below", start(), x -> hours.ofPart(0, 3), 999099);
        due("901 hours", start(), x -> hours.fly(0, 901, 0), NOT);
        due("nothing changed", start(), x -> hours.ofPart(0, 3) - hours.ofPlane(0, 0), 99999);
        due("900 hours", start(), x -> hours.fly(0, 900, 0), 900000);
        due("one hour", start(), x -> hours.fly(0, 1, 0), NOT);
        PlanesBack landings = farPart(0, 99999, 1, 999);
        due("used landings 900 below", start(), x -> landings.ofPart(0, 4), 999099);
        due("901 landings", start(), x -> landings.fly(0, 1, 901), NOT);
        due("900 landings", start(), x -> landings.fly(0, 1, 900), 901);
        due("no landing", start(), x -> landings.fly(0, 1, 0), 902);
        due("one landing", start(), x -> landings.fly(0, 1, 1), NOT);
        PlanesBack own = new PlanesBack();
        own.plane(0);
        for (int i = 0; i < 1001; i++) {
            own.fly(0, 999, i < 1000 ? 999 : 998);
        }
        due("its own hours", start(), x -> own.ofPlane(0, 0), 999999);
        due("its own landings", start(), x -> own.ofPlane(0, 1), 999998);
        due("one hour of its own", start(), x -> own.fly(0, 1, 0), NOT);
        PlanesBack ownLandings = new PlanesBack();
        ownLandings.plane(0);
        for (int i = 0; i < 1000; i++) {
            ownLandings.fly(0, 1, 999);
        }
        due("1000 landings of its own", start(), x -> ownLandings.fly(0, 1, 1000), BAD);
        due("999 landings of its own", start(), x -> ownLandings.fly(0, 1, 999), 1001);
        due("one landing of its own", start(), x -> ownLandings.fly(0, 1, 1), NOT);
        due("no landing of its own", start(), x -> ownLandings.fly(0, 1, 0), 1002);
    }

    private static PlanesBack farPart(int usedHours, int usedLandings, int hours, int landings) {
        PlanesBack x = new PlanesBack();
        x.kind(0, 0, 0, 0);
        x.plane(0);
        x.need(0, 0, 1);
        x.part(0, 1, usedHours, usedLandings, 0);
        x.move(0, 0);
        for (int i = 0; i < 900; i++) {
            x.fly(0, hours, landings);
        }
        return x;
    }

    private void flightsAnswers() {
        terms("Answers, of several the one named first");
        Scene grounded = ready().then(x -> x.move(0, 11));
        refused("bad hours ahead of grounded", grounded, x -> x.fly(0, 0, 0), BAD);
        refused("bad landings ahead of grounded", grounded, x -> x.fly(0, 1, 1000), BAD);
        Scene back = rich();
        refused("bad hours ahead of returned", back, x -> x.fly(2, 1000, 0), BAD);
        refused("bad landings ahead of returned", back, x -> x.fly(2, 1, -1), BAD);
    }

    private void ofPlanes() {
        promise(7, "VOID: BAD.");
        Scene s = rich();
        int[] of = {50, 10, 0, 2, 90000, -1, -1, 2, 100};
        within("what", s, v -> x -> x.ofPlane(0, v), 0, 8, v -> of[v], VOID);
        for (int what = 0; what <= 8; what++) {
            int asked = what;
            due("what " + what, s, x -> x.ofPlane(0, asked), of[asked]);
            refused("what " + what + " of no plane below", s, x -> x.ofPlane(-1, asked), VOID);
            refused("what " + what + " of no plane above", s, x -> x.ofPlane(3, asked), VOID);
        }
        within("plane", s, v -> x -> x.ofPlane(v, 4), 0, 2, v -> v == 0 ? 90000 : v == 1 ? 500 : 7, VOID);
    }

    private void ofEachPlane() {
        promise(7, "Of a PLANE: 0 HOURS, 1 LANDINGS, 2 state, 3 parts on it, 4 WORTH,");
        for (int on = 0; on <= 3; on++) {
            int n = on;
            Scene s = start().then(x -> x.kind(0, 0, 0, 0), x -> x.plane(7), x -> x.plane(8), x -> x.need(1, 0, 3))
                .times(4, i -> x -> x.part(0, 1 + i, 0, 0, 0)).times(n, i -> x -> x.move(i, 1));
            due(n + " parts on it", s, x -> x.ofPlane(1, 3), n);
            due(n + " parts on the other", s, x -> x.ofPlane(0, 3), 0);
        }
        Scene two = start().then(x -> x.plane(7), x -> x.plane(8), x -> x.fly(1, 1, 0), x -> x.fly(0, 999, 998));
        int[][] of = {{999, 998, 0, 0, 7}, {1, 0, 0, 0, 8}};
        for (int what = 0; what <= 4; what++) {
            int asked = what;
            due("what " + what + " of the first", two, x -> x.ofPlane(0, asked), of[0][what]);
            due("what " + what + " of the second", two, x -> x.ofPlane(1, asked), of[1][what]);
        }
    }

    private void ofReturned() {
        promise(7, "5 what it cost when it was RETURNED (-1), 6 the DAY of that (-1), 7 RETURN DAY (-1: no CONTRACT)");
        Scene s = rich();
        int[] none = {0, 0, 0, 0, 500, -1, -1, -1, 0}, back = {0, 0, 1, 0, 7, 7, 3, 1, 9};
        for (int what = 0; what <= 8; what++) {
            int asked = what;
            due("without a contract " + what, s, x -> x.ofPlane(1, asked), none[asked]);
            due("returned " + what, s, x -> x.ofPlane(2, asked), back[asked]);
        }
        Scene first = start().then(x -> x.plane(0)).contract("g 1;", 0, 0, 0);
        due("return day 0", first, x -> x.ofPlane(0, 7), 0);
        due("not returned", first, x -> x.ofPlane(0, 6), -1);
        due("returned on day 0", first.then(x -> x.giveBack(0)), x -> x.ofPlane(0, 6), 0);
        due("cost 0", first.then(x -> x.giveBack(0)), x -> x.ofPlane(0, 5), 0);
        due("state", first.then(x -> x.giveBack(0)), x -> x.ofPlane(0, 2), 1);
    }

    private void groundedDays() {
        promise(8, "GROUNDED AS KNOWN on DAY k: 1, 2, 3; 0: it is not. BAD.");
        Scene s = rich();
        within("k", s, v -> x -> x.grounded(0, v), 0, 9999, 1, BAD);
        within("plane", s, v -> x -> x.grounded(v, 0), 0, 2, 1, BAD);
        refused("no such plane, no such day", s, x -> x.grounded(3, 10000), BAD);
    }

    private void groundedByMissing() {
        terms("1 fewer parts of a KIND are on it than it needs");
        Scene s = start().then(x -> x.kind(0, 0, 0, 0), x -> x.kind(0, 0, 0, 0), x -> x.plane(0))
            .times(3, i -> x -> x.part(0, 1 + i, 0, 0, 0)).times(3, i -> x -> x.part(1, 1 + i, 0, 0, 0));
        for (int need = 0; need <= 3; need++) {
            for (int on = 0; on <= need; on++) {
                int n = need;
                Scene some = s.then(x -> x.need(0, 0, n), x -> x.need(0, 1, n))
                    .times(on, i -> x -> x.move(i, 0)).times(n, i -> x -> x.move(3 + i, 0));
                due(on + " of " + n, some, x -> x.grounded(0, 0), on < n ? 1 : 0);
            }
        }
    }

    private void groundedByLeft() {
        terms("2 a part on it has LEFT below 0 in some measure");
        for (int measure = 0; measure < 3; measure++) {
            for (int over = -1; over <= 1; over++) {
                int[] used = {0, 0, 0};
                used[measure] = 100 + over;
                Scene s = start().then(x -> x.kind(100, 100, 100, 0), x -> x.plane(0), x -> x.need(0, 0, 2))
                    .then(x -> x.part(0, 1, 0, 0, 0), x -> x.part(0, 2, used[0], used[1], used[2]))
                    .then(x -> x.move(0, 0), x -> x.move(1, 0));
                due("left " + -over + " of measure " + measure, s, x -> x.grounded(0, 0), over > 0 ? 2 : 0);
            }
        }
        for (int used = 0; used <= 2; used++) {
            int n = used;
            Scene least = start().then(x -> x.kind(1, 0, 0, 0), x -> x.plane(0), x -> x.need(0, 0, 1))
                .then(x -> x.part(0, 1, n, 0, 0), x -> x.move(0, 0));
            due("used " + n + " of the least limit", least, x -> x.grounded(0, 0), n > 1 ? 2 : 0);
        }
        Scene none = start().then(x -> x.kind(0, 0, 0, 0), x -> x.plane(0), x -> x.need(0, 0, 1))
            .then(x -> x.part(0, 1, 99999, 99999, 99999), x -> x.move(0, 0));
        due("no limit", none, x -> x.grounded(0, 0), 0);
    }

    private void groundedByOrder() {
        terms("3 an ORDER of a KIND that it needs is not DONE, and its DAY is ahead of TODAY.");
        Scene s = ready().then(x -> x.kind(0, 0, 0, 0), x -> x.days(5));
        for (int day : new int[] {0, 4, 5, 6, 9999}) {
            Scene ordered = s.then(x -> x.order(0, day));
            due("day " + day, ordered, x -> x.grounded(0, 5), day < 5 ? 3 : 0);
            due("day " + day + " as known at first", ordered, x -> x.grounded(0, 0), day < 5 ? 3 : 0);
            due("day " + day + " as known at last", ordered, x -> x.grounded(0, 9999), day < 5 ? 3 : 0);
            due("day " + day + " done", ordered.then(x -> x.done(0, 0)), x -> x.grounded(0, 5), 0);
            due("day " + day + " of one that needs none", ordered, x -> x.grounded(1, 5), 0);
            due("day " + day + " of another kind", s.then(x -> x.order(1, day)), x -> x.grounded(0, 5), 0);
        }
    }

    private void ordersOfEachPlane() {
        terms("each PLANE that needs that KIND has to have it DONE (told).");
        Scene s = start().then(x -> x.kind(0, 0, 0, 0)).times(3, i -> x -> x.plane(0))
            .times(2, i -> x -> x.need(i, 0, 1)).times(2, i -> x -> x.part(0, 1 + i, 0, 0, 0))
            .times(2, i -> x -> x.move(i, i))
            .then(x -> x.order(0, 0), x -> x.order(0, 0), x -> x.days(1));
        int[] why = {3, 3, 0};
        for (int plane = 0; plane < 3; plane++) {
            int p = plane;
            due("plane " + p, s, x -> x.grounded(p, 1), why[p]);
            due("one of two is done", s.then(x -> x.done(0, p)), x -> x.grounded(p, 1), why[p]);
            due("both are done", s.then(x -> x.done(0, p), x -> x.done(1, p)), x -> x.grounded(p, 1), 0);
            due("both are done for another", s.then(x -> x.done(0, p), x -> x.done(1, p)),
                x -> x.grounded(p == 0 ? 1 : 0, 1), 3);
        }
    }

    private void groundedFirst() {
        terms("GROUNDED is a PLANE AS KNOWN on DAY k (LAWS by k; all else as it is): the first of:");
        Scene all = start().then(x -> x.kind(100, 0, 0, 0), x -> x.plane(0), x -> x.need(0, 0, 2))
            .then(x -> x.part(0, 1, 101, 0, 0), x -> x.part(0, 2, 0, 0, 0), x -> x.part(0, 3, 0, 0, 0))
            .then(x -> x.order(0, 0), x -> x.days(1), x -> x.move(0, 0));
        due("all three", all, x -> x.grounded(0, 0), 1);
        Scene two = all.then(x -> x.move(1, 0));
        due("left and order", two, x -> x.grounded(0, 0), 2);
        Scene one = two.then(x -> x.swap(0, 2));
        due("order", one, x -> x.grounded(0, 0), 3);
        due("missing and order", one.then(x -> x.move(1, 10)), x -> x.grounded(0, 0), 1);
        due("missing and left", all.then(x -> x.done(0, 0)), x -> x.grounded(0, 0), 1);
        due("none", one.then(x -> x.done(0, 0)), x -> x.grounded(0, 0), 0);
    }

    private void groundedReturned() {
        terms("(A RETURNED one likewise.)");
        Scene s = start().then(x -> x.kind(0, 0, 0, 0), x -> x.plane(0)).contract("g 1;", 0, 0, 0);
        due("it needs none", s.then(x -> x.giveBack(0)), x -> x.grounded(0, 0), 0);
        Scene one = s.then(x -> x.need(0, 0, 1), x -> x.part(0, 1, 0, 0, 0), x -> x.move(0, 0));
        due("ahead of that", one, x -> x.grounded(0, 0), 0);
        due("its part is gone", one.then(x -> x.giveBack(0)), x -> x.grounded(0, 0), 1);
    }

    private void groundedAsKnown() {
        terms("A PLANE FLIES only if it is not GROUNDED AS KNOWN TODAY.");
        Scene s = start().then(x -> x.kind(100, 0, 0, 0), x -> x.plane(0), x -> x.need(0, 0, 1))
            .then(x -> x.part(0, 1, 50, 0, 0), x -> x.move(0, 0), x -> x.days(3));
        Scene half = s.law("50", 0), more = s.law("51", 0);
        due("nothing is left by it", half, x -> x.fly(0, 1, 0), 1);
        refused("less than nothing is left by it", more, x -> x.fly(0, 1, 0), NOT);
        int[] known = {0, 2, 3, 4, 9999}, why = {0, 0, 2, 2, 2};
        for (int i = 0; i < known.length; i++) {
            int k = known[i];
            due("as known on " + k, more, x -> x.grounded(0, k), why[i]);
            due("as known on " + k + " by 50", half, x -> x.grounded(0, k), 0);
        }
    }
}
