import java.io.IOException;

/** Boundary cases of promises 30 to 36, and of the terms that they go by. */
public final class EdgesCoinsTest extends Sentences {
    private static final int HELD = 2000000000;

    private EdgesCoinsTest() throws IOException {
        super("EdgesCoinsTest");
    }

    public static void main(String[] args) throws IOException {
        EdgesCoinsTest t = new EdgesCoinsTest();
        t.reserves();
        t.reservesForEachPart();
        t.reservesHeld();
        t.claims();
        t.claimsNot();
        t.claimsByTheStayAhead();
        t.claimsAsFarAsThatGoes();
        t.halves();
        t.halvesOfPartsOnIt();
        t.halvesTowardZero();
        t.halvesHeld();
        t.insurances();
        t.insurancesUp();
        t.insurancesZeroAtLeast();
        t.insurancesIfGrounded();
        t.links();
        t.linksComeBehind();
        t.linksFull();
        t.nets();
        t.netsOfTheNext();
        t.counts();
        t.countsOfPlaces();
        t.countsPaid();
        t.end(30, 36);
    }

    private void reserves() {
        promise(30, "RESERVE coins of a PLANE and KIND. BAD.");
        Scene s = rich();
        within("plane", s, v -> x -> x.reserve(v, 0), 0, 2, v -> v == 0 ? 1000 : 0, BAD);
        within("kind", s, v -> x -> x.reserve(0, v), 0, 2, v -> v == 0 ? 1000 : v == 1 ? 100 : 0, BAD);
        refused("no such plane, no such kind", s, x -> x.reserve(3, 3), BAD);
    }

    private void reservesForEachPart() {
        terms("for each HOUR flown RESERVE for each part of that KIND on it");
        for (int need = 0; need <= 3; need++) {
            int n = need;
            Scene s = start().then(x -> x.kind(0, 0, 0, 999), x -> x.kind(0, 0, 0, 1000))
                .then(x -> x.plane(0), x -> x.plane(0))
                .then(x -> x.need(0, 0, n), x -> x.need(0, 1, 1), x -> x.part(1, 1, 0, 0, 0), x -> x.move(0, 0))
                .times(4, i -> x -> x.part(0, 1 + i, 0, 0, 0)).times(n, i -> x -> x.move(1 + i, 0));
            for (int hours : new int[] {1, 999}) {
                Scene flown = s.then(x -> x.fly(0, hours, 999));
                due(hours + " hours of " + n, flown, x -> x.reserve(0, 0), 999 * n * hours);
                due(hours + " hours of a kind without", flown, x -> x.reserve(0, 1), 0);
                due(hours + " hours of the other plane", flown, x -> x.reserve(1, 0), 0);
                Scene twice = flown.then(x -> x.fly(0, hours, 0));
                due(hours + " hours twice", twice, x -> x.reserve(0, 0), 1998 * n * hours);
            }
        }
    }

    // The document's 512 calls do not lead to 2000000000: this run goes on beyond them, where answers are free.
    private void reservesHeld() {
        terms("(held at 2000000000)");
        PlanesBack x = new PlanesBack();
        x.kind(0, 0, 0, 999);
        x.plane(0);
        x.need(0, 0, 3);
        for (int i = 0; i < 3; i++) {
            x.part(0, 1 + i, 0, 0, 0);
            x.move(i, 0);
        }
        for (int i = 0; i < 667; i++) {
            x.fly(0, 999, 0);
        }
        int most = 667 * 2994003, a = x.reserve(0, 0);
        due("so far", start(), y -> a, most);
        x.fly(0, 999, 0);
        x.fly(0, 2, 0);
        int b = x.reserve(0, 0);
        due("just below", start(), y -> b, HELD - 2);
        x.fly(0, 1, 0);
        int c = x.reserve(0, 0);
        due("held", start(), y -> c, HELD);
        x.fly(0, 999, 0);
        int d = x.reserve(0, 0);
        due("held still", start(), y -> d, HELD);
        x.move(0, 10);
        int e = x.claim(0, 999999), f = x.reserve(0, 0);
        due("paid", start(), y -> e, 999999);
        due("out of what was held", start(), y -> f, HELD - 999999);
    }

    private void claims() {
        promise(31, "WORKS claimed for a PART (1 .. 999999 coins): how much is PAID.");
        Scene s = rich();
        within("coins", s, v -> x -> x.claim(1, v), 1, 999999, v -> Math.min(v, 1000), BAD);
        for (int part : new int[] {MIN, -1, 5, MAX}) {
            refused("part " + part, s, x -> x.claim(part, 1), BAD);
        }
    }

    private void claimsNot() {
        promise(31, "BAD; NOT: it is in no SHOP, or did not come there from a PLANE.");
        Scene s = rich();
        refused("on a plane", s, x -> x.claim(0, 1), NOT);
        refused("in store", s, x -> x.claim(3, 1), NOT);
        refused("gone", s, x -> x.claim(4, 1), NOT);
        refused("in a shop from the store", s.then(x -> x.move(3, 10)), x -> x.claim(3, 1), NOT);
        refused("from a plane to the store to a shop", s.then(x -> x.move(1, 11), x -> x.move(1, 10)),
            x -> x.claim(1, 1), NOT);
        refused("no coins, on a plane", s, x -> x.claim(0, 0), BAD);
        refused("too many coins, in store", s, x -> x.claim(3, 1000000), BAD);
        refused("no coins, gone", s, x -> x.claim(4, -1), BAD);
        due("from the plane", s, x -> x.claim(1, 1), 1);
        due("from a plane without a reserve", s.then(x -> x.move(3, 1), x -> x.move(3, 10)), x -> x.claim(3, 1), 0);
        due("once more", s.then(x -> x.claim(1, 1)), x -> x.claim(1, 1), 1);
        due("from a plane that is returned since", s.then(x -> x.giveBack(0)), x -> x.claim(1, 5), 5);
    }

    private void claimsByTheStayAhead() {
        terms("WORKS: a claim for a PART in a SHOP whose STAY ahead of that one was on a PLANE: coins");
        Scene s = start().then(x -> x.kind(0, 0, 0, 10), x -> x.plane(0), x -> x.plane(0), x -> x.need(0, 0, 1))
            .then(x -> x.need(1, 0, 1), x -> x.part(0, 1, 0, 0, 0), x -> x.move(0, 0), x -> x.fly(0, 3, 0))
            .then(x -> x.move(0, 1), x -> x.fly(1, 2, 0), x -> x.move(0, 10));
        due("of the plane ahead", s, x -> x.claim(0, 999), 20);
        due("what the other keeps", s.then(x -> x.claim(0, 999)), x -> x.reserve(0, 0), 30);
        due("what that one keeps", s.then(x -> x.claim(0, 999)), x -> x.reserve(1, 0), 0);
        Scene second = start().then(x -> x.kind(0, 0, 0, 10), x -> x.kind(0, 0, 0, 3), x -> x.plane(0), x -> x.plane(0))
            .then(x -> x.need(1, 0, 1), x -> x.need(1, 1, 1), x -> x.part(0, 1, 0, 0, 0), x -> x.part(1, 1, 0, 0, 0))
            .then(x -> x.move(0, 1), x -> x.move(1, 1), x -> x.fly(1, 2, 0), x -> x.move(1, 10), x -> x.claim(1, 4));
        due("of its kind", second, x -> x.reserve(1, 1), 2);
        due("not of another kind", second, x -> x.reserve(1, 0), 20);
        due("not of another plane", second, x -> x.reserve(0, 1), 0);
        due("a past one told since, earlier", s.past(0, 11, -5, -4, 0, 0, 0, 0), x -> x.claim(0, 999), 20);
        due("a past one told since, of that day", s.past(0, 11, 0, 0, 0, 0, 0, 0), x -> x.claim(0, 999), 20);
    }

    private void claimsAsFarAsThatGoes() {
        terms("PAID out of the RESERVE of that PLANE and KIND as far as that goes.");
        Scene s = rich();
        for (int coins : new int[] {1, 999, 1000, 1001, 999999}) {
            int paid = Math.min(1000, coins);
            Scene claimed = s.then(x -> x.claim(1, coins));
            due("claimed " + coins, s, x -> x.claim(1, coins), paid);
            due("reserve behind " + coins, claimed, x -> x.reserve(0, 0), 1000 - paid);
            due("of the other kind behind " + coins, claimed, x -> x.reserve(0, 1), 100);
            due("paid in all behind " + coins, claimed, x -> x.count(12), paid);
            due("then one more behind " + coins, claimed, x -> x.claim(1, 1), paid < 1000 ? 1 : 0);
        }
    }

    private void halves() {
        promise(32, "HALF LIFE of a PLANE AS KNOWN on DAY k. VOID: BAD.");
        Scene s = rich();
        within("day", s, v -> x -> Math.max(-999999, x.half(1, v)), 0, 9999, 0, -999999);
        refused("day below", s, x -> x.half(0, -1), VOID);
        refused("day above", s, x -> x.half(0, 10000), VOID);
        for (int plane : new int[] {MIN, -1, 3, MAX}) {
            refused("plane " + plane, s, x -> x.half(plane, 0), VOID);
        }
        // Part 0: 350, 200 and 166 above half at 5; part 2: 450 above half at 1; each divided by 100.
        due("ahead of the laws", s, x -> x.half(0, 2), 17 + 10 + 8 + 4);
        // Part 0 has lost 15 and 10 hundredths since (its own stay in store ended on day 0).
        due("by the laws", s, x -> x.half(0, 3), 5 + 3 + 3 + 4);
        due("a returned one", s, x -> x.half(2, 4), 0);
    }

    private void halvesOfPartsOnIt() {
        terms("HALF LIFE of a PLANE: the sum over parts on it and measures with a LIMIT of");
        for (int bits = 0; bits < 8; bits++) {
            int h = bits & 1, l = bits >> 1 & 1, d = bits >> 2;
            Scene s = start().then(x -> x.kind(200 * h, 200 * l, 200 * d, 100000), x -> x.plane(0), x -> x.plane(0))
                .then(x -> x.need(0, 0, 2), x -> x.need(1, 0, 1))
                .times(4, i -> x -> x.part(0, 1 + i, 0, 0, 0)).then(x -> x.move(2, 1));
            for (int on = 0; on <= 2; on++) {
                int want = 100 * on * Integer.bitCount(bits);
                due(on + " parts, measures " + bits, s.times(on, i -> x -> x.move(i, 0)), x -> x.half(0, 0), want);
            }
        }
    }

    private void halvesTowardZero() {
        terms("(LEFT less LIMIT / 2) times RATE divided by 100 (toward 0; each)");
        int[] limits = {100, 101, 1, 2, 3};
        for (int limit : limits) {
            for (int rate : new int[] {0, 1, 50, 99, 100, 999}) {
                for (int used = Math.max(0, limit / 2 - 2); used <= limit / 2 + 3; used++) {
                    int u = used, want = (limit - used - limit / 2) * rate / 100;
                    Scene s = start().then(x -> x.kind(limit, 0, 0, 1000 * rate), x -> x.plane(0), x -> x.need(0, 0, 1))
                        .then(x -> x.part(0, 1, u, 0, 0), x -> x.move(0, 0));
                    due("used " + u + " of " + limit + " at " + rate, s, x -> x.half(0, 0), want);
                }
            }
        }
        // Each of the three measures loses its own rest: 99 hundredths are nothing, three of them too.
        Scene each = start().then(x -> x.kind(2, 2, 2, 99000), x -> x.plane(0), x -> x.need(0, 0, 2))
            .then(x -> x.part(0, 1, 0, 0, 0), x -> x.part(0, 2, 2, 2, 2), x -> x.move(0, 0));
        due("three times 0.99", each, x -> x.half(0, 0), 0);
        due("and three times -0.99", each.then(x -> x.move(1, 0)), x -> x.half(0, 0), 0);
        Scene one = start().then(x -> x.kind(2, 2, 0, 100000), x -> x.plane(0), x -> x.need(0, 0, 2))
            .then(x -> x.part(0, 1, 0, 2, 9), x -> x.part(0, 2, 2, 3, 9), x -> x.move(0, 0));
        due("1 and -1", one, x -> x.half(0, 0), 0);
        due("and -1 and -2", one.then(x -> x.move(1, 0)), x -> x.half(0, 0), -3);
    }

    private void halvesHeld() {
        terms("the sum held within -1999999999 .. 1999999999.");
        Scene s = start().then(x -> x.plane(0)).times(10, i -> x -> x.kind(99999, 99999, 99999, 999000))
            .times(10, i -> x -> x.need(0, i, 3));
        Scene fresh = s.times(30, i -> x -> x.part(i / 3, 1 + i, 0, 0, 0)).times(30, i -> x -> x.move(i, 0));
        due("the most that can be", fresh, x -> x.half(0, 0), 90 * 499500);
        // 30 parts, and the rest of 500 stays as gaps that each take all of three limits: no run comes to the bound.
        Scene worn = s.times(30, i -> x -> x.part(i / 3, 1 + i, 99999, 99999, 99999)).times(30, i -> x -> x.move(i, 0))
            .law("100", 0).times(428, i -> x -> x.past(0, 11, 199989999, 0, 0, 50000000));
        long first = (-429 * 99999L - 49999) * 999 / 100, others = (-99999L - 49999) * 999 / 100;
        due("calls", start(), x -> worn.size(), 511);
        due("the least that can be", worn, x -> x.half(0, 0), 3 * first + 87 * others);
    }

    private void insurances() {
        promise(33, "INSURANCE a DAY, AS KNOWN TODAY. BAD.");
        Scene s = rich();
        within("plane", s.then(x -> x.need(1, 0, 0)), v -> x -> x.insure(v), 0, 2, v -> v == 1 ? 1 : 0, BAD);
        Scene known = start().then(x -> x.kind(1000, 0, 0, 100000), x -> x.plane(900), x -> x.need(0, 0, 1))
            .then(x -> x.part(0, 1, 0, 0, 0), x -> x.move(0, 0));
        due("1400", known, x -> x.insure(0), 2);
        due("as known today: 1000", known.law("40", 0), x -> x.insure(0), 1);
        due("as known today: 1010", known.law("39", 0), x -> x.insure(0), 2);
        due("grounded as known today", known.then(x -> x.fly(0, 1, 0)).law("100", 0), x -> x.insure(0), 0);
    }

    private void insurancesUp() {
        terms("INSURANCE of a PLANE a DAY: WORTH and HALF LIFE (0 at least), divided by 1000 (up)");
        int[][] worths = {{0, 0}, {1, 1}, {999, 1}, {1000, 1}, {1001, 2}, {1999, 2}, {2000, 2}, {2001, 3},
            {998999, 999}, {999000, 999}, {999001, 1000}, {999999, 1000}};
        for (int[] w : worths) {
            due("worth " + w[0], start().then(x -> x.plane(w[0])), x -> x.insure(0), w[1]);
        }
        // A part of 1000 hours at 100: each hour above half is a coin.
        for (int half = -1; half <= 1; half++) {
            int used = 500 - half;
            Scene s = start().then(x -> x.kind(1000, 0, 0, 100000), x -> x.plane(1000), x -> x.need(0, 0, 1))
                .then(x -> x.part(0, 1, used, 0, 0), x -> x.move(0, 0));
            due("1000 and half life " + half, s, x -> x.insure(0), half > 0 ? 2 : 1);
        }
    }

    private void insurancesZeroAtLeast() {
        terms("WORTH and HALF LIFE (0 at least)");
        for (int half = -2; half <= 2; half++) {
            int used = 500 - half;
            Scene kind = start().then(x -> x.kind(1000, 0, 0, 100000));
            for (int worth : new int[] {0, 1, 999, 1000, 1001}) {
                Scene s = kind.then(x -> x.plane(worth), x -> x.need(0, 0, 1), x -> x.part(0, 1, used, 0, 0))
                    .then(x -> x.move(0, 0));
                int sum = worth + Math.max(0, half);
                due("worth " + worth + " and half life " + half, s, x -> x.insure(0), (sum + 999) / 1000);
            }
        }
        Scene worn = start().then(x -> x.kind(99999, 99999, 99999, 999000), x -> x.plane(5000), x -> x.need(0, 0, 1))
            .then(x -> x.part(0, 1, 99999, 99999, 99999), x -> x.move(0, 0));
        due("far below half", worn, x -> x.half(0, 0), -3 * 499490);
        due("by worth alone", worn, x -> x.insure(0), 5);
    }

    private void insurancesIfGrounded() {
        terms("nothing if GROUNDED.");
        Scene s = start().then(x -> x.kind(1000, 0, 0, 0), x -> x.plane(5000), x -> x.need(0, 0, 1))
            .then(x -> x.part(0, 1, 1000, 0, 0));
        due("one is missing", s, x -> x.insure(0), 0);
        Scene on = s.then(x -> x.move(0, 0));
        due("none is missing, nothing is left", on, x -> x.insure(0), 5);
        due("less than nothing is left", on.then(x -> x.fly(0, 1, 0)), x -> x.insure(0), 0);
        Scene ordered = on.then(x -> x.order(0, 1), x -> x.days(1));
        due("the order's day is today", ordered, x -> x.insure(0), 5);
        due("the order's day was yesterday", ordered.then(x -> x.days(1)), x -> x.insure(0), 0);
        due("the order is done", ordered.then(x -> x.days(1), x -> x.done(0, 0)), x -> x.insure(0), 5);
        Scene back = on.contract("g 0;", 0, 0, 0).then(x -> x.giveBack(0));
        due("returned, its part is gone", back, x -> x.insure(0), 0);
        due("returned, it needs none", start().then(x -> x.plane(5000)).contract("g 0;", 0, 0, 0)
            .then(x -> x.giveBack(0)), x -> x.insure(0), 5);
    }

    private void links() {
        promise(34, "BAD (lessor 0 .. 9, rent 0 .. 99999), FULL: 4.");
        Scene s = rich();
        within("lessor", s, v -> x -> x.link(0, v, 1), 0, 9, 3, BAD);
        within("rent", s, v -> x -> x.link(0, 1, v), 0, 99999, 3, BAD);
        within("plane", s, v -> x -> x.link(v, 1, 1), 0, 2, v -> v == 0 ? 3 : 1, BAD);
        for (int rent : new int[] {0, 1, 99998, 99999}) {
            due("rent " + rent, s.then(x -> x.link(1, 0, rent)), x -> x.net(1, 0, 1), rent);
        }
    }

    private void linksComeBehind() {
        promise(34, "A LESSOR comes behind those of a PLANE's CHAIN: how many.");
        Scene s = start().then(x -> x.plane(0), x -> x.plane(0));
        for (int n = 1; n <= 4; n++) {
            int had = n - 1, rent = 10 * n;
            due("link " + n, s, x -> x.link(0, 0, rent), n);
            refused("none of its number yet", s, x -> x.net(0, had, 1), VOID);
            s = s.then(x -> x.link(0, 0, rent));
            due("the last of " + n, s, x -> x.net(0, had, 1), rent);
            due("the first of " + n, s, x -> x.net(0, 0, 1), n == 1 ? 10 : -10);
        }
        due("of the other plane", s, x -> x.link(1, 0, 1), 1);
    }

    private void linksFull() {
        terms("CHAIN of a PLANE: LESSORS (0 .. 9), at most 4, each with a RENT a DAY, link 0 the nearest");
        Scene three = rich().then(x -> x.link(0, 3, 300));
        due("the fourth", three, x -> x.link(0, 4, 200), 4);
        Scene four = three.then(x -> x.link(0, 4, 200));
        refused("a fifth", four, x -> x.link(0, 5, 100), FULL);
        refused("bad lessor ahead of full", four, x -> x.link(0, 10, 100), BAD);
        refused("bad lessor below ahead of full", four, x -> x.link(0, -1, 100), BAD);
        refused("bad rent ahead of full", four, x -> x.link(0, 5, 100000), BAD);
        refused("bad rent below ahead of full", four, x -> x.link(0, 5, -1), BAD);
        due("of another plane", four, x -> x.link(1, 5, 100), 1);
        due("the same lessor twice", three, x -> x.link(0, 3, 300), 4);
        within("link", four, v -> x -> x.net(0, v, 1), 0, 3, v -> v < 3 ? 100 : 200, VOID);
    }

    private void nets() {
        promise(35, "NET of link i by so many DAYS (1 .. 999). VOID: BAD.");
        Scene s = rich();
        within("days", s, v -> x -> x.net(0, 0, v), 1, 999, v -> 100 * v, VOID);
        within("link", s, v -> x -> x.net(0, v, 1), 0, 1, v -> v == 0 ? 100 : 400, VOID);
        for (int plane : new int[] {MIN, -1, 3, MAX}) {
            refused("plane " + plane, s, x -> x.net(plane, 0, 1), VOID);
        }
        refused("no link", s, x -> x.net(1, 0, 1), VOID);
    }

    private void netsOfTheNext() {
        terms("NET of a link by DAYS: its RENT less that of the next one, times them.");
        Scene s = start().then(x -> x.plane(0), x -> x.plane(0), x -> x.link(1, 0, 77))
            .then(x -> x.link(0, 0, 99999));
        due("the only one", s, x -> x.net(0, 0, 999), 99999 * 999);
        Scene two = s.then(x -> x.link(0, 1, 0));
        due("the most", two, x -> x.net(0, 0, 999), 99999 * 999);
        due("none", two, x -> x.net(0, 1, 999), 0);
        Scene three = two.then(x -> x.link(0, 2, 99999));
        due("the least", three, x -> x.net(0, 1, 999), -99999 * 999);
        due("the last of three", three, x -> x.net(0, 2, 1), 99999);
        Scene four = three.then(x -> x.link(0, 3, 99998));
        due("one above the next", four, x -> x.net(0, 2, 1), 1);
        due("the last of four, though another plane has links", four, x -> x.net(0, 3, 1), 99998);
    }

    private void counts() {
        promise(36, "BAD.");
        Scene s = rich();
        int[] of = {3, 3, 5, 4, 2, 2, 12, 3, 1, 1, 1, 1, 0};
        within("what", s, v -> x -> x.count(v), 0, 12, v -> of[v], BAD);
        for (int what = 0; what <= 12; what++) {
            int asked = what;
            due("what " + what, s, x -> x.count(asked), of[what]);
        }
        due("coins paid", s.then(x -> x.claim(1, 7), x -> x.claim(1, 8)), x -> x.count(12), 15);
        due("no coins paid by one that is not", s.then(x -> x.claim(0, 7)), x -> x.count(12), 0);
    }

    private void countsPaid() {
        promise(36, "12 coins PAID for WORKS.");
        Scene s = rich();
        due("none", s, x -> x.count(12), 0);
        due("one", s.then(x -> x.claim(1, 1)), x -> x.count(12), 1);
        due("all", s.then(x -> x.claim(1, 1000)), x -> x.count(12), 1000);
        due("no more than all", s.then(x -> x.claim(1, 1001)), x -> x.count(12), 1000);
        due("nothing more", s.then(x -> x.claim(1, 1000), x -> x.claim(1, 1)), x -> x.count(12), 1000);
        due("of both kinds", s.then(x -> x.claim(1, 1000), x -> x.move(2, 10), x -> x.claim(2, 60)),
            x -> x.count(12), 1060);
        promise(36, "7 bytes on THE TAPE");
        for (int bytes : new int[] {0, 1, 119, 120}) {
            due(bytes + " bytes", start().feed("1".repeat(bytes)), x -> x.count(7), bytes);
        }
        due("121 bytes do not come", start().feed("1".repeat(121)), x -> x.count(7), 120);
    }

    private void countsOfPlaces() {
        promise(36, "8 PARTS that are GONE, 9 in STORE, 10 in SHOPS, 11 PLANES RETURNED");
        Scene s = start().then(x -> x.kind(0, 0, 0, 0), x -> x.plane(0), x -> x.need(0, 0, 3)).contract("g 0;", 0, 0, 0)
            .times(100, i -> x -> x.part(0, 1, 0, 0, 0));
        due("a hundred in store", s, x -> x.count(9), 100);
        due("none in a shop", s, x -> x.count(10), 0);
        Scene shops = s.times(100, i -> x -> x.move(i, 10));
        due("none in store", shops, x -> x.count(9), 0);
        due("a hundred in shops", shops, x -> x.count(10), 100);
        Scene on = s.times(3, i -> x -> x.move(i, 0));
        due("three on a plane", on, x -> x.count(9), 97);
        due("none is gone", on, x -> x.count(8), 0);
        due("none is returned", on, x -> x.count(11), 0);
        due("three are gone", on.then(x -> x.giveBack(0)), x -> x.count(8), 3);
        due("one is returned", on.then(x -> x.giveBack(0)), x -> x.count(11), 1);
        due("parts in all stay", on.then(x -> x.giveBack(0)), x -> x.count(2), 100);
        Scene ten = start().times(10, i -> x -> x.plane(0));
        for (int i = 0; i < 10; i++) {
            ten = ten.contract("g 0;", i, 0, 0);
        }
        due("ten are returned", ten.times(10, i -> x -> x.giveBack(i)), x -> x.count(11), 10);
    }
}
