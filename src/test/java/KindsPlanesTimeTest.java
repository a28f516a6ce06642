/** Promises 1 to 8: a new object, kind, plane, need, days, fly, ofPlane, grounded. */
public final class KindsPlanesTimeTest {
    private static final Check c = new Check("KindsPlanesTimeTest");
    private static final int BAD = Check.BAD, NOT = Check.NOT, FULL = Check.FULL, VOID = Check.VOID;

    public static void main(String[] args) {
        aNewObject();
        kinds();
        planes();
        needs();
        days();
        flights();
        flightsThatAreTooFar();
        ofPlanes();
        groundedInOrder();
        groundedAsKnown();
        c.end();
    }

    private static void aNewObject() {
        PlanesBack x = new PlanesBack();
        for (int what = 0; what <= 12; what++) {
            c.due("1 count(" + what + ")", x.count(what), 0);
        }
        c.due("1 bestCost", x.bestCost(), VOID);
        PlanesBack other = new PlanesBack();
        other.plane(1);
        c.due("1 objects do not share", x.count(1), 0);
    }

    private static void kinds() {
        PlanesBack x = new PlanesBack();
        c.due("2 hours below", x.kind(-1, 0, 0, 0), BAD);
        c.due("2 hours above", x.kind(100000, 0, 0, 0), BAD);
        c.due("2 landings below", x.kind(0, -1, 0, 0), BAD);
        c.due("2 landings above", x.kind(0, 100000, 0, 0), BAD);
        c.due("2 days below", x.kind(0, 0, -1, 0), BAD);
        c.due("2 days above", x.kind(0, 0, 100000, 0), BAD);
        c.due("2 coins below", x.kind(0, 0, 0, -1), BAD);
        c.due("2 coins above", x.kind(0, 0, 0, 1000000), BAD);
        c.due("2 none yet", x.count(0), 0);
        for (int i = 0; i < 10; i++) {
            c.due("2 kind", x.kind(99999, 0, 99999, 999999), i);
        }
        c.due("2 full", x.kind(0, 0, 0, 0), FULL);
        c.due("2 bad ahead of full", x.kind(0, 0, 0, -1), BAD);
        c.due("2 ten", x.count(0), 10);
    }

    private static void planes() {
        PlanesBack x = new PlanesBack();
        c.due("3 below", x.plane(-1), BAD);
        c.due("3 above", x.plane(1000000), BAD);
        c.due("3 none yet", x.count(1), 0);
        c.due("3 most", x.plane(999999), 0);
        for (int i = 1; i < 10; i++) {
            c.due("3 plane", x.plane(0), i);
        }
        c.due("3 full", x.plane(0), FULL);
        c.due("3 bad ahead of full", x.plane(-1), BAD);
    }

    private static void needs() {
        PlanesBack x = new PlanesBack();
        c.due("4 no plane", x.need(0, 0, 0), BAD);
        x.plane(0);
        c.due("4 no kind", x.need(0, 0, 0), BAD);
        x.kind(0, 0, 0, 0);
        c.due("4 plane below", x.need(-1, 0, 0), BAD);
        c.due("4 kind below", x.need(0, -1, 0), BAD);
        c.due("4 n below", x.need(0, 0, -1), BAD);
        c.due("4 n above", x.need(0, 0, 4), BAD);
        c.due("4 first", x.need(0, 0, 3), 0);
        c.due("4 what it did", x.need(0, 0, 2), 3);
        x.part(0, 1, 0, 0, 0);
        x.part(0, 2, 0, 0, 0);
        x.move(0, 0);
        x.move(1, 0);
        c.due("4 more are on it", x.need(0, 0, 1), NOT);
        c.due("4 bad ahead of not", x.need(0, 0, -1), BAD);
        c.due("4 as many are on it", x.need(0, 0, 2), 2);
        Check.contract(x, "g 1;", 0, 0, 0);
        x.giveBack(0);
        c.due("4 returned", x.need(0, 0, 2), NOT);
    }

    private static void days() {
        PlanesBack x = new PlanesBack();
        c.due("5 none", x.days(0), BAD);
        c.due("5 below", x.days(-1), BAD);
        c.due("5 above", x.days(401), BAD);
        c.due("5 far above", x.days(Integer.MAX_VALUE), BAD);
        c.due("5 one", x.days(1), 1);
        for (int i = 1; i < 25; i++) {
            x.days(400);
        }
        c.due("5 so far", x.count(3), 9601);
        c.due("5 beyond", x.days(399), BAD);
        c.due("5 the last", x.days(398), 9999);
        c.due("5 none is left", x.days(1), BAD);
        c.due("5 day", x.count(3), 9999);
    }

    private static void flights() {
        PlanesBack x = new PlanesBack();
        c.due("6 no plane", x.fly(0, 1, 0), BAD);
        x.plane(0);
        c.due("6 no hours", x.fly(0, 0, 0), BAD);
        c.due("6 hours above", x.fly(0, 1000, 0), BAD);
        c.due("6 landings below", x.fly(0, 1, -1), BAD);
        c.due("6 landings above", x.fly(0, 1, 1000), BAD);
        c.due("6 it needs nothing", x.fly(0, 999, 999), 999);
        c.due("6 on", x.fly(0, 1, 0), 1000);
        c.due("6 landings", x.ofPlane(0, 1), 999);
        x.kind(0, 0, 0, 7);
        x.need(0, 0, 1);
        c.due("6 grounded", x.fly(0, 1, 0), NOT);
        c.due("6 bad ahead of not", x.fly(0, 0, 0), BAD);
        x.part(0, 1, 5, 6, 7);
        x.part(0, 2, 5, 6, 7);
        x.move(0, 0);
        c.due("6 flies again", x.fly(0, 10, 3), 1010);
        c.due("6 hours of the part on it", x.ofPart(0, 3), 15);
        c.due("6 landings of the part on it", x.ofPart(0, 4), 9);
        c.due("6 its days stay", x.ofPart(0, 5), 7);
        c.due("6 hours of the part in store", x.ofPart(1, 3), 5);
        c.due("6 reserve", x.reserve(0, 0), 70);
        Check.contract(x, "g 1;", 0, 0, 0);
        x.giveBack(0);
        c.due("6 returned", x.fly(0, 1, 0), NOT);
        c.due("6 its hours", x.ofPlane(0, 0), 1010);
        x.plane(0);
        Check.contract(x, "g 1;", 1, 0, 0);
        x.giveBack(1);
        c.due("6 returned, though nothing is missing", x.grounded(1, 0), 0);
        c.due("6 returned ones never fly", x.fly(1, 1, 0), NOT);
    }

    private static void flightsThatAreTooFar() {
        PlanesBack x = new PlanesBack();
        x.plane(0);
        x.plane(0);
        x.kind(0, 0, 0, 0);
        x.need(1, 0, 1);
        x.part(0, 1, 99999, 0, 0);
        x.move(0, 1);
        // 512 calls do not lead to 999999: the limit is tested beyond them, where answers are free by the document.
        for (int i = 0; i < 490; i++) {
            x.fly(1, 999, 999);
        }
        c.due("6 used so far", x.ofPart(0, 3), 99999 + 490 * 999);
        c.due("6 far from its end", x.fly(1, 999, 0), 491 * 999);
        for (int i = 491; i < 900; i++) {
            x.fly(1, 999, 0);
        }
        c.due("6 the last that fits", x.ofPart(0, 3), 99999 + 900 * 999);
        c.due("6 used would be above 999999", x.fly(1, 901, 0), NOT);
        c.due("6 used is just 999999", x.fly(1, 900, 0), 900 * 999 + 900);
        c.due("6 one more", x.fly(1, 1, 0), NOT);
        c.due("6 the part stays", x.ofPart(0, 3), 999999);
        x.move(0, 10);
        x.repair(0, 7);
        x.move(0, 1);
        c.due("6 repaired", x.fly(1, 1, 0), 900001);
        for (int i = 0; i < 100; i++) {
            x.fly(1, 999, 999);
        }
        c.due("6 its own so far", x.ofPlane(1, 0), 999901);
        c.due("6 its own would be above", x.fly(1, 99, 0), NOT);
        c.due("6 its own is just 999999", x.fly(1, 98, 0), 999999);
    }

    private static void ofPlanes() {
        PlanesBack x = new PlanesBack();
        c.due("7 no plane", x.ofPlane(0, 0), VOID);
        x.plane(321);
        int[] atFirst = {0, 0, 0, 0, 321, -1, -1, -1, 0};
        for (int what = 0; what < 9; what++) {
            c.due("7 at first " + what, x.ofPlane(0, what), atFirst[what]);
        }
        c.due("7 below", x.ofPlane(0, -1), VOID);
        c.due("7 above", x.ofPlane(0, 9), VOID);
        x.kind(0, 0, 0, 0);
        x.need(0, 0, 2);
        x.part(0, 1, 0, 0, 0);
        x.part(0, 2, 0, 0, 0);
        x.part(0, 3, 0, 0, 0);
        x.move(2, 0);
        x.move(1, 0);
        x.fly(0, 30, 4);
        Check.contract(x, "m 9;t 1 50;", 0, 6, 40);
        x.days(8);
        x.move(1, 10);
        int[] then = {30, 4, 0, 1, 321, -1, -1, 6, 40};
        for (int what = 0; what < 9; what++) {
            c.due("7 then " + what, x.ofPlane(0, what), then[what]);
        }
        c.due("7 given back", x.giveBack(0), 9 + 40 + 20);
        x.days(1);
        int[] last = {30, 4, 1, 0, 321, 69, 8, 6, 40};
        for (int what = 0; what < 9; what++) {
            c.due("7 last " + what, x.ofPlane(0, what), last[what]);
        }
    }

    private static void groundedInOrder() {
        PlanesBack x = new PlanesBack();
        c.due("8 no plane", x.grounded(0, 0), BAD);
        x.plane(0);
        c.due("8 day below", x.grounded(0, -1), BAD);
        c.due("8 day above", x.grounded(0, 10000), BAD);
        c.due("8 last day", x.grounded(0, 9999), 0);
        x.kind(100, 0, 0, 0);
        x.kind(0, 0, 10, 0);
        x.need(0, 0, 2);
        x.part(0, 1, 101, 0, 0);
        x.part(0, 2, 0, 0, 0);
        x.part(0, 3, 100, 0, 0);
        x.order(0, 0);
        x.order(1, 0);
        x.move(0, 0);
        c.due("8 fewer than needed", x.grounded(0, 0), 1);
        x.move(1, 0);
        c.due("8 left below 0", x.grounded(0, 0), 2);
        x.swap(0, 2);
        c.due("8 left is 0, the order's day is today", x.grounded(0, 0), 0);
        x.days(1);
        c.due("8 the order's day is ahead", x.grounded(0, 1), 3);
        c.due("8 orders go by today, whatever day is asked", x.grounded(0, 0), 3);
        x.done(0, 0);
        c.due("8 done; the other kind is not needed", x.grounded(0, 1), 0);
        x.need(0, 1, 1);
        c.due("8 one is missing", x.grounded(0, 1), 1);
        x.part(1, 1, 99999, 99999, 9);
        x.move(3, 0);
        c.due("8 measures without a limit do not ground", x.grounded(0, 1), 3);
        x.done(1, 0);
        c.due("8 one day is left", x.grounded(0, 1), 0);
        x.days(2);
        c.due("8 no day is left", x.grounded(0, 1), 2);
        Check.contract(x, "g 1;", 0, 0, 0);
        x.giveBack(0);
        c.due("8 a returned one likewise", x.grounded(0, 3), 1);
    }

    private static void groundedAsKnown() {
        PlanesBack x = new PlanesBack();
        x.plane(0);
        x.kind(100, 0, 0, 0);
        x.need(0, 0, 1);
        x.part(0, 1, 50, 0, 0);
        x.move(0, 0);
        x.days(3);
        c.due("8 law", Check.law(x, "51", 0), 0);
        c.due("8 before the law", x.grounded(0, 2), 0);
        c.due("8 by the law", x.grounded(0, 3), 2);
        c.due("8 so it does not fly", x.fly(0, 1, 0), NOT);
        x.paper(0, 0, 1);
        c.due("8 with a paper", x.grounded(0, 3), 0);
    }
}
