/** Promises 30 to 36: reserve, claim, half, insure, link, net, count. */
public final class CoinsTest {
    private static final Check c = new Check("CoinsTest");
    private static final int BAD = Check.BAD, NOT = Check.NOT, FULL = Check.FULL, VOID = Check.VOID;

    public static void main(String[] args) {
        reserves();
        claims();
        claimsOfAnotherKind();
        claimsByTheStayAhead();
        halves();
        heldHalves();
        insurances();
        insuranceOfMuch();
        chains();
        counts();
        c.end();
    }

    private static void reserves() {
        PlanesBack x = new PlanesBack();
        c.due("30 no plane", x.reserve(0, 0), BAD);
        x.plane(0);
        x.plane(0);
        c.due("30 no kind", x.reserve(0, 0), BAD);
        x.kind(0, 0, 0, 5999);
        x.kind(0, 0, 0, 7000);
        x.kind(0, 0, 0, 3);
        c.due("30 plane below", x.reserve(-1, 0), BAD);
        c.due("30 kind below", x.reserve(0, -1), BAD);
        c.due("30 at first", x.reserve(0, 0), 0);
        x.need(0, 0, 2);
        x.need(0, 1, 1);
        x.need(0, 2, 1);
        x.part(0, 1, 0, 0, 0);
        x.part(0, 2, 0, 0, 0);
        x.part(0, 3, 0, 0, 0);
        x.part(1, 4, 0, 0, 0);
        x.part(2, 5, 0, 0, 0);
        x.move(0, 0);
        x.move(1, 0);
        x.move(3, 0);
        x.move(4, 0);
        x.fly(0, 10, 99);
        c.due("30 for each part on it", x.reserve(0, 0), 2 * 9990);
        c.due("30 none by its kind", x.reserve(0, 1), 0);
        c.due("30 of another kind", x.reserve(0, 2), 30);
        c.due("30 of another plane", x.reserve(1, 0), 0);
        x.fly(0, 1, 0);
        c.due("30 it grows", x.reserve(0, 0), 2 * 10989);
    }

    private static void claims() {
        PlanesBack x = new PlanesBack();
        c.due("31 no part", x.claim(0, 1), BAD);
        x.kind(0, 0, 0, 10);
        x.plane(0);
        x.plane(0);
        x.need(0, 0, 1);
        x.need(1, 0, 1);
        x.part(0, 1, 0, 0, 0);
        x.part(0, 2, 0, 0, 0);
        c.due("31 no coins", x.claim(0, 0), BAD);
        c.due("31 coins above", x.claim(0, 1000000), BAD);
        c.due("31 in no shop", x.claim(0, 1), NOT);
        c.due("31 bad ahead of not", x.claim(0, 0), BAD);
        x.move(0, 10);
        c.due("31 from a store", x.claim(0, 1), NOT);
        x.move(0, 1);
        x.move(1, 0);
        x.fly(0, 7, 0);
        x.fly(1, 5, 0);
        c.due("31 on a plane", x.claim(0, 1), NOT);
        x.move(0, 10);
        c.due("31 paid", x.claim(0, 30), 30);
        c.due("31 the rest", x.reserve(1, 0), 20);
        c.due("31 of that plane alone", x.reserve(0, 0), 70);
        c.due("31 as far as it goes", x.claim(0, 999999), 20);
        c.due("31 nothing more", x.claim(0, 1), 0);
        c.due("36 paid in all", x.count(12), 50);
        x.move(1, 10);
        c.due("31 of the other plane", x.claim(1, 60), 60);
        c.due("36 paid in all then", x.count(12), 110);
        Check.contract(x, "m 1;", 0, 0, 0);
        x.giveBack(0);
        c.due("31 of a returned plane", x.claim(1, 60), 10);
    }

    private static void claimsOfAnotherKind() {
        PlanesBack x = new PlanesBack();
        x.kind(0, 0, 0, 10);
        x.kind(0, 0, 0, 20);
        x.plane(0);
        x.plane(0);
        x.need(1, 0, 1);
        x.need(1, 1, 1);
        x.part(0, 1, 0, 0, 0);
        x.part(1, 1, 0, 0, 0);
        x.move(0, 1);
        x.move(1, 1);
        x.fly(1, 3, 0);
        x.move(1, 10);
        c.due("31 of its kind", x.claim(1, 50), 50);
        c.due("31 its kind's rest", x.reserve(1, 1), 10);
        c.due("31 another kind's stays", x.reserve(1, 0), 30);
    }

    private static void claimsByTheStayAhead() {
        PlanesBack x = new PlanesBack();
        x.kind(0, 0, 0, 10);
        x.plane(0);
        x.need(0, 0, 1);
        x.part(0, 1, 0, 0, 0);
        x.part(0, 2, 0, 0, 0);
        x.move(0, 0);
        x.fly(0, 9, 0);
        x.move(0, 10);
        Check.past(x, 0, 11, 0, 0, Check.used(0, 0, 0, 0));
        c.due("31 a stay told behind the shop's", x.claim(0, 5), 5);
        x.move(1, 10);
        Check.past(x, 1, 0, -4, -2, Check.used(0, 0, 0, 0));
        c.due("31 the stay ahead of the shop's is in store", x.claim(1, 5), NOT);
    }

    private static void halves() {
        PlanesBack x = new PlanesBack();
        c.due("32 no plane", x.half(0, 0), VOID);
        x.plane(0);
        x.kind(101, 0, 1000, 30000);
        x.kind(0, 10, 0, 5000);
        c.due("32 day below", x.half(0, -1), VOID);
        c.due("32 day above", x.half(0, 10000), VOID);
        c.due("32 no parts", x.half(0, 0), 0);
        x.need(0, 0, 1);
        x.need(0, 1, 1);
        x.part(0, 1, 90, 7, 493);
        x.part(1, 1, 7, 8, 7);
        x.move(0, 0);
        // (11 - 50) * 30 / 100 = -11, (507 - 500) * 30 / 100 = 2: each toward 0.
        c.due("32 of one part", x.half(0, 0), -9);
        x.move(1, 0);
        // (2 - 5) * 5 / 100 = 0
        c.due("32 of both", x.half(0, 0), -9);
        x.days(1);
        Check.law(x, "10", 0);
        // (1 - 50) * 30 / 100 = -14, (406 - 500) * 30 / 100 = -28, (1 - 5) * 5 / 100 = 0
        c.due("32 by the law", x.half(0, 1), -42);
        // (506 - 500) * 30 / 100 = 1
        c.due("32 before the law", x.half(0, 0), -10);
    }

    private static void heldHalves() {
        PlanesBack x = new PlanesBack();
        x.plane(1);
        x.kind(99999, 99999, 99999, 999000);
        x.need(0, 0, 3);
        for (int i = 0; i < 3; i++) {
            x.part(0, i + 1, 0, 0, 0);
            x.move(i, 0);
        }
        c.due("32 nine times 50000 of 999", x.half(0, 0), 9 * 499500);
        Check.law(x, "100", 0);
        for (int i = 0; i < 240; i++) {
            Check.past(x, 0, 11, -1, 0, Check.used(0, 0, 0, 0));
        }
        // One gap of each part's own; 240 more of part 0: far below what is held, and no int holds the products.
        long each = (99999L - 99999 - 49999) * 999 / 100, first = (99999L - 241 * 99999 - 49999) * 999 / 100;
        c.due("32 far below 0", x.half(0, 0), 6 * each + 3 * first);
        for (int i = 0; i < 250; i++) {
            Check.past(x, 1, 11, -1, 0, Check.used(0, 0, 0, 0));
        }
        long second = (99999L - 251 * 99999 - 49999) * 999 / 100;
        c.due("32 farther below 0", x.half(0, 0), 3 * each + 3 * first + 3 * second);
    }

    private static void insurances() {
        PlanesBack x = new PlanesBack();
        c.due("33 no plane", x.insure(0), BAD);
        x.plane(0);
        x.plane(1);
        x.plane(1000);
        x.plane(1001);
        x.plane(999999);
        c.due("33 nothing", x.insure(0), 0);
        c.due("33 up", x.insure(1), 1);
        c.due("33 just", x.insure(2), 1);
        c.due("33 one above", x.insure(3), 2);
        c.due("33 most", x.insure(4), 1000);
        x.kind(1000, 0, 0, 100000);
        x.need(2, 0, 1);
        c.due("33 grounded", x.insure(2), 0);
        x.part(0, 1, 499, 0, 0);
        x.part(0, 2, 1000, 0, 0);
        x.move(0, 2);
        c.due("33 with half life", x.insure(2), 2);
        x.swap(0, 1);
        c.due("32 less than half", x.half(2, 0), -500);
        c.due("33 by worth alone then", x.insure(2), 1);
        x.fly(2, 1, 0);
        c.due("33 grounded by it", x.insure(2), 0);
        x.need(0, 0, 1);
        x.part(0, 3, 1000, 0, 0);
        x.move(2, 0);
        c.due("33 no worth, less than half", x.insure(0), 0);
        x.need(3, 0, 1);
        x.part(0, 4, 999, 0, 0);
        x.move(3, 3);
        c.due("32 499 below half", x.half(3, 0), -499);
        c.due("33 1001, not less 499", x.insure(3), 2);
        x.part(0, 5, 0, 0, 0);
        x.swap(3, 4);
        c.due("33 1001 and 500", x.insure(3), 2);
        x.need(1, 0, 1);
        x.part(0, 6, 501, 0, 0);
        x.move(5, 1);
        c.due("32 1 below half", x.half(1, 0), -1);
        c.due("33 1, not less 1", x.insure(1), 1);
    }

    private static void insuranceOfMuch() {
        PlanesBack x = new PlanesBack();
        x.plane(999999);
        for (int kind = 0; kind < 10; kind++) {
            x.kind(99999, 99999, 99999, 999000);
            x.need(0, kind, 3);
            for (int n = 0; n < 3; n++) {
                x.move(x.part(kind, 1 + n, 0, 0, 0), 0);
            }
        }
        long each = 50000L * 999 / 100;
        c.due("32 90 measures", x.half(0, 0), 90 * each);
        c.due("33 of them", x.insure(0), (999999 + 90 * each + 999) / 1000);
    }

    private static void chains() {
        PlanesBack x = new PlanesBack();
        c.due("34 no plane", x.link(0, 0, 0), BAD);
        x.plane(0);
        x.plane(0);
        c.due("34 lessor below", x.link(0, -1, 0), BAD);
        c.due("34 lessor above", x.link(0, 10, 0), BAD);
        c.due("34 rent below", x.link(0, 0, -1), BAD);
        c.due("34 rent above", x.link(0, 0, 100000), BAD);
        c.due("35 no link", x.net(0, 0, 1), VOID);
        c.due("34 one", x.link(0, 9, 99999), 1);
        c.due("34 two", x.link(0, 9, 0), 2);
        c.due("34 three", x.link(0, 0, 30), 3);
        c.due("34 four", x.link(0, 1, 50), 4);
        c.due("34 full", x.link(0, 1, 50), FULL);
        c.due("34 bad ahead of full", x.link(0, 10, 50), BAD);
        c.due("34 of another plane", x.link(1, 1, 70), 1);
        c.due("35 first", x.net(0, 0, 999), 99999 * 999);
        c.due("35 second", x.net(0, 1, 2), -60);
        c.due("35 third", x.net(0, 2, 1), -20);
        c.due("35 last", x.net(0, 3, 3), 150);
        c.due("35 of another plane", x.net(1, 0, 1), 70);
        c.due("35 plane above", x.net(2, 0, 1), VOID);
        c.due("35 link above", x.net(0, 4, 1), VOID);
        c.due("35 link below", x.net(0, -1, 1), VOID);
        c.due("35 no days", x.net(0, 0, 0), VOID);
        c.due("35 days above", x.net(0, 0, 1000), VOID);
    }

    private static void counts() {
        PlanesBack x = new PlanesBack();
        c.due("36 below", x.count(-1), BAD);
        c.due("36 above", x.count(13), BAD);
        x.kind(0, 0, 0, 1);
        x.plane(0);
        x.plane(0);
        x.plane(0);
        x.need(0, 0, 2);
        x.need(1, 0, 1);
        for (int i = 0; i < 7; i++) {
            x.part(0, i + 1, 0, 0, 0);
        }
        x.days(6);
        Check.law(x, "1", 0);
        Check.law(x, "2", 0);
        x.order(0, 9);
        x.move(0, 0);
        x.move(1, 0);
        x.move(2, 1);
        x.move(3, 10);
        x.fly(1, 8, 0);
        x.move(2, 10);
        x.claim(2, 5);
        Check.contract(x, "m 1;", 0, 0, 0);
        x.giveBack(0);
        Check.feed(x, "abc");
        int[] want = {1, 3, 7, 6, 2, 1, 12, 3, 2, 3, 2, 1, 5};
        for (int what = 0; what < want.length; what++) {
            c.due("36 count " + what, x.count(what), want[what]);
        }
    }
}
