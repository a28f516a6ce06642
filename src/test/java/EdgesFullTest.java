import java.io.IOException;

/** Every row full: the last kind, plane, part, stay, law, order, link, line and byte are as good as the first. */
public final class EdgesFullTest extends Sentences {
    private EdgesFullTest() throws IOException {
        super("EdgesFullTest");
    }

    public static void main(String[] args) throws IOException {
        EdgesFullTest t = new EdgesFullTest();
        t.full();
        t.lastPlaneFlies();
        t.lastPart();
        t.lastLaw();
        t.lastOrder();
        t.lastLine();
        t.lastsOfAllReturned();
        t.allStays();
        t.end(1, 0);
    }

    /** Plane 9 needs kind 9 three times and kind 0 once, and has parts 79, 89, 99 and 90. */
    private static Scene house() {
        Scene s = start().times(10, i -> x -> x.kind(1000 + i, 500 + i, 400 + i, 1000 * i + 10 + i))
            .times(10, i -> x -> x.plane(1000 * i))
            .then(x -> x.need(9, 9, 3), x -> x.need(9, 0, 1), x -> x.need(0, 9, 1))
            .times(100, i -> x -> x.part(i % 10, 1 + i, i, i, i))
            .then(x -> x.move(79, 9), x -> x.move(89, 9), x -> x.move(99, 9), x -> x.move(90, 9))
            .times(20, i -> x -> x.order(9 - i % 2 * 9, 9980 + i))
            .times(4, i -> x -> x.link(9, i, 400 - 100 * i));
        for (int i = 0; i < 10; i++) {
            s = s.law("" + i, 0);
        }
        return s.contract("m 1;".repeat(29) + "g 7;", 9, 5, 6).feed("1+".repeat(60));
    }

    private void full() {
        terms("FULL (-3)");
        Scene s = house();
        int[] of = {10, 10, 100, 0, 10, 20, 104, 120, 0, 96, 0, 0, 0};
        for (int what = 0; what <= 12; what++) {
            int asked = what;
            due("count " + what, s, x -> x.count(asked), of[what]);
        }
        refused("a kind", s, x -> x.kind(1, 1, 1, 1), FULL);
        refused("a plane", s, x -> x.plane(1), FULL);
        refused("a part", s, x -> x.part(9, 1, 1, 1, 1), FULL);
        refused("an order", s, x -> x.order(9, 1), FULL);
        refused("a law", s, x -> x.law(0), FULL);
        refused("a link", s, x -> x.link(9, 1, 1), FULL);
        refused("a byte", s, x -> x.feed(1, '1'), FULL);
        due("a stay has room", s, x -> x.move(99, 10), 1);
    }

    private void lastPlaneFlies() {
        terms("PLANES 0 .. 9");
        Scene s = house().then(x -> x.fly(9, 5, 3));
        due("its hours", s, x -> x.ofPlane(9, 0), 5);
        due("hours of the last part", s, x -> x.ofPart(99, 3), 104);
        due("landings of the last part", s, x -> x.ofPart(99, 4), 102);
        due("hours of one in store", s, x -> x.ofPart(98, 3), 98);
        due("reserve of the last kind", s, x -> x.reserve(9, 9), 3 * 19 * 5);
        due("reserve of the first kind", s, x -> x.reserve(9, 0), 10 * 5);
        due("reserve of another kind", s, x -> x.reserve(9, 8), 0);
        due("reserve of the plane ahead", s, x -> x.reserve(8, 9), 0);
        due("the first plane is grounded", s, x -> x.grounded(0, 0), 1);
        due("the first plane flies when it has its part", s.then(x -> x.move(69, 0)), x -> x.fly(0, 9, 9), 9);
        due("paid", s.then(x -> x.move(99, 10)), x -> x.claim(99, 999999), 285);
        due("paid of the first kind", s.then(x -> x.move(90, 10)), x -> x.claim(90, 999999), 50);
        due("parts on it", s, x -> x.ofPlane(9, 3), 4);
        due("chain", s, x -> x.net(9, 3, 999), 99900);
        due("half life of the first plane", s, x -> x.half(0, 0), 0);
        // By a law of 9 hundredths: parts of kind 9 (limits 1009, 509 and 409, rate 9) have lost 90, 45 and 36.
        long sum = 0;
        for (int part : new int[] {79, 89, 99}) {
            sum += (1009 - part - 5 - 90 - 504) * 9 / 100 + (509 - part - 3 - 45 - 254) * 9 / 100
                + (409 - part - 36 - 204) * 9 / 100;
        }
        long half = sum;
        due("half life", s, x -> x.half(9, 0), half);
        due("insurance", s, x -> x.insure(9), (9000 + half + 999) / 1000);
    }

    private void lastPart() {
        terms("PARTS 0 .. 99");
        Scene s = house();
        int[] of = {9, 100, 9, 99, 99, 99, 2, 1, 0};
        for (int what = 0; what <= 8; what++) {
            int asked = what;
            due("what " + what, s, x -> x.ofPart(99, asked), of[what]);
        }
        due("left", s, x -> x.left(99, 0, 0), 1009 - 99 - 90);
        due("least", s, x -> x.least(99, 0), 2);
        due("swap", s, x -> x.swap(99, 69), 1);
        due("swap with the first of its kind", s.then(x -> x.swap(99, 9)), x -> x.ofPart(9, 2), 9);
        due("repair", s.then(x -> x.move(99, 10), x -> x.repair(99, 7)), x -> x.ofPart(99, 5), 0);
        due("paper", s.then(x -> x.paper(99, 0, 1)), x -> x.ofPart(99, 7), 0);
        due("past", s, x -> x.past(99, 9, 0, 0, 0, 50000000), 3);
        due("days", s.then(x -> x.days(400)), x -> x.ofPart(99, 5), 499);
        due("no twin", s, x -> x.ofPart(0, 8), 0);
        Scene eight = s.then(x -> x.move(9, 10), x -> x.move(19, 10));
        refused("ten to choose from", s, x -> x.best(9, 9), BIG);
        refused("nine to choose from", s.then(x -> x.move(9, 10)), x -> x.best(9, 9), BIG);
        due("eight to choose from: those without a gap", eight, x -> x.best(9, 9), 0b111);
    }

    private void lastLaw() {
        promise(20, "its number (0 .. 9)");
        Scene s = house();
        due("the last is in force", s, x -> x.lost(99, 0, 0), 9);
        refused("no other", s, x -> x.law(0), FULL);
        due("as known on the last day", s, x -> x.lost(99, 0, 9999), 9);
    }

    private void lastOrder() {
        terms("ORDERS 0 .. 19");
        Scene s = house();
        due("of kind 0", s, x -> x.done(19, 9), 1);
        due("of kind 9", s, x -> x.done(18, 9), 1);
        due("of kind 9 for plane 0", s, x -> x.done(18, 0), 1);
        refused("of kind 0 for plane 0", s, x -> x.done(19, 0), NOT);
        refused("of any for plane 8", s, x -> x.done(18, 8), NOT);
        due("done for plane 9 alone", s.then(x -> x.done(18, 9)), x -> x.done(18, 0), 1);
        refused("done", s.then(x -> x.done(19, 9)), x -> x.done(19, 9), NOT);
    }

    private void lastLine() {
        terms("LINES, one or more");
        Scene s = house();
        due("gaps", s, x -> x.lacks(9, 29, 0, 0), 4);
        due("what they cost", s, x -> x.costs(9, 29, 0, 0), 28);
        due("all together", s, x -> x.costs(9, -1, 0, 0), 28);
        due("one is missing", s.then(x -> x.move(99, 10)), x -> x.costs(9, -1, 0, 0), 29 + 21);
        refused("no such line", s, x -> x.lacks(9, 30, 0, 0), BAD);
    }

    private void lastsOfAllReturned() {
        promise(27, "RETURNED TODAY: what it costs AS KNOWN TODAY.");
        Scene s = house().then(x -> x.days(400));
        due("it costs", s, x -> x.giveBack(9), 28);
        Scene back = s.then(x -> x.giveBack(9), x -> x.days(1));
        due("the last part is gone", back, x -> x.ofPart(99, 2), 12);
        due("its days stay", back, x -> x.ofPart(99, 5), 499);
        due("gone ones", back, x -> x.count(8), 4);
        due("the part ahead of it is in store", back, x -> x.ofPart(98, 2), 11);
        refused("twice", back, x -> x.giveBack(9), NOT);
    }

    private void allStays() {
        terms("At most 500 in all.");
        Scene s = house().times(198, i -> x -> x.swap(i % 2 == 0 ? 99 : 69, i % 2 == 0 ? 69 : 99));
        due("stays", s, x -> x.count(6), 500);
        due("stays of the last part", s, x -> x.ofPart(99, 6), 200);
        due("the last stay of the last part", s, x -> x.stay(99, 199, 2), VOID);
        due("none behind it", s, x -> x.stay(99, 200, 0), VOID);
        due("gaps of the last part", s, x -> x.ofPart(99, 7), 199);
        due("left of the last part", s, x -> x.left(99, 0, 0), 1009 - 99 - 199 * 90);
        refused("a swap", s, x -> x.swap(99, 69), FULL);
        refused("a move", s, x -> x.move(99, 10), FULL);
        refused("a past one", s, x -> x.past(99, 9, 0, 0, 0, 50000000), FULL);
        due("given back", s, x -> x.giveBack(9), 7 * (199 + 3));
        due("stays then", s.then(x -> x.giveBack(9)), x -> x.count(6), 500);
    }
}
