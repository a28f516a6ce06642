import java.io.IOException;

/** Boundary cases of promises 9 to 18, and of the terms that they go by. */
public final class EdgesPartsTest extends Sentences {
    private static final int SAME = 50000000;

    private EdgesPartsTest() throws IOException {
        super("EdgesPartsTest");
    }

    public static void main(String[] args) throws IOException {
        EdgesPartsTest t = new EdgesPartsTest();
        t.hundredParts();
        t.partsNumbers();
        t.partsTold();
        t.places();
        t.partsFull();
        t.movesPlaces();
        t.movesNot();
        t.movesNeverTooMany();
        t.movesFull();
        t.swapsNot();
        t.swapsFull();
        t.swapsInOne();
        t.repairs();
        t.repairsMeasures();
        t.ofParts();
        t.overlaps();
        t.overlapsOfOneDay();
        t.overlapsWithTheOneThatGoesOn();
        t.lessAtTheEnd();
        t.lessThanAhead();
        t.lessByAShop();
        t.lessInOrder();
        t.twins();
        t.mayBe();
        t.cantBeFirst();
        t.leftOfMeasures();
        t.leftBelow();
        t.leastNot();
        t.leastOfSeveral();
        t.stays();
        t.staysInOrder();
        t.staysOneBehindTheOther();
        t.staysThatGoOn();
        t.papers();
        t.papersAtFirst();
        t.pastPlaces();
        t.pastAtBothEnds();
        t.pastCounts();
        t.pastDays();
        t.pastUsed();
        t.pastEnds();
        t.pastAnswers();
        t.pastOrder();
        t.end(9, 18);
    }

    private static Scene fullOfStays() {
        return oddStays(499).then(x -> x.move(1, 10));
    }

    private void hundredParts() {
        terms("PARTS 0 .. 99, as they came");
        Scene s = rich().times(94, i -> x -> x.part(2, 100 + i, 0, 0, 0));
        due("the hundredth", s, x -> x.part(0, 7, 0, 0, 0), 99);
        Scene full = s.then(x -> x.part(0, 7, 0, 0, 0));
        refused("one more", full, x -> x.part(0, 7, 0, 0, 0), FULL);
        refused("bad number ahead of one more", full, x -> x.part(0, 0, 0, 0, 0), BAD);
        refused("bad kind ahead of one more", full, x -> x.part(3, 7, 0, 0, 0), BAD);
        refused("bad used ahead of one more", full, x -> x.part(0, 7, 0, 100000, 0), BAD);
        due("in all", full, x -> x.count(2), 100);
        within("part", full, v -> x -> x.ofPart(v, 1), 0, 99, v -> v == 0 ? 11 : v == 1 ? 12 : v == 98 ? 193 : 7, VOID);
    }

    private void partsNumbers() {
        promise(9, "BAD (number 1 .. 99999, USED 0 .. 99999 each), FULL (also of STAYS).");
        Scene s = rich();
        within("kind", s, v -> x -> x.part(v, 1, 0, 0, 0), 0, 2, 5, BAD);
        within("number", s, v -> x -> x.part(0, v, 0, 0, 0), 1, 99999, 5, BAD);
        within("hours", s, v -> x -> x.part(0, 1, v, 0, 0), 0, 99999, 5, BAD);
        within("landings", s, v -> x -> x.part(0, 1, 0, v, 0), 0, 99999, 5, BAD);
        within("days", s, v -> x -> x.part(0, 1, 0, 0, v), 0, 99999, 5, BAD);
        int[] most = {0, 99999, 11, 99999, 99998, 99997, 1, 0, 0}, least = {2, 1, 11, 0, 0, 0, 1, 0, 0};
        for (int what = 0; what <= 8; what++) {
            int asked = what;
            Scene high = s.then(x -> x.part(0, 99999, 99999, 99998, 99997)), low = s.then(x -> x.part(2, 1, 0, 0, 0));
            due("most " + what, high, x -> x.ofPart(5, asked), most[what]);
            due("least " + what, low, x -> x.ofPart(5, asked), least[what]);
        }
    }

    private void partsTold() {
        terms("a KIND, a NUMBER (1 .. 99999), USED: HOURS, LANDINGS, DAYS (0 .. 99999 each, as told).");
        Scene s = rich();
        for (int what = 3; what <= 5; what++) {
            int asked = what;
            for (int used : new int[] {0, 1, 99998, 99999}) {
                int[] told = {7, 7, 7};
                told[asked - 3] = used;
                Scene one = s.then(x -> x.part(1, 9, told[0], told[1], told[2]));
                for (int other = 3; other <= 5; other++) {
                    int of = other;
                    due("used " + of, one, x -> x.ofPart(5, of), of == asked ? used : 7);
                }
            }
        }
        for (int number : new int[] {1, 2, 99998, 99999}) {
            due("number " + number, s.then(x -> x.part(1, number, 0, 0, 0)), x -> x.ofPart(5, 1), number);
        }
    }

    private void places() {
        terms("PLACE: 0 .. 9 on that PLANE, 10 a SHOP, 11 a STORE (so at first), 12 GONE.");
        Scene s = start().then(x -> x.kind(0, 0, 0, 0)).times(10, i -> x -> x.plane(0))
            .times(10, i -> x -> x.need(i, 0, 1)).then(x -> x.part(0, 1, 0, 0, 0));
        due("at first", s, x -> x.ofPart(0, 2), 11);
        for (int place = 0; place <= 10; place++) {
            int to = place;
            due("moved to " + to, s.then(x -> x.move(0, to)), x -> x.ofPart(0, 2), to);
            due("its stay there", s.then(x -> x.move(0, to)), x -> x.stay(0, 1, 0), to);
        }
        due("back in store", s.then(x -> x.move(0, 10), x -> x.move(0, 11)), x -> x.ofPart(0, 2), 11);
        Scene last = s.then(x -> x.move(0, 9)).contract("g 0;", 9, 0, 0);
        due("gone", last.then(x -> x.giveBack(9)), x -> x.ofPart(0, 2), 12);
        due("its last stay was on the plane", last.then(x -> x.giveBack(9)), x -> x.stay(0, 1, 0), 9);
    }

    private void partsFull() {
        terms("At most 500 in all.");
        Scene s = oddStays(499);
        due("stays so far", s, x -> x.count(6), 499);
        due("a part's stay is the last", s, x -> x.part(0, 1, 0, 0, 0), 2);
        Scene full = s.then(x -> x.part(0, 3, 0, 0, 0));
        due("stays then", full, x -> x.count(6), 500);
        refused("no stay for a part", full, x -> x.part(0, 1, 0, 0, 0), FULL);
        refused("bad kind ahead of full", full, x -> x.part(2, 1, 0, 0, 0), BAD);
        refused("bad number ahead of full", full, x -> x.part(0, 0, 0, 0, 0), BAD);
        refused("bad hours ahead of full", full, x -> x.part(0, 1, -1, 0, 0), BAD);
        refused("no stay for a past one", full, x -> x.past(0, 11, 0, 0, 0, SAME), FULL);
        due("giving back takes none", full.contract("g 1;", 0, 0, 0), x -> x.giveBack(0), 249);
    }

    private void movesPlaces() {
        promise(10, "A PART goes to a place (0 .. 11) TODAY: 1.");
        Scene s = rich();
        refused("below", s, x -> x.move(3, -1), BAD);
        due("the last plane there is, of a kind that it needs", s, x -> x.move(3, 1), 1);
        refused("no such plane", s, x -> x.move(3, 3), BAD);
        refused("no such plane up to the shop", s, x -> x.move(3, 9), BAD);
        due("the shop", s, x -> x.move(3, 10), 1);
        due("the store", s, x -> x.move(1, 11), 1);
        refused("gone", s, x -> x.move(3, 12), BAD);
        refused("far below", s, x -> x.move(3, MIN), BAD);
        refused("far above", s, x -> x.move(3, MAX), BAD);
        int[] toShop = {1, NOT, 1, 1, NOT};
        within("part", s, v -> x -> x.move(v, 10), 0, 4, v -> toShop[v], BAD);
        Scene ten = rich().times(7, i -> x -> x.plane(1)).then(x -> x.need(9, 0, 1));
        due("plane 9", ten, x -> x.move(3, 9), 1);
        Scene moved = s.then(x -> x.days(2), x -> x.move(3, 10));
        due("its stay ends today", moved, x -> x.stay(3, 1, 2), 6);
        due("the next begins today", moved, x -> x.stay(3, 2, 1), 6);
        due("and goes on", moved, x -> x.stay(3, 2, 2), VOID);
    }

    private void movesNot() {
        promise(10, "BAD; NOT: it is there, GONE, the PLANE is RETURNED, or has as many of its KIND as it needs;");
        Scene s = rich();
        refused("it is on that plane", s, x -> x.move(0, 0), NOT);
        refused("it is in the shop", s, x -> x.move(1, 10), NOT);
        refused("it is in store", s, x -> x.move(3, 11), NOT);
        refused("gone to the store", s, x -> x.move(4, 11), NOT);
        refused("gone to the shop", s, x -> x.move(4, 10), NOT);
        refused("gone to its plane", s, x -> x.move(4, 2), NOT);
        Scene spare = s.then(x -> x.part(2, 6, 0, 0, 0));
        refused("the plane is returned, though it lacks one", spare, x -> x.move(5, 2), NOT);
        refused("it needs none of that kind", spare, x -> x.move(5, 0), NOT);
        refused("it has as many", s.then(x -> x.move(1, 0)), x -> x.move(3, 0), NOT);
        refused("no such place for one that is gone", s, x -> x.move(4, 12), BAD);
        refused("no such part to a returned plane", s, x -> x.move(5, 2), BAD);
        refused("no such plane for one that is gone", s, x -> x.move(4, 3), BAD);
    }

    private void movesNeverTooMany() {
        terms("On a PLANE there are never more of a KIND than it needs.");
        for (int need = 1; need <= 3; need++) {
            int n = need;
            Scene s = start().then(x -> x.kind(0, 0, 0, 0), x -> x.kind(0, 0, 0, 0), x -> x.plane(0))
                .then(x -> x.need(0, 0, n), x -> x.need(0, 1, 3))
                .times(4, i -> x -> x.part(0, 1 + i, 0, 0, 0)).times(n - 1, i -> x -> x.move(i, 0));
            due("the last of " + n, s, x -> x.move(n - 1, 0), 1);
            refused("one more than " + n, s.then(x -> x.move(n - 1, 0)), x -> x.move(3, 0), NOT);
            due("a swap keeps " + n, s.then(x -> x.move(n - 1, 0), x -> x.swap(0, 3)), x -> x.ofPlane(0, 3), n);
        }
    }

    private void movesFull() {
        promise(10, "FULL: 500 STAYS.");
        Scene s = oddStays(499);
        due("the last stay", s, x -> x.move(1, 10), 1);
        due("500", s.then(x -> x.move(1, 10)), x -> x.count(6), 500);
        Scene full = fullOfStays();
        refused("from the shop", full, x -> x.move(1, 11), FULL);
        refused("from the plane", full, x -> x.move(0, 11), FULL);
        refused("it is there ahead of full", full, x -> x.move(1, 10), NOT);
        refused("it has as many ahead of full", full, x -> x.move(1, 0), NOT);
        refused("no such place ahead of full", full, x -> x.move(1, 12), BAD);
        refused("no such part ahead of full", full, x -> x.move(2, 10), BAD);
        Scene back = full.contract("g 0;", 0, 0, 0).then(x -> x.giveBack(0));
        refused("gone ahead of full", back, x -> x.move(0, 11), NOT);
        refused("returned ahead of full", back, x -> x.move(1, 0), NOT);
    }

    private void swapsNot() {
        promise(11, "SWAP: a PART on a PLANE, and one of the same KIND in STORE: 1. BAD; NOT: they are not so; FULL.");
        Scene s = rich().then(x -> x.part(1, 22, 0, 0, 0), x -> x.part(2, 6, 0, 0, 0));
        due("as it should be", s, x -> x.swap(0, 3), 1);
        due("of the other kind", s, x -> x.swap(2, 5), 1);
        refused("another kind", s, x -> x.swap(0, 5), NOT);
        refused("the first in store", s, x -> x.swap(3, 3), NOT);
        refused("the first in a shop", s, x -> x.swap(1, 3), NOT);
        refused("the first gone", s, x -> x.swap(4, 6), NOT);
        refused("the second on the plane", s, x -> x.swap(0, 0), NOT);
        refused("the second in a shop", s, x -> x.swap(0, 1), NOT);
        refused("the second gone", s.then(x -> x.need(1, 2, 1), x -> x.move(6, 1)), x -> x.swap(6, 4), NOT);
        refused("the other way round", s, x -> x.swap(3, 0), NOT);
        int[] none = {MIN, -1, 7, MAX};
        for (int part : none) {
            refused("no such first part " + part, s, x -> x.swap(part, 3), BAD);
            refused("no such second part " + part, s, x -> x.swap(0, part), BAD);
            refused("no such second part, the first in store " + part, s, x -> x.swap(3, part), BAD);
        }
    }

    private void swapsFull() {
        promise(11, "BAD; NOT: they are not so; FULL.");
        Scene most = oddStays(497).then(x -> x.move(1, 11), x -> x.move(1, 0));
        due("499 stays", most, x -> x.count(6), 499);
        refused("room for one alone", most, x -> x.swap(1, 0), FULL);
        Scene two = oddStays(497).then(x -> x.part(0, 3, 0, 0, 0));
        due("498 stays", two, x -> x.count(6), 498);
        due("room for both", two, x -> x.swap(1, 0), 1);
        due("500 stays", two.then(x -> x.swap(1, 0)), x -> x.count(6), 500);
        Scene full = two.then(x -> x.swap(1, 0));
        refused("no room", full, x -> x.swap(0, 1), FULL);
        refused("not so ahead of full", full, x -> x.swap(1, 0), NOT);
        refused("no such part ahead of full", full, x -> x.swap(0, 3), BAD);
    }

    private void swapsInOne() {
        terms("SWAP: a part on a PLANE goes to STORE, and one from STORE there, in one.");
        Scene s = rich().then(x -> x.move(1, 11), x -> x.move(1, 0), x -> x.days(2), x -> x.swap(0, 3));
        due("its place", s, x -> x.ofPart(0, 2), 11);
        due("the other's", s, x -> x.ofPart(3, 2), 0);
        due("as many are on it", s, x -> x.ofPlane(0, 3), 3);
        due("its stay ended", s, x -> x.stay(0, 2, 2), 6);
        due("its next began", s, x -> x.stay(0, 3, 1), 6);
        due("the other's stay ended", s, x -> x.stay(3, 1, 2), 6);
        due("the other's next began", s, x -> x.stay(3, 2, 1), 6);
    }

    private void repairs() {
        promise(12, "measures (bits 1 HOURS, 2 LANDINGS, 4 DAYS; 1 .. 7): 1. BAD; NOT: it is in no SHOP.");
        Scene s = rich();
        within("measures", s, v -> x -> x.repair(1, v), 1, 7, 1, BAD);
        for (int part : new int[] {MIN, -1, 5, MAX}) {
            refused("part " + part, s, x -> x.repair(part, 1), BAD);
        }
        refused("on a plane", s, x -> x.repair(0, 7), NOT);
        refused("in store", s, x -> x.repair(3, 7), NOT);
        refused("gone", s, x -> x.repair(4, 7), NOT);
        refused("no measure of one in store", s, x -> x.repair(3, 0), BAD);
        refused("eight of one that is gone", s, x -> x.repair(4, 8), BAD);
    }

    private void repairsMeasures() {
        terms("REPAIRED in a SHOP: USED of told measures is 0 again.");
        Scene s = rich();
        int[] used = {350, 100, 14};
        for (int measures = 0; measures <= 7; measures++) {
            int bits = measures;
            Scene then = s.then(x -> x.repair(1, bits));
            for (int measure = 0; measure < 3; measure++) {
                int m = measure;
                due("measures " + bits, then, x -> x.ofPart(1, 3 + m), (bits >> m & 1) == 1 ? 0 : used[m]);
            }
        }
        due("its days grow again", s.then(x -> x.repair(1, 4), x -> x.days(1)), x -> x.ofPart(1, 5), 1);
    }

    private void ofParts() {
        promise(13, "VOID: BAD.");
        Scene s = rich();
        int[] of = {0, 11, 0, 150, 50, 34, 3, 2, 0};
        within("what", s, v -> x -> x.ofPart(0, v), 0, 8, v -> of[v], VOID);
        for (int what = 0; what <= 8; what++) {
            int asked = what;
            due("what " + what, s, x -> x.ofPart(0, asked), of[asked]);
            refused("what " + what + " of no part below", s, x -> x.ofPart(-1, asked), VOID);
            refused("what " + what + " of no part above", s, x -> x.ofPart(5, asked), VOID);
        }
        due("the first", s, x -> x.ofPart(0, 1), 11);
        due("the last", s, x -> x.ofPart(4, 1), 5);
    }

    /** A part of numbers 1, 2 .. that came on the first day; two planes. */
    private static Scene one() {
        return start().then(x -> x.kind(100, 0, 0, 0), x -> x.plane(0), x -> x.plane(0))
            .then(x -> x.part(0, 1, 100, 100, 0));
    }

    private void overlaps() {
        terms("1 two of them in unlike places overlap by more than a DAY on which the one ends and the other begins");
        Scene s = one().past(0, 0, -20, -10, 0, 0, 0, 0);
        for (int shift = -1; shift <= 1; shift++) {
            int behind = -10 + shift, ahead = -20 + shift;
            due("begins on " + behind, s.past(0, 1, behind, -5, 0, 0, 0, 0), x -> x.ofPart(0, 8), shift < 0 ? 1 : 0);
            due("ends on " + ahead, s.past(0, 1, -30, ahead, 0, 0, 0, 0), x -> x.ofPart(0, 8), shift > 0 ? 1 : 0);
            due("in the same place", s.past(0, 0, behind, -5, 0, 0, 0, 0), x -> x.ofPart(0, 8), 0);
            due("in a shop", s.past(0, 10, behind, -5, 0, 0, 0, 0), x -> x.ofPart(0, 8), shift < 0 ? 1 : 0);
            due("in store", s.past(0, 11, behind, -5, 0, 0, 0, 0), x -> x.ofPart(0, 8), shift < 0 ? 1 : 0);
        }
        due("the same days", s.past(0, 1, -20, -10, 0, 0, 0, 0), x -> x.ofPart(0, 8), 1);
        due("within it", s.past(0, 1, -16, -15, 0, 0, 0, 0), x -> x.ofPart(0, 8), 1);
        due("around it", s.past(0, 1, -30, -5, 0, 0, 0, 0), x -> x.ofPart(0, 8), 1);
        Scene far = s.past(0, 0, -15, -14, 0, 0, 0, 0);
        due("not of neighbours in order", far.past(0, 1, -11, -11, 0, 0, 0, 0), x -> x.ofPart(0, 8), 1);
        due("not of neighbours, behind both", far.past(0, 1, -10, -10, 0, 0, 0, 0), x -> x.ofPart(0, 8), 0);
        Scene early = s.past(0, 0, -30, -29, 0, 0, 0, 0);
        due("not with the first", early.past(0, 1, -11, -9, 0, 0, 0, 0), x -> x.ofPart(0, 8), 1);
        due("not with the first, nor the second", early.past(0, 1, -10, -9, 0, 0, 0, 0), x -> x.ofPart(0, 8), 0);
    }

    private void overlapsOfOneDay() {
        terms("each begins ahead of the other's end");
        Scene s = one().past(0, 0, -20, -10, 0, 0, 0, 0);
        int[] days = {-21, -20, -19, -11, -10, -9}, want = {0, 0, 1, 1, 0, 0};
        for (int i = 0; i < days.length; i++) {
            int day = days[i];
            due("on " + day + " alone", s.past(0, 1, day, day, 0, 0, 0, 0), x -> x.ofPart(0, 8), want[i]);
        }
        Scene day = one().past(0, 0, -20, -20, 0, 0, 0, 0);
        due("two on one day alone", day.past(0, 1, -20, -20, 0, 0, 0, 0), x -> x.ofPart(0, 8), 0);
        due("two days from that day on", day.past(0, 1, -20, -19, 0, 0, 0, 0), x -> x.ofPart(0, 8), 0);
        due("two days up to that day", day.past(0, 1, -21, -20, 0, 0, 0, 0), x -> x.ofPart(0, 8), 0);
        due("two days on both sides", day.past(0, 1, -21, -19, 0, 0, 0, 0), x -> x.ofPart(0, 8), 1);
    }

    private void overlapsWithTheOneThatGoesOn() {
        terms("(the one that goes on: up to TODAY)");
        Scene s = one().past(0, 0, -1, 0, 0, 0, 0, 0).past(0, 1, 0, 0, 100, 100, 100, 100);
        due("on the first day", s, x -> x.ofPart(0, 8), 0);
        due("a day on", s.then(x -> x.days(1)), x -> x.ofPart(0, 8), 0);
        due("moved on the first day", s.then(x -> x.move(0, 10), x -> x.days(1)), x -> x.ofPart(0, 8), 0);
        due("moved a day on", s.then(x -> x.days(1), x -> x.move(0, 10)), x -> x.ofPart(0, 8), 0);
        Scene long1 = one().past(0, 0, -9999, 0, 0, 0, 0, 0).then(x -> x.days(400));
        due("up to the day on which it came", long1, x -> x.ofPart(0, 8), 0);
    }

    private void lessAtTheEnd() {
        terms("2 USED HOURS or LANDINGS are less at the end of one than at its beginning");
        for (int more = -1; more <= 1; more++) {
            int n = more;
            int want = n < 0 ? 2 : 0;
            for (int place : new int[] {0, 11}) {
                due("hours " + n, one().past(0, place, -9, -8, 50, 50 + n, 9, 9), x -> x.ofPart(0, 8), want);
                due("landings " + n, one().past(0, place, -9, -8, 9, 9, 50, 50 + n), x -> x.ofPart(0, 8), want);
            }
            due("hours in a shop " + n, one().past(0, 10, -9, -8, 50, 50 + n, 9, 9), x -> x.ofPart(0, 8), 0);
            due("landings in a shop " + n, one().past(0, 10, -9, -8, 9, 9, 50, 50 + n), x -> x.ofPart(0, 8), 0);
        }
        Scene shop = one().then(x -> x.move(0, 10), x -> x.repair(0, 7));
        due("repaired", shop, x -> x.ofPart(0, 8), 0);
        due("and out of the shop", shop.then(x -> x.move(0, 11)), x -> x.ofPart(0, 8), 0);
    }

    private void lessThanAhead() {
        terms("or less at the beginning of one than at the end of the one ahead");
        for (int more = -1; more <= 1; more++) {
            int n = more, want = n < 0 ? 2 : 0;
            Scene s = one().past(0, 0, -9, -8, 10, 20, 10, 20);
            due("hours " + n, s.past(0, 1, -8, -7, 20 + n, 30, 20, 30), x -> x.ofPart(0, 8), want);
            due("landings " + n, s.past(0, 1, -8, -7, 20, 30, 20 + n, 30), x -> x.ofPart(0, 8), want);
            due("hours, the second in a shop " + n, s.past(0, 10, -8, -7, 20 + n, 30, 20, 30), x -> x.ofPart(0, 8), 0);
            Scene shop = one().past(0, 10, -9, -8, 10, 20, 10, 20);
            due("landings, the first in a shop " + n, shop.past(0, 1, -8, -7, 20, 30, 20 + n, 30),
                x -> x.ofPart(0, 8), 0);
            due("hours against those it came with " + n, one().past(0, 0, -9, -8, 0, 100 - n, 0, 0),
                x -> x.ofPart(0, 8), want);
            due("landings against those it came with " + n, one().past(0, 0, -9, -8, 0, 0, 0, 100 - n),
                x -> x.ofPart(0, 8), want);
        }
        Scene between = one().past(0, 0, -9, -8, 10, 20, 10, 20).past(0, 10, -8, -7, 20, 0, 20, 0);
        due("a shop between two", between.past(0, 1, -7, -6, 0, 5, 0, 5), x -> x.ofPart(0, 8), 0);
    }

    private void lessByAShop() {
        terms("but for STAYS in a SHOP, and between two of which one is in a SHOP");
        Scene s = one().past(0, 0, -9, -8, 10, 20, 10, 20);
        due("into a shop with less", s.past(0, 10, -8, -7, 19, 19, 19, 19), x -> x.ofPart(0, 8), 0);
        due("less at the end of a shop", s.past(0, 10, -8, -7, 20, 0, 20, 0), x -> x.ofPart(0, 8), 0);
        due("out of a shop with less", s.past(0, 10, -8, -7, 200, 200, 200, 200), x -> x.ofPart(0, 8), 0);
        due("in store with less", s.past(0, 11, -8, -7, 19, 19, 19, 19), x -> x.ofPart(0, 8), 2);
        due("less at the end in store", s.past(0, 11, -8, -7, 20, 19, 20, 20), x -> x.ofPart(0, 8), 2);
        due("out of a store with less", s.past(0, 11, -8, -7, 20, 101, 20, 20), x -> x.ofPart(0, 8), 2);
        Scene two = s.past(0, 10, -8, -7, 20, 0, 20, 0).past(0, 10, -7, -6, 50, 0, 50, 0);
        due("two shops", two, x -> x.ofPart(0, 8), 0);
        due("behind both, growing less", two.past(0, 0, -6, -5, 1, 0, 0, 0), x -> x.ofPart(0, 8), 2);
    }

    private void lessInOrder() {
        terms("(in order of their beginnings; of one DAY as told)");
        Scene late = one().past(0, 0, -5, -4, 30, 40, 0, 0);
        due("told later, begun earlier", late.past(0, 0, -9, -8, 10, 20, 0, 0), x -> x.ofPart(0, 8), 0);
        due("told and begun later", late.past(0, 0, -3, -2, 10, 20, 0, 0), x -> x.ofPart(0, 8), 2);
        due("of one day as told", late.past(0, 0, -5, -5, 40, 50, 0, 0), x -> x.ofPart(0, 8), 0);
        due("of one day the other way round", late.past(0, 0, -5, -5, 20, 30, 0, 0), x -> x.ofPart(0, 8), 2);
    }

    private void twins() {
        terms("3 another PART of the same KIND and NUMBER that is not GONE.");
        Scene s = one().then(x -> x.kind(0, 0, 0, 0));
        due("alone", s, x -> x.ofPart(0, 8), 0);
        due("the same", s.then(x -> x.part(0, 1, 0, 0, 0)), x -> x.ofPart(0, 8), 3);
        due("the other of the two", s.then(x -> x.part(0, 1, 0, 0, 0)), x -> x.ofPart(1, 8), 3);
        due("number above", s.then(x -> x.part(0, 2, 0, 0, 0)), x -> x.ofPart(0, 8), 0);
        due("another kind", s.then(x -> x.part(1, 1, 0, 0, 0)), x -> x.ofPart(0, 8), 0);
        Scene on = s.then(x -> x.part(0, 1, 0, 0, 0), x -> x.need(0, 0, 1), x -> x.move(1, 0))
            .contract("g 0;", 0, 0, 0);
        due("on a plane", on, x -> x.ofPart(0, 8), 3);
        due("gone with it", on.then(x -> x.giveBack(0)), x -> x.ofPart(0, 8), 0);
        due("of the gone one", on.then(x -> x.giveBack(0)), x -> x.ofPart(1, 8), 3);
    }

    private void mayBe() {
        terms("0: it may be.");
        Scene s = one();
        due("as it came", s, x -> x.ofPart(0, 8), 0);
        due("moved", s.then(x -> x.move(0, 10), x -> x.move(0, 11)), x -> x.ofPart(0, 8), 0);
        due("a day in each place", s.then(x -> x.days(1), x -> x.move(0, 10), x -> x.days(1), x -> x.move(0, 11)),
            x -> x.ofPart(0, 8), 0);
        due("on a plane", ready().then(x -> x.fly(0, 9, 9), x -> x.days(1)), x -> x.ofPart(0, 8), 0);
        due("with an open gap ahead", s.past(0, 0, -9, -5, 0, 50, 0, 50), x -> x.ofPart(0, 8), 0);
        due("gone", ready().contract("g 0;", 0, 0, 0).then(x -> x.giveBack(0)), x -> x.ofPart(0, 8), 0);
    }

    private void cantBeFirst() {
        terms("CAN'T BE: of a PART's STAYS (PAST ones too): the first of:");
        Scene twin = one().then(x -> x.part(0, 1, 0, 0, 0));
        Scene less = twin.past(0, 0, -9, -8, 5, 4, 0, 0);
        due("2 and 3", less, x -> x.ofPart(0, 8), 2);
        due("1, 2 and 3", less.past(0, 1, -9, -8, 5, 4, 0, 0), x -> x.ofPart(0, 8), 1);
        due("1 and 3", twin.past(0, 1, -9, -8, 0, 0, 0, 0).past(0, 0, -9, -8, 0, 0, 0, 0), x -> x.ofPart(0, 8), 1);
        due("3", twin, x -> x.ofPart(0, 8), 3);
    }

    private void leftOfMeasures() {
        promise(14, "LEFT of a measure (0 .. 2) AS KNOWN on DAY k. VOID: BAD, or there is no LIMIT.");
        Scene s = rich();
        // Part 3: two gaps are none yet but the past one of 10 days, which lost nothing: no law is for its end.
        int[] left = {990, 495, 391};
        within("measure", s, v -> x -> x.left(3, v, 4), 0, 2, v -> left[v], VOID);
        within("day", s, v -> x -> x.left(3, 0, v), 0, 9999, 990, VOID);
        int[] ofParts = {850, 650, 1450, 990, VOID};
        within("part", s, v -> x -> x.left(v, 0, 0), 0, 4, v -> ofParts[v], VOID);
        due("hours of another kind", s, x -> x.left(2, 0, 0), 1450);
        refused("no limit of landings", s, x -> x.left(2, 1, 0), VOID);
        refused("no limit of days", s, x -> x.left(2, 2, 0), VOID);
        refused("no limit at all", s, x -> x.left(4, 0, 0), VOID);
        refused("no limit, no such day", s, x -> x.left(4, 0, 10000), VOID);
    }

    private void leftBelow() {
        terms("LIMIT less USED less what is lost by all GAPS; perhaps below 0.");
        for (int measure = 0; measure < 3; measure++) {
            int m = measure;
            for (int used = 99; used <= 101; used++) {
                int[] of = {0, 0, 0};
                of[m] = used;
                Scene s = start().then(x -> x.kind(100, 100, 100, 0), x -> x.part(0, 1, of[0], of[1], of[2]));
                due("used " + used, s, x -> x.left(0, m, 0), 100 - used);
                Scene gap = s.then(x -> x.move(0, 10)).law("1", 0);
                due("used " + used + " and one lost", gap, x -> x.left(0, m, 0), 99 - used);
                due("a paper for it", gap.then(x -> x.paper(0, 0, 1)), x -> x.left(0, m, 0), 100 - used);
            }
        }
        Scene many = start().then(x -> x.kind(99999, 1, 0, 0), x -> x.part(0, 1, 99999, 99999, 0)).law("100", 0)
            .times(490, i -> x -> x.past(0, 11, 199989999, 0, 0, SAME));
        due("490 zero lives", many, x -> x.left(0, 0, 0), -490 * 99999);
        due("490 zero lives of 1", many, x -> x.left(0, 1, 0), 1 - 99999 - 490);
    }

    private void leastNot() {
        promise(15, "LEAST AS KNOWN on DAY k: the measure. BAD; NOT: it has no LIMIT.");
        Scene s = rich();
        within("day", s, v -> x -> x.least(0, v), 0, 9999, 0, BAD);
        for (int part : new int[] {MIN, -1, 5, MAX}) {
            refused("part " + part, s, x -> x.least(part, 0), BAD);
        }
        refused("no limit", s, x -> x.least(4, 0), NOT);
        refused("no limit, no such day", s, x -> x.least(4, -1), BAD);
        for (int measure = 0; measure < 3; measure++) {
            int[] limit = {0, 0, 0};
            limit[measure] = 1;
            Scene one = start().then(x -> x.kind(limit[0], limit[1], limit[2], 0), x -> x.part(0, 1, 9, 9, 9));
            due("the only limit", one, x -> x.least(0, 0), measure);
        }
    }

    private void leastOfSeveral() {
        terms("LEAST: the measure with the least LEFT times 10000 divided by LIMIT (toward 0); of several the first.");
        Scene kinds = start().then(x -> x.kind(20000, 20000, 20000, 0), x -> x.kind(0, 99999, 99999, 0));
        // 2 units of 20000 are one ten-thousandth; one unit is none of its own, neither above 0 nor below.
        int[][] used = {{0, 0, 0, 0}, {0, 1, 0, 1}, {0, 0, 1, 2}, {1, 0, 0, 0}, {2, 1, 1, 0}, {2, 1, 3, 2},
            {20000, 20001, 20001, 0}, {20000, 20001, 20002, 2}, {20001, 20000, 20002, 2}, {19999, 20000, 20001, 0},
            {20001, 20000, 19999, 0}, {19998, 20000, 20001, 1}, {19998, 19999, 20001, 1}, {20003, 20002, 20004, 2}};
        for (int[] u : used) {
            Scene s = kinds.then(x -> x.part(0, 1, u[0], u[1], u[2]));
            due("used " + u[0] + " " + u[1] + " " + u[2], s, x -> x.least(0, 0), u[3]);
        }
        int[] over = {9, 10, 11}, least = {1, 2, 2};
        for (int i = 0; i < 3; i++) {
            int n = over[i];
            Scene s = kinds.then(x -> x.part(1, 1, 0, 99999, 99990), x -> x.days(9 + n));
            due(n + " days below 0 of 99999", s, x -> x.least(0, 0), least[i]);
        }
        Scene far = start().then(x -> x.kind(99999, 99998, 0, 0), x -> x.part(0, 1, 0, 0, 0)).law("100", 0)
            .times(4, i -> x -> x.past(0, 11, 199989999, 0, 0, SAME)).then(x -> x.repair(0, 1));
        due("both -30000", far, x -> x.least(0, 0), 0);
    }

    private void stays() {
        promise(16, "VOID: BAD.");
        Scene s = rich();
        int[] of = {1, -5, 0, 80, 100, 30, 40, 0};
        within("what", s, v -> x -> x.stay(0, 0, v), 0, 7, v -> of[v], VOID);
        within("stay", s, v -> x -> x.stay(0, v, 1), 0, 2, v -> v == 0 ? -5 : 0, VOID);
        for (int what = 0; what <= 7; what++) {
            int asked = what;
            due("what " + what, s, x -> x.stay(0, 0, asked), of[asked]);
            refused("no such stay " + what, s, x -> x.stay(0, 3, asked), VOID);
            refused("no such part " + what, s, x -> x.stay(5, 0, asked), VOID);
            refused("no such part below " + what, s, x -> x.stay(-1, 0, asked), VOID);
        }
        Scene full = fullOfStays();
        within("of 500", full, v -> x -> x.stay(1, v, 0), 0, 249, v -> v % 2 == 0 ? 11 : v == 249 ? 10 : 0, VOID);
    }

    private void staysInOrder() {
        promise(16, "STAY i of a PART (in order of their beginnings; of one DAY as told; PAST ones too)");
        Scene s = one().then(x -> x.move(0, 10)).past(0, 0, -2, -1, 7, 7, 0, 0).past(0, 1, -3, 0, 6, 6, 0, 0)
            .past(0, 1, -2, 0, 8, 8, 0, 0).past(0, 0, 0, 0, 9, 9, 0, 0).then(x -> x.days(1), x -> x.move(0, 11));
        int[] where = {1, 0, 1, 11, 10, 0, 11}, from = {-3, -2, -2, 0, 0, 0, 1}, to = {0, -1, 0, 0, 1, 0, VOID};
        for (int i = 0; i < where.length; i++) {
            int at = i;
            due("where " + i, s, x -> x.stay(0, at, 0), where[i]);
            due("from " + i, s, x -> x.stay(0, at, 1), from[i]);
            due("to " + i, s, x -> x.stay(0, at, 2), to[i]);
        }
        refused("one behind the last", s, x -> x.stay(0, where.length, 0), VOID);
        promise(16, "7 PAPER (1, 0).");
        for (int i = 0; i < 6; i++) {
            int at = i;
            due("no paper " + i, s, x -> x.stay(0, at, 7), 0);
            due("a paper " + i, s.then(x -> x.paper(0, at, 1)), x -> x.stay(0, at, 7), 1);
            due("no paper for the next of " + i, s.then(x -> x.paper(0, at, 1)), x -> x.stay(0, at + 1, 7), 0);
        }
    }

    private void staysOneBehindTheOther() {
        terms("from a DAY to a DAY (the last one goes on), USED HOURS and LANDINGS at its beginning and at its end");
        Scene s = ready().then(x -> x.fly(0, 4, 3), x -> x.days(3), x -> x.move(0, 10), x -> x.repair(0, 1))
            .then(x -> x.move(0, 11), x -> x.days(1));
        int[][] want = {{11, 0, 2, 10, 10, 20, 20}, {0, 2, 5, 10, 14, 20, 23}, {10, 5, 5, 14, 0, 23, 23},
            {11, 5, VOID, 0, 0, 23, 23}};
        for (int i = 0; i < 4; i++) {
            for (int what = 0; what < 7; what++) {
                int at = i, asked = what;
                due("stay " + i + " what " + what, s, x -> x.stay(0, at, asked), want[i][what]);
            }
        }
    }

    private void staysThatGoOn() {
        promise(16, "2 its last DAY (VOID: it goes on), 3 HOURS at its beginning, 4 at its end (now, if it goes on)");
        Scene s = ready();
        int[] goesOn = {0, 2, VOID, 10, 10, 20, 20, 0}, flown = {0, 2, VOID, 10, 15, 20, 26, 0};
        int[] ended = {0, 2, 9, 10, 15, 20, 26, 0};
        Scene fly = s.then(x -> x.fly(0, 5, 6));
        Scene end = fly.then(x -> x.days(7), x -> x.move(0, 10), x -> x.repair(0, 7));
        for (int what = 0; what <= 7; what++) {
            int asked = what;
            due("it goes on " + what, s, x -> x.stay(0, 1, asked), goesOn[what]);
            due("it goes on and grew " + what, fly, x -> x.stay(0, 1, asked), flown[what]);
            due("it ended " + what, end, x -> x.stay(0, 1, asked), ended[what]);
        }
        due("repaired in the one that goes on", end, x -> x.stay(0, 2, 4), 0);
        due("which began with", end, x -> x.stay(0, 2, 3), 15);
        Scene back = fly.contract("g 0;", 0, 0, 0).then(x -> x.days(7), x -> x.giveBack(0), x -> x.days(1));
        for (int what = 0; what <= 7; what++) {
            int asked = what;
            due("gone with its plane " + what, back, x -> x.stay(0, 1, asked), ended[what]);
        }
    }

    private static Scene ready() {
        return start().then(x -> x.kind(5000, 5000, 0, 7), x -> x.plane(0), x -> x.need(0, 0, 1))
            .then(x -> x.part(0, 1, 10, 20, 30), x -> x.days(2), x -> x.move(0, 0));
    }

    private void papers() {
        promise(17, "A PAPER comes for STAY i (1), or is no more (0): what it was. BAD; NOT: it goes on.");
        Scene s = rich();
        within("is", s, v -> x -> x.paper(0, 0, v), 0, 1, 0, BAD);
        within("is, with a paper", s, v -> x -> x.paper(2, 0, v), 0, 1, 1, BAD);
        within("stay", s, v -> x -> x.paper(0, v, 1), 0, 2, v -> v == 2 ? NOT : 0, BAD);
        for (int part : new int[] {MIN, -1, 5, MAX}) {
            refused("part " + part, s, x -> x.paper(part, 0, 1), BAD);
        }
        refused("it goes on", s, x -> x.paper(0, 2, 0), NOT);
        refused("it goes on, is 2", s, x -> x.paper(0, 2, 2), BAD);
        refused("it goes on, is -1", s, x -> x.paper(0, 2, -1), BAD);
        due("the last of one that is gone", s, x -> x.paper(4, 1, 1), 0);
        due("it came", s.then(x -> x.paper(0, 0, 1)), x -> x.paper(0, 0, 1), 1);
        due("it is no more", s.then(x -> x.paper(2, 0, 0)), x -> x.paper(2, 0, 1), 0);
    }

    private void papersAtFirst() {
        terms("and whether there is a PAPER for it (1; 0: a GAP; so at first)");
        Scene s = start().then(x -> x.kind(0, 0, 0, 0), x -> x.part(0, 1, 0, 0, 0));
        due("none at first", s, x -> x.stay(0, 0, 7), 0);
        due("no gap, as it goes on", s, x -> x.ofPart(0, 7), 0);
        Scene ended = s.then(x -> x.move(0, 10));
        due("none at its end", ended, x -> x.stay(0, 0, 7), 0);
        due("a gap", ended, x -> x.ofPart(0, 7), 1);
        due("a paper", ended.then(x -> x.paper(0, 0, 1)), x -> x.stay(0, 0, 7), 1);
        due("no paper for the next", ended.then(x -> x.paper(0, 0, 1)), x -> x.stay(0, 1, 7), 0);
        due("the paper is no more", ended.then(x -> x.paper(0, 0, 1), x -> x.paper(0, 0, 0)), x -> x.stay(0, 0, 7), 0);
        due("no gap with a paper", ended.then(x -> x.paper(0, 0, 1)), x -> x.ofPart(0, 7), 0);
        due("a gap again", ended.then(x -> x.paper(0, 0, 1), x -> x.paper(0, 0, 0)), x -> x.ofPart(0, 7), 1);
        due("a past one", s.past(0, 11, 0, 0, 0, 0, 0, 0), x -> x.ofPart(0, 7), 1);
    }

    private void pastPlaces() {
        terms("A PAST STAY is told with place (a PLANE that there is, SHOP, STORE)");
        Scene s = rich();
        for (int place : new int[] {0, 1, 2, 10, 11}) {
            due("place " + place, s, x -> x.past(3, place, 0, 0, 0, SAME), 3);
            due("kept " + place, s.then(x -> x.past(3, place, 0, 0, 0, SAME)), x -> x.stay(3, 0, 0), place);
        }
        for (int place : new int[] {MIN, -1, 3, 9, 12, MAX}) {
            refused("place " + place, s, x -> x.past(3, place, 0, 0, 0, SAME), BAD);
        }
        Scene ten = rich().times(7, i -> x -> x.plane(1));
        due("plane 9", ten, x -> x.past(3, 9, 0, 0, 0, SAME), 3);
        refused("gone", ten, x -> x.past(3, 12, 0, 0, 0, SAME), BAD);
    }

    private void pastAtBothEnds() {
        terms("DAYS (-9999 .. 0), HOURS and LANDINGS at both ends; it has no PAPER at first.");
        Scene s = one().past(0, 1, -9999, -9998, 1, 2, 3, 4).past(0, 1, -1, 0, 99998, 99999, 99998, 99999);
        int[][] want = {{1, -9999, -9998, 1, 2, 3, 4, 0}, {1, -1, 0, 99998, 99999, 99998, 99999, 0}};
        for (int what = 0; what <= 7; what++) {
            int asked = what;
            due("the first " + what, s, x -> x.stay(0, 0, asked), want[0][what]);
            due("the second " + what, s, x -> x.stay(0, 1, asked), want[1][what]);
        }
        due("how many", s, x -> x.ofPart(0, 6), 3);
        due("gaps", s, x -> x.ofPart(0, 7), 2);
        due("its place stays", s, x -> x.ofPart(0, 2), 11);
        due("its used stay", s, x -> x.ofPart(0, 3), 100);
    }

    private void pastCounts() {
        promise(18, "A PAST STAY of a PART: how many STAYS it has. where: 0 .. 11;");
        due("the first", one(), x -> x.past(0, 0, 0, 0, 0, SAME), 2);
        due("the second", one().past(0, 0, 0, 0, 0, 0, 0, 0), x -> x.past(0, 0, 0, 0, 0, SAME), 3);
        due("behind a move", one().then(x -> x.move(0, 10)), x -> x.past(0, 0, 0, 0, 0, SAME), 3);
        Scene two = one().then(x -> x.part(0, 2, 0, 0, 0)).past(0, 0, 0, 0, 0, 0, 0, 0);
        due("of another part", two, x -> x.past(1, 0, 0, 0, 0, SAME), 2);
        due("in all", two, x -> x.count(6), 3);
        due("as many as there may be", one().times(498, i -> x -> x.past(0, 11, 0, 0, 0, SAME)),
            x -> x.past(0, 11, 0, 0, 0, SAME), 500);
    }

    private void pastDays() {
        promise(18, "the first DAY is a - 9999, the last one b - 9999 (0 .. 9999 each, a at most b: DAYS -9999 .. 0)");
        Scene s = rich();
        int[][] good = {{0, 0}, {0, 1}, {0, 9999}, {1, 1}, {4999, 5000}, {5000, 5000}, {9998, 9999}, {9999, 9999}};
        for (int[] d : good) {
            int days = 20000 * d[0] + d[1];
            due("days " + days, s, x -> x.past(3, 11, days, 0, 0, SAME), 3);
            Scene told = one().then(x -> x.past(0, 11, days, 0, 0, SAME));
            // The part's own first stay begins on day 0, and was told earlier.
            int at = d[0] == 9999 ? 1 : 0;
            due("first day", told, x -> x.stay(0, at, 1), d[0] - 9999);
            due("last day", told, x -> x.stay(0, at, 2), d[1] - 9999);
        }
        int[] bad = {MIN, -20000, -19999, -1, 10000, 10001, 19999, 20000, 20000 * 5000 + 4999, 20000 * 9999 + 9998,
            20000 * 9999, 20000 * 9999 + 10000, 20000 * 9999 + 19999, 20000 * 10000, 20000 * 10000 + 9999,
            20000 * 10000 + 10000, MAX};
        for (int days : bad) {
            refused("days " + days, s, x -> x.past(3, 11, days, 0, 0, SAME), BAD);
        }
    }

    private void pastUsed() {
        promise(18, "hours, landings: USED at its beginning (0 .. 99999 each)");
        Scene s = rich();
        within("hours", s, v -> x -> x.past(3, 11, 0, v, 0, SAME), 0, 99999, 3, BAD);
        within("landings", s, v -> x -> x.past(3, 11, 0, 0, v, SAME), 0, 99999, 3, BAD);
        Scene most = one().then(x -> x.past(0, 11, 0, 99999, 99998, SAME + 99997));
        due("hours at its beginning", most, x -> x.stay(0, 0, 3), 99999);
        due("hours at its end", most, x -> x.stay(0, 0, 4), 99997);
        due("landings at its beginning", most, x -> x.stay(0, 0, 5), 99998);
        due("landings at its end", most, x -> x.stay(0, 0, 6), 99998);
    }

    private void pastEnds() {
        promise(18, "ends: 100000 times LANDINGS less those at its beginning and 500 (0 .. 999), and HOURS at its end");
        Scene s = rich();
        for (int more : new int[] {0, 1, 499, 500, 501, 998, 999}) {
            for (int hours : new int[] {0, 1, 99998, 99999}) {
                int ends = 100000 * more + hours;
                due("ends " + ends, s, x -> x.past(3, 11, 0, 9, 500, ends), 3);
                Scene told = one().then(x -> x.past(0, 11, 0, 9, 500, ends));
                due("hours at its end", told, x -> x.stay(0, 0, 4), hours);
                due("landings at its end", told, x -> x.stay(0, 0, 6), more);
            }
        }
        for (int ends : new int[] {MIN, -100000, -99999, -1, 100000000, 100000001, 100099999, 100100000, MAX}) {
            refused("ends " + ends, s, x -> x.past(3, 11, 0, 9, 500, ends), BAD);
        }
        // LANDINGS at its end are told too, and must be 0 .. 99999.
        within("landings, one less at the end", s, v -> x -> x.past(3, 11, 0, 0, v, SAME - 100000), 1, 99999, 3, BAD);
        within("landings, one more at the end", s, v -> x -> x.past(3, 11, 0, 0, v, SAME + 100000), 0, 99998, 3, BAD);
        within("landings, 500 less at the end", s, v -> x -> x.past(3, 11, 0, 0, v, 0), 500, 99999, 3, BAD);
        within("landings, 499 more at the end", s, v -> x -> x.past(3, 11, 0, 0, v, 99900000), 0, 99500, 3, BAD);
    }

    private void pastAnswers() {
        promise(18, "BAD, FULL.");
        Scene s = rich();
        for (int part : new int[] {MIN, -1, 5, MAX}) {
            refused("part " + part, s, x -> x.past(part, 11, 0, 0, 0, SAME), BAD);
        }
        due("of one that is gone", s, x -> x.past(4, 11, 0, 0, 0, SAME), 3);
        Scene last = oddStays(499);
        due("the last", last, x -> x.past(1, 11, 0, 0, 0, SAME), 250);
        Scene full = last.then(x -> x.past(1, 11, 0, 0, 0, SAME));
        refused("full", full, x -> x.past(1, 11, 0, 0, 0, SAME), FULL);
        refused("part ahead of full", full, x -> x.past(2, 11, 0, 0, 0, SAME), BAD);
        refused("place ahead of full", full, x -> x.past(1, 1, 0, 0, 0, SAME), BAD);
        refused("days ahead of full", full, x -> x.past(1, 11, 10000, 0, 0, SAME), BAD);
        refused("hours ahead of full", full, x -> x.past(1, 11, 0, 100000, 0, SAME), BAD);
        refused("landings ahead of full", full, x -> x.past(1, 11, 0, 0, -1, SAME), BAD);
        refused("ends ahead of full", full, x -> x.past(1, 11, 0, 0, 0, -1), BAD);
        refused("landings at its end ahead of full", full, x -> x.past(1, 11, 0, 0, 0, 0), BAD);
    }

    private void pastOrder() {
        terms("A STAY's order is that of its first DAY, of one DAY as it was told"
            + " (the PART's own first one when the PART came).");
        Scene s = one().past(0, 0, -5, -5, 1, 1, 0, 0).past(0, 0, -6, 0, 2, 2, 0, 0).past(0, 0, -5, -4, 3, 3, 0, 0)
            .past(0, 0, -4, -4, 4, 4, 0, 0).past(0, 0, 0, 0, 5, 5, 0, 0).then(x -> x.move(0, 10))
            .past(0, 0, 0, 0, 6, 6, 0, 0).past(0, 0, -5, 0, 7, 7, 0, 0);
        int[] hours = {2, 1, 3, 7, 4, 100, 5, 100, 6};
        within("stay", s, v -> x -> x.stay(0, v, 3), 0, 8, v -> hours[v], VOID);
        for (int i = 0; i < hours.length; i++) {
            int at = i;
            due("stay " + i, s, x -> x.stay(0, at, 3), hours[i]);
        }
        due("the one that goes on", s, x -> x.stay(0, 7, 2), VOID);
        due("not the last of that day", s, x -> x.stay(0, 8, 2), 0);
    }
}
