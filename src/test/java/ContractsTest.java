/** Promises 24 to 29: contract, lacks, costs, giveBack, best, bestCost. */
public final class ContractsTest {
    private static final Check c = new Check("ContractsTest");
    private static final int BAD = Check.BAD, NOT = Check.NOT, BIG = Check.BIG, VOID = Check.VOID;

    public static void main(String[] args) {
        contracts();
        faults();
        shortLives();
        kindsThatAreNotThere();
        gapsOrdersMissing();
        lateDays();
        heldCosts();
        badQuestions();
        asKnown();
        givenBack();
        bestIsNotAsked();
        bestByCost();
        bestOfSeveral();
        bestWithAll();
        bestOfNone();
        bestCountsGapsAsTheyAre();
        c.end();
    }

    private static void contracts() {
        PlanesBack x = new PlanesBack();
        Check.feed(x, "g 1;");
        c.due("24 no plane", x.contract(0, 0, 0), BAD);
        x.plane(0);
        c.due("24 day below", x.contract(0, -1, 0), BAD);
        c.due("24 day above", x.contract(0, 10000, 0), BAD);
        c.due("24 rent below", x.contract(0, 0, -1), BAD);
        c.due("24 rent above", x.contract(0, 0, 100000), BAD);
        c.due("24 the tape stays", x.count(7), 4);
        c.due("24 one line", x.contract(0, 9999, 99999), 1);
        c.due("24 the tape is empty", x.count(7), 0);
        c.due("24 day", x.ofPlane(0, 7), 9999);
        c.due("24 rent", x.ofPlane(0, 8), 99999);
        c.due("24 a fault", Check.contract(x, "g 1;g", 0, 1, 2), -105);
        c.due("24 the tape is empty then", x.count(7), 0);
        c.due("24 the earlier one stays", x.ofPlane(0, 7), 9999);
        c.due("24 with its line", x.lacks(0, 0, 0, 0), 0);
        c.due("24 and no other", x.lacks(0, 1, 0, 0), BAD);
        c.due("24 in its place", Check.contract(x, "o 3;m 4;t 5 6;", 0, 7, 8), 3);
        c.due("24 day then", x.ofPlane(0, 7), 7);
        c.due("24 rent then", x.ofPlane(0, 8), 8);
        c.due("24 most lines", Check.contract(x, "m 1;".repeat(30), 0, 0, 0), 30);
        c.due("24 the last of them", x.lacks(0, 29, 0, 0), 0);
        c.due("24 fewer again", Check.contract(x, "m 1;", 0, 0, 0), 1);
        c.due("24 the others are no more", x.lacks(0, 1, 0, 0), BAD);
        x.giveBack(0);
        Check.feed(x, "g 1;");
        c.due("24 returned", x.contract(0, 0, 0), NOT);
        c.due("24 bad ahead of not", x.contract(0, -1, 0), BAD);
        c.due("24 the tape stays", x.count(7), 4);
    }

    private static void faultDue(String text, int place) {
        PlanesBack x = new PlanesBack();
        x.plane(0);
        c.due("24 fault of " + text, Check.contract(x, text, 0, 0, 0), -100 - place);
        c.due("24 no contract of " + text, x.ofPlane(0, 7), -1);
    }

    private static void faults() {
        faultDue("", 0);
        faultDue(";", 0);
        faultDue("x 1;", 0);
        faultDue("H 1 1 1;", 0);
        faultDue(" g 1;", 0);
        faultDue("g", 1);
        faultDue("g1;", 1);
        faultDue("g;", 1);
        faultDue("g ", 2);
        faultDue("g ;", 2);
        faultDue("g  1;", 2);
        faultDue("g -1;", 2);
        faultDue("g 1", 3);
        faultDue("g 1 ;", 3);
        faultDue("g 1 2;", 3);
        faultDue("g 123456;", 7);
        faultDue("g 1;;", 4);
        faultDue("g 1; g 1;", 4);
        faultDue("g 1;\n", 4);
        faultDue("o 1,", 3);
        faultDue("m 1;m 1", 7);
        faultDue("h 1 2;", 5);
        faultDue("h 1 2 3 4;", 7);
        faultDue("l 1 2 3", 7);
        faultDue("d 1 2 x;", 6);
        faultDue("t 1;", 3);
        faultDue("t 1 2 3;", 5);
        faultDue("t 1 123456;", 9);
        faultDue("m 1;".repeat(29) + "m 12", 120);
    }

    private static PlanesBack threeKinds() {
        PlanesBack x = new PlanesBack();
        x.kind(1000, 0, 300, 0);
        x.kind(0, 500, 0, 0);
        x.kind(10, 10, 10, 0);
        x.plane(0);
        x.need(0, 0, 3);
        x.need(0, 1, 2);
        return x;
    }

    private static void shortLives() {
        PlanesBack x = threeKinds();
        x.part(0, 1, 300, 0, 100);
        x.part(0, 2, 100, 0, 290);
        x.part(1, 3, 0, 700, 0);
        x.part(0, 4, 999, 0, 0);
        x.move(0, 0);
        x.move(1, 0);
        x.move(2, 0);
        c.due("24 lines", Check.contract(x, "h 0 800 7;l 1 10 3;d 0 60 2;h 0 1000 1;", 0, 5, 1), 4);
        c.due("25 hours of one part", x.lacks(0, 0, 0, 0), 100);
        c.due("25 landings left are below 0", x.lacks(0, 1, 0, 0), 210);
        c.due("25 days", x.lacks(0, 2, 0, 0), 50);
        c.due("25 of both parts", x.lacks(0, 3, 0, 0), 400);
        c.due("26 hours", x.costs(0, 0, 0, 0), 700);
        c.due("26 landings", x.costs(0, 1, 0, 0), 630);
        c.due("26 days", x.costs(0, 2, 0, 0), 100);
        c.due("26 all together", x.costs(0, -1, 0, 0), 700 + 630 + 100 + 400);
        c.due("26 judged on another day", x.costs(0, -1, 9999, 0), 1830);
        x.days(1);
        c.due("25 days left are those of today", x.lacks(0, 2, 0, 0), 51);
        x.move(3, 0);
        c.due("25 of three parts", x.lacks(0, 0, 0, 0), 100 + 799);
    }

    private static void kindsThatAreNotThere() {
        PlanesBack x = threeKinds();
        x.part(0, 1, 2000, 2000, 0);
        x.part(1, 2, 2000, 2000, 2000);
        x.move(0, 0);
        x.move(1, 0);
        Check.contract(x, "l 0 99999 9;h 1 99999 9;h 3 99999 9;h 99999 1 9;h 2 5 5;", 0, 0, 0);
        for (int i = 0; i < 5; i++) {
            c.due("25 no limit, no kind or no part " + i, x.lacks(0, i, 0, 0), 0);
        }
        c.due("26 nothing", x.costs(0, -1, 0, 0), 0);
        x.kind(30, 0, 0, 0);
        x.need(0, 3, 1);
        x.part(3, 3, 40, 0, 0);
        x.move(2, 0);
        c.due("25 the kind came later", x.lacks(0, 2, 0, 0), 99999 + 10);
    }

    private static void gapsOrdersMissing() {
        PlanesBack x = threeKinds();
        Check.contract(x, "g 100;o 10;m 1;", 0, 0, 0);
        c.due("25 all are missing", x.lacks(0, 2, 0, 0), 5);
        x.part(0, 1, 0, 0, 0);
        x.part(0, 2, 0, 0, 0);
        x.part(1, 3, 0, 0, 0);
        x.part(0, 4, 0, 0, 0);
        x.move(0, 0);
        x.move(1, 10);
        x.move(1, 0);
        x.move(2, 0);
        x.move(3, 10);
        c.due("25 gaps of the parts on it", x.lacks(0, 0, 0, 0), 4);
        c.due("25 missing", x.lacks(0, 2, 0, 0), 2);
        x.paper(1, 0, 1);
        c.due("25 a paper", x.lacks(0, 0, 0, 0), 3);
        c.due("25 no orders", x.lacks(0, 1, 0, 0), 0);
        x.order(0, 9999);
        x.order(1, 0);
        x.order(1, 0);
        x.order(2, 0);
        c.due("25 orders of kinds that it needs", x.lacks(0, 1, 0, 0), 3);
        x.done(1, 0);
        c.due("25 one is done", x.lacks(0, 1, 0, 0), 2);
        c.due("26 gaps", x.costs(0, 0, 0, 0), 300);
        c.due("26 orders", x.costs(0, 1, 0, 0), 20);
        c.due("26 missing", x.costs(0, 2, 0, 0), 2);
        c.due("26 together", x.costs(0, -1, 0, 0), 322);
    }

    private static void lateDays() {
        PlanesBack x = new PlanesBack();
        x.plane(0);
        Check.contract(x, "t 3 50;t 0 33;t 99999 0;t 2 150;", 0, 10, 101);
        c.due("25 ahead of the day", x.lacks(0, 0, 9, 0), 0);
        c.due("25 on the day", x.lacks(0, 0, 10, 0), 0);
        c.due("25 late", x.lacks(0, 0, 15, 0), 5);
        c.due("26 not late", x.costs(0, 0, 0, 0), 0);
        c.due("26 up to the last at rent", x.costs(0, 0, 13, 0), 303);
        c.due("26 half of 101 is 50, of each", x.costs(0, 0, 15, 0), 303 + 100);
        c.due("26 33 hundredths of 101 are 33, of each", x.costs(0, 1, 15, 0), 165);
        c.due("26 all at rent", x.costs(0, 2, 9999, 0), 9989 * 101);
        c.due("26 more than rent", x.costs(0, 3, 15, 0), 202 + 3 * 151);
        c.due("26 together", x.costs(0, -1, 15, 0), 403 + 165 + 505 + 655);
    }

    private static void heldCosts() {
        PlanesBack x = new PlanesBack();
        x.kind(99999, 0, 0, 0);
        x.plane(0);
        x.need(0, 0, 1);
        x.part(0, 1, 99999, 0, 0);
        x.move(0, 0);
        Check.contract(x, "h 0 20000 99999;h 0 20001 99999;t 0 99999;h 0 10000 99999;", 0, 0, 99999);
        c.due("26 just below", x.costs(0, 0, 0, 0), 1999980000);
        c.due("26 held", x.costs(0, 1, 0, 0), 2000000000);
        c.due("26 a long way late", x.costs(0, 2, 9999, 0), 2000000000);
        c.due("26 twenty days late", x.costs(0, 2, 20, 0), 20 * 99998000);
        c.due("26 together held", x.costs(0, -1, 0, 0), 2000000000);
        c.due("27 held", x.giveBack(0), 2000000000);
        c.due("7 held", x.ofPlane(0, 5), 2000000000);
    }

    private static void badQuestions() {
        PlanesBack x = new PlanesBack();
        c.due("25 no plane", x.lacks(0, 0, 0, 0), BAD);
        c.due("26 no plane", x.costs(0, -1, 0, 0), VOID);
        x.plane(0);
        c.due("25 no contract", x.lacks(0, 0, 0, 0), BAD);
        c.due("26 no contract", x.costs(0, -1, 0, 0), VOID);
        Check.contract(x, "g 1;m 1;", 0, 0, 0);
        c.due("25 plane below", x.lacks(-1, 0, 0, 0), BAD);
        c.due("25 line below", x.lacks(0, -1, 0, 0), BAD);
        c.due("25 line above", x.lacks(0, 2, 0, 0), BAD);
        c.due("25 day below", x.lacks(0, 0, -1, 0), BAD);
        c.due("25 day above", x.lacks(0, 0, 10000, 0), BAD);
        c.due("25 known below", x.lacks(0, 0, 0, -1), BAD);
        c.due("25 known above", x.lacks(0, 0, 0, 10000), BAD);
        c.due("26 line below", x.costs(0, -2, 0, 0), VOID);
        c.due("26 line above", x.costs(0, 2, 0, 0), VOID);
        c.due("26 day below", x.costs(0, 0, -1, 0), VOID);
        c.due("26 day above", x.costs(0, -1, 10000, 0), VOID);
        c.due("26 known below", x.costs(0, 0, 0, -1), VOID);
        c.due("26 known above", x.costs(0, -1, 0, 10000), VOID);
        c.due("26 as it should be", x.costs(0, -1, 9999, 9999), 0);
    }

    private static void asKnown() {
        PlanesBack x = new PlanesBack();
        x.kind(100, 0, 0, 0);
        x.plane(0);
        x.need(0, 0, 1);
        x.part(0, 1, 0, 0, 0);
        x.move(0, 0);
        x.days(2);
        Check.law(x, "30", 0);
        Check.contract(x, "h 0 90 2;", 0, 0, 0);
        c.due("25 before the law", x.lacks(0, 0, 2, 1), 0);
        c.due("25 by the law", x.lacks(0, 0, 2, 2), 20);
        c.due("26 by the law", x.costs(0, 0, 0, 2), 40);
        c.due("26 before the law", x.costs(0, 0, 0, 1), 0);
    }

    private static void givenBack() {
        PlanesBack x = new PlanesBack();
        c.due("27 no plane", x.giveBack(0), BAD);
        x.plane(0);
        c.due("27 no contract", x.giveBack(0), NOT);
        x.kind(100, 0, 0, 0);
        x.need(0, 0, 2);
        x.part(0, 1, 5, 6, 7);
        x.part(0, 2, 0, 0, 0);
        x.move(0, 0);
        Check.contract(x, "g 1000;m 100;t 0 100;", 0, 3, 1);
        x.days(8);
        c.due("27 what it costs", x.giveBack(0), 1105);
        c.due("27 it is", x.giveBack(0), NOT);
        c.due("27 bad", x.giveBack(1), BAD);
        c.due("27 state", x.ofPlane(0, 2), 1);
        c.due("27 parts on it", x.ofPlane(0, 3), 0);
        c.due("27 kept", x.ofPlane(0, 5), 1105);
        c.due("27 its day", x.ofPlane(0, 6), 8);
        c.due("27 its part is gone", x.ofPart(0, 2), 12);
        c.due("27 with its stay's end", x.stay(0, 1, 2), 8);
        c.due("27 hours at its end", x.stay(0, 1, 4), 5);
        c.due("27 no stay more", x.ofPart(0, 6), 2);
        c.due("27 others stay", x.ofPart(1, 2), 11);
        x.days(2);
        c.due("27 gone ones do not age", x.ofPart(0, 5), 15);
        c.due("27 its contract is still judged", x.costs(0, -1, 10, 10), 200 + 7);
        c.due("27 what is kept stays", x.ofPlane(0, 5), 1105);
        c.due("27 one returned", x.count(11), 1);
    }

    private static PlanesBack oneKind(int need) {
        PlanesBack x = new PlanesBack();
        x.kind(100, 0, 0, 0);
        x.plane(0);
        x.need(0, 0, need);
        return x;
    }

    private static void bestIsNotAsked() {
        PlanesBack x = oneKind(0);
        x.kind(0, 0, 0, 0);
        x.part(0, 1, 0, 0, 0);
        c.due("28 no plane", x.best(1, 0), BAD);
        c.due("28 no kind", x.best(0, 2), BAD);
        c.due("28 kind below", x.best(0, -1), BAD);
        c.due("28 no contract", x.best(0, 0), NOT);
        Check.contract(x, "m 1;", 0, 0, 0);
        c.due("28 it needs none", x.best(0, 0), NOT);
        x.need(0, 0, 1);
        c.due("29 before any", x.bestCost(), VOID);
        c.due("28 one", x.best(0, 0), 1);
        c.due("29 one", x.bestCost(), 0);
        for (int i = 1; i < 8; i++) {
            x.part(0, i + 1, 0, 0, 0);
        }
        c.due("28 eight", x.best(0, 0), 1);
        x.part(0, 9, 0, 0, 0);
        c.due("28 nine", x.best(0, 0), BIG);
        c.due("29 the latest that found some", x.bestCost(), 0);
        x.move(8, 10);
        c.due("28 one is in a shop", x.best(0, 0), 1);
        x.move(0, 0);
        x.move(8, 11);
        c.due("28 nine with the one on it", x.best(0, 0), BIG);
        x.giveBack(0);
        c.due("28 not ahead of big", x.best(0, 0), NOT);
        c.due("28 bad ahead of not", x.best(0, 2), BAD);
    }

    private static void bestByCost() {
        PlanesBack x = oneKind(2);
        int[] used = {90, 10, 50, 20, 70};
        for (int i = 0; i < 5; i++) {
            x.part(0, i + 1, used[i], 0, 0);
        }
        x.move(0, 0);
        x.move(4, 0);
        Check.contract(x, "h 0 100 1;m 1000;", 0, 0, 0);
        c.due("26 as it is", x.costs(0, -1, 0, 0), 160);
        c.due("28 the least used", x.best(0, 0), 0b01010);
        c.due("29 their cost", x.bestCost(), 30);
        c.due("28 nothing is moved", x.ofPart(0, 2), 0);
        x.move(1, 10);
        c.due("28 by places in the row, not numbers", x.best(0, 0), 0b0110);
        c.due("29 their cost then", x.bestCost(), 70);
        x.plane(0);
        x.need(1, 0, 1);
        x.move(3, 1);
        c.due("28 one is on another plane", x.best(0, 0), 0b110);
        c.due("29 their cost then", x.bestCost(), 120);
    }

    private static void bestOfSeveral() {
        PlanesBack x = oneKind(2);
        for (int i = 0; i < 5; i++) {
            x.part(0, i + 1, i == 2 ? 5 : 0, 0, 0);
        }
        Check.contract(x, "h 0 90 1;", 0, 0, 0);
        c.due("28 of several the first", x.best(0, 0), 0b00011);
        x.move(3, 0);
        c.due("28 of several with the fewest that are not on it", x.best(0, 0), 0b01001);
        x.move(4, 0);
        c.due("28 those that are on it", x.best(0, 0), 0b11000);
        x.move(3, 11);
        x.move(2, 0);
        c.due("28 a part that lacks nothing is as good", x.best(0, 0), 0b10100);
        Check.contract(x, "h 0 100 1;", 0, 0, 0);
        c.due("28 it costs more now", x.best(0, 0), 0b10001);
    }

    private static void bestWithAll() {
        PlanesBack x = oneKind(3);
        x.part(0, 1, 99, 0, 0);
        x.part(0, 2, 150, 0, 0);
        Check.contract(x, "h 0 10 1;m 7;t 0 100;o 11;", 0, 3, 2);
        x.order(0, 0);
        x.days(5);
        c.due("28 all there are", x.best(0, 0), 3);
        c.due("29 with what is missing, late and not done", x.bestCost(), 9 + 60 + 7 + 4 + 11);
        x.kind(50, 0, 0, 0);
        x.need(0, 1, 1);
        x.part(1, 1, 45, 0, 0);
        x.move(2, 0);
        Check.contract(x, "h 1 10 1;m 7;g 100;", 0, 3, 2);
        c.due("28 beside parts of other kinds", x.best(0, 0), 3);
        c.due("29 with theirs", x.bestCost(), 5 + 7 + 100);
    }

    private static void bestOfNone() {
        PlanesBack x = oneKind(1);
        Check.contract(x, "m 7;", 0, 0, 0);
        c.due("28 there are none", x.best(0, 0), 0);
        c.due("29 none was found", x.bestCost(), VOID);
    }

    private static void bestCountsGapsAsTheyAre() {
        PlanesBack x = oneKind(1);
        x.part(0, 1, 0, 0, 0);
        x.part(0, 2, 0, 0, 0);
        Check.contract(x, "g 5;h 0 100 1;", 0, 0, 0);
        x.move(0, 0);
        c.due("28 the one in store has no gap yet", x.best(0, 0), 2);
        c.due("29 it costs nothing", x.bestCost(), 0);
        Check.past(x, 1, 11, -5, 0, Check.used(0, 0, 0, 0));
        c.due("28 now it has one as well", x.best(0, 0), 1);
        c.due("29 a gap", x.bestCost(), 5);
        Check.law(x, "w=11?10:0", 0);
        c.due("28 both lose by it", x.best(0, 0), 1);
        c.due("29 by the law of today", x.bestCost(), 15);
        x.paper(1, 0, 1);
        c.due("28 the paper came", x.best(0, 0), 2);
        c.due("29 the paper came", x.bestCost(), 0);
    }
}
