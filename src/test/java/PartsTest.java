/** Promises 9 to 18: part, move, swap, repair, ofPart, left, least, stay, paper, past. */
public final class PartsTest {
    private static final Check c = new Check("PartsTest");
    private static final int BAD = Check.BAD, NOT = Check.NOT, FULL = Check.FULL, VOID = Check.VOID;

    public static void main(String[] args) {
        parts();
        moves();
        fullOfStays();
        fullForSwaps();
        swaps();
        repairs();
        ofParts();
        leftAndLeast();
        leastOfSeveral();
        stays();
        papers();
        pasts();
        pastLandingsAtTheEnd();
        pastsOnTheFirstDay();
        overlaps();
        lessThanBefore();
        twins();
        c.end();
    }

    private static PlanesBack fleet() {
        PlanesBack x = new PlanesBack();
        x.kind(1000, 0, 0, 0);
        x.kind(0, 500, 0, 0);
        x.plane(0);
        x.plane(0);
        x.need(0, 0, 2);
        x.need(0, 1, 1);
        x.need(1, 0, 1);
        return x;
    }

    private static void parts() {
        PlanesBack x = new PlanesBack();
        c.due("9 no kind", x.part(0, 1, 0, 0, 0), BAD);
        x.kind(0, 0, 0, 0);
        c.due("9 kind below", x.part(-1, 1, 0, 0, 0), BAD);
        c.due("9 number below", x.part(0, 0, 0, 0, 0), BAD);
        c.due("9 number above", x.part(0, 100000, 0, 0, 0), BAD);
        c.due("9 hours below", x.part(0, 1, -1, 0, 0), BAD);
        c.due("9 landings above", x.part(0, 1, 0, 100000, 0), BAD);
        c.due("9 days above", x.part(0, 1, 0, 0, 100000), BAD);
        c.due("9 days below", x.part(0, 1, 0, 0, -1), BAD);
        c.due("9 none yet", x.count(6), 0);
        c.due("9 most", x.part(0, 99999, 99999, 99999, 99999), 0);
        c.due("9 in store", x.ofPart(0, 2), 11);
        c.due("9 a stay", x.count(6), 1);
        for (int i = 1; i < 100; i++) {
            c.due("9 part", x.part(0, i, 0, 0, 0), i);
        }
        c.due("9 full", x.part(0, 1, 0, 0, 0), FULL);
        c.due("9 bad ahead of full", x.part(0, 0, 0, 0, 0), BAD);
        c.due("9 a hundred", x.count(2), 100);
    }

    private static void moves() {
        PlanesBack x = fleet();
        x.part(0, 1, 0, 0, 0);
        x.part(0, 2, 0, 0, 0);
        x.part(0, 3, 0, 0, 0);
        c.due("10 no part", x.move(3, 0), BAD);
        c.due("10 place below", x.move(0, -1), BAD);
        c.due("10 no such plane", x.move(0, 2), BAD);
        c.due("10 gone is no place to go", x.move(0, 12), BAD);
        c.due("10 it is there", x.move(0, 11), NOT);
        c.due("10 to a plane", x.move(0, 0), 1);
        c.due("10 place", x.ofPart(0, 2), 0);
        c.due("10 it is there", x.move(0, 0), NOT);
        c.due("10 from plane to plane", x.move(0, 1), 1);
        c.due("10 has as many as it needs", x.move(1, 1), NOT);
        c.due("10 to a shop", x.move(0, 10), 1);
        c.due("10 now there is room", x.move(1, 1), 1);
        c.due("10 stays", x.ofPart(0, 6), 4);
        Check.contract(x, "g 1;", 1, 0, 0);
        x.giveBack(1);
        c.due("10 gone", x.move(1, 11), NOT);
        c.due("10 the plane is returned", x.move(2, 1), NOT);
        c.due("10 bad ahead of not", x.move(1, 12), BAD);
        c.due("10 nothing changed", x.count(6), 7);
    }

    private static void fullOfStays() {
        PlanesBack x = fleet();
        x.part(0, 1, 0, 0, 0);
        for (int i = 0; i < 499; i++) {
            x.move(0, i % 2 == 0 ? 10 : 11);
        }
        c.due("10 500 stays", x.count(6), 500);
        c.due("10 full", x.move(0, 11), FULL);
        c.due("10 not ahead of full", x.move(0, 10), NOT);
        c.due("9 full of stays", x.part(0, 1, 0, 0, 0), FULL);
        c.due("18 full of stays", x.past(0, 11, 0, 0, 0, 50000000), FULL);
        c.due("18 bad ahead of full", x.past(0, 12, 0, 0, 0, 50000000), BAD);
        c.due("18 landings at the end bad ahead of full", x.past(0, 11, 0, 0, 0, 49900000), BAD);
    }

    private static void fullForSwaps() {
        PlanesBack x = fleet();
        x.part(0, 1, 0, 0, 0);
        x.part(0, 2, 0, 0, 0);
        x.move(0, 0);
        for (int i = 0; i < 496; i++) {
            x.move(1, i % 2 == 0 ? 10 : 11);
        }
        c.due("11 499 stays", x.count(6), 499);
        c.due("11 full", x.swap(0, 1), FULL);
        c.due("11 not ahead of full", x.swap(1, 0), NOT);
        c.due("11 nothing changed", x.ofPart(0, 2), 0);
        c.due("10 the last one", x.move(0, 11), 1);
    }

    private static void swaps() {
        PlanesBack x = fleet();
        x.part(0, 1, 0, 0, 0);
        x.part(0, 2, 0, 0, 0);
        x.part(1, 3, 0, 0, 0);
        x.move(0, 1);
        c.due("11 no part", x.swap(0, 3), BAD);
        c.due("11 below", x.swap(-1, 1), BAD);
        c.due("11 the other way round", x.swap(1, 0), NOT);
        c.due("11 another kind", x.swap(0, 2), NOT);
        c.due("11 with itself", x.swap(0, 0), NOT);
        c.due("11 nothing changed", x.count(6), 4);
        x.days(4);
        c.due("11 swap", x.swap(0, 1), 1);
        c.due("11 to the store", x.ofPart(0, 2), 11);
        c.due("11 to the plane", x.ofPart(1, 2), 1);
        c.due("11 the stay ended", x.stay(0, 1, 2), 4);
        c.due("11 a stay began", x.stay(0, 2, 1), 4);
        c.due("11 in store", x.stay(0, 2, 0), 11);
        c.due("11 the other's stay ended", x.stay(1, 0, 2), 4);
        c.due("11 the other's stay began", x.stay(1, 1, 0), 1);
        x.move(0, 10);
        c.due("11 not in store", x.swap(1, 0), NOT);
        c.due("11 in a shop", x.swap(0, 1), NOT);
    }

    private static void repairs() {
        PlanesBack x = fleet();
        x.part(0, 1, 5, 6, 7);
        c.due("12 no part", x.repair(1, 1), BAD);
        c.due("12 none", x.repair(0, 0), BAD);
        c.due("12 above", x.repair(0, 8), BAD);
        c.due("12 in no shop", x.repair(0, 1), NOT);
        c.due("12 bad ahead of not", x.repair(0, 0), BAD);
        x.move(0, 10);
        c.due("12 landings", x.repair(0, 2), 1);
        c.due("12 hours stay", x.ofPart(0, 3), 5);
        c.due("12 landings are 0", x.ofPart(0, 4), 0);
        c.due("12 days stay", x.ofPart(0, 5), 7);
        c.due("12 hours and days", x.repair(0, 5), 1);
        c.due("12 hours are 0", x.ofPart(0, 3), 0);
        c.due("12 days are 0", x.ofPart(0, 5), 0);
        c.due("12 at the stay's beginning", x.stay(0, 1, 3), 5);
        c.due("12 now", x.stay(0, 1, 4), 0);
        c.due("12 it may be", x.ofPart(0, 8), 0);
        x.days(2);
        c.due("12 days grow again", x.ofPart(0, 5), 2);
    }

    private static void ofParts() {
        PlanesBack x = fleet();
        c.due("13 no part", x.ofPart(0, 0), VOID);
        x.part(1, 77, 5, 6, 7);
        int[] atFirst = {1, 77, 11, 5, 6, 7, 1, 0, 0};
        for (int what = 0; what < 9; what++) {
            c.due("13 at first " + what, x.ofPart(0, what), atFirst[what]);
        }
        c.due("13 below", x.ofPart(0, -1), VOID);
        c.due("13 above", x.ofPart(0, 9), VOID);
        x.need(0, 0, 0);
        x.move(0, 0);
        x.fly(0, 20, 3);
        x.days(9);
        int[] then = {1, 77, 0, 25, 9, 16, 2, 1, 0};
        for (int what = 0; what < 9; what++) {
            c.due("13 then " + what, x.ofPart(0, what), then[what]);
        }
        Check.contract(x, "g 1;", 0, 0, 0);
        x.giveBack(0);
        x.days(5);
        int[] last = {1, 77, 12, 25, 9, 16, 2, 2, 0};
        for (int what = 0; what < 9; what++) {
            c.due("13 last " + what, x.ofPart(0, what), last[what]);
        }
        c.due("13 its stay's end", x.stay(0, 1, 2), 9);
        c.due("13 papers may still come", x.paper(0, 1, 1), 0);
        c.due("13 one gap fewer", x.ofPart(0, 7), 1);
    }

    private static void leftAndLeast() {
        PlanesBack x = new PlanesBack();
        x.kind(1000, 99, 0, 0);
        x.kind(0, 0, 0, 0);
        x.kind(7, 7, 7, 0);
        x.kind(7, 7, 7, 0);
        c.due("14 no part", x.left(0, 0, 0), VOID);
        c.due("15 no part", x.least(0, 0), BAD);
        x.part(0, 1, 400, 100, 5);
        x.part(1, 1, 400, 100, 5);
        c.due("14 measure below", x.left(0, -1, 0), VOID);
        c.due("14 measure above", x.left(0, 3, 0), VOID);
        x.part(2, 1, 0, 0, 0);
        c.due("14 measure above, though another kind follows", x.left(2, 3, 0), VOID);
        c.due("14 measure below, though another kind precedes", x.left(2, -1, 0), VOID);
        c.due("14 day below", x.left(0, 0, -1), VOID);
        c.due("14 day above", x.left(0, 0, 10000), VOID);
        c.due("14 hours", x.left(0, 0, 0), 600);
        c.due("14 landings, below 0", x.left(0, 1, 9999), -1);
        c.due("14 no limit", x.left(0, 2, 0), VOID);
        c.due("15 day below", x.least(0, -1), BAD);
        c.due("15 day above", x.least(0, 10000), BAD);
        c.due("15 landings", x.least(0, 0), 1);
        c.due("15 no limit", x.least(1, 0), NOT);
        c.due("15 bad ahead of not", x.least(1, -1), BAD);
        x.move(0, 10);
        x.move(0, 11);
        Check.law(x, "w=11?10:25", 0);
        // 10 hundredths of 99 are 9, 25 of them 24: the rest goes away each time.
        c.due("14 lost by two gaps", x.left(0, 1, 0), 99 - 100 - 9 - 24);
        c.due("14 lost of hours too", x.left(0, 0, 0), 1000 - 400 - 100 - 250);
    }

    private static void leastOfSeveral() {
        PlanesBack x = new PlanesBack();
        x.kind(100, 1000, 10, 0);
        x.part(0, 1, 50, 500, 5);
        c.due("15 of several the first", x.least(0, 0), 0);
        x.days(1);
        c.due("15 days", x.least(0, 1), 2);
        x.kind(99999, 0, 99999, 0);
        x.part(1, 1, 99999, 0, 99999);
        x.days(9);
        // -9 times 10000 divided by 99999 is 0 toward 0, as the hours' is.
        c.due("15 toward 0", x.least(1, 1), 0);
        x.days(1);
        c.due("15 -10 times 10000 divided is -1", x.least(1, 1), 2);
        x.kind(99999, 1000, 0, 0);
        x.part(2, 1, 0, 0, 0);
        Check.law(x, "100", 0);
        for (int i = 0; i < 4; i++) {
            Check.past(x, 2, 11, -1, 0, Check.used(0, 0, 0, 0));
        }
        // -299997 times 10000 is more than an int holds; both measures come to -30000.
        c.due("14 four zero lives", x.left(2, 0, 9999), -299997);
        c.due("15 far below 0", x.least(2, 9999), 0);
    }

    private static void stays() {
        PlanesBack x = fleet();
        c.due("16 no part", x.stay(0, 0, 0), VOID);
        x.part(0, 1, 10, 20, 30);
        x.need(0, 0, 1);
        x.need(0, 1, 0);
        c.due("16 stay below", x.stay(0, -1, 0), VOID);
        c.due("16 stay above", x.stay(0, 1, 0), VOID);
        c.due("16 stay far above", x.stay(0, Integer.MAX_VALUE, 0), VOID);
        c.due("16 what below", x.stay(0, 0, -1), VOID);
        c.due("16 what above", x.stay(0, 0, 8), VOID);
        x.days(3);
        x.move(0, 0);
        x.fly(0, 7, 2);
        x.days(4);
        int[] first = {11, 0, 3, 10, 10, 20, 20, 0};
        int[] second = {0, 3, VOID, 10, 17, 20, 22, 0};
        for (int what = 0; what < 8; what++) {
            c.due("16 first " + what, x.stay(0, 0, what), first[what]);
            c.due("16 second " + what, x.stay(0, 1, what), second[what]);
        }
        x.move(0, 10);
        x.repair(0, 3);
        c.due("16 ended", x.stay(0, 1, 2), 7);
        c.due("16 hours at its end stay", x.stay(0, 1, 4), 17);
        c.due("16 landings at its end stay", x.stay(0, 1, 6), 22);
        c.due("16 the shop's now", x.stay(0, 2, 6), 0);
    }

    private static void papers() {
        PlanesBack x = fleet();
        c.due("17 no part", x.paper(0, 0, 1), BAD);
        x.part(0, 1, 0, 0, 0);
        c.due("17 it goes on", x.paper(0, 0, 1), NOT);
        c.due("17 bad ahead of not", x.paper(0, 0, 2), BAD);
        x.move(0, 0);
        c.due("17 stay above", x.paper(0, 2, 1), BAD);
        c.due("17 stay below", x.paper(0, -1, 1), BAD);
        c.due("17 is below", x.paper(0, 0, -1), BAD);
        c.due("17 a gap", x.ofPart(0, 7), 1);
        c.due("17 comes", x.paper(0, 0, 1), 0);
        c.due("17 no gap", x.ofPart(0, 7), 0);
        c.due("17 there", x.stay(0, 0, 7), 1);
        c.due("17 still there", x.paper(0, 0, 1), 1);
        c.due("17 is no more", x.paper(0, 0, 0), 1);
        c.due("17 not there", x.stay(0, 0, 7), 0);
        c.due("17 a gap again", x.ofPart(0, 7), 1);
    }

    private static void pasts() {
        PlanesBack x = fleet();
        c.due("18 no part", x.past(0, 11, 0, 0, 0, 50000000), BAD);
        x.days(20);
        x.part(0, 1, 100, 200, 0);
        c.due("18 place below", x.past(0, -1, 0, 0, 0, 50000000), BAD);
        c.due("18 no such plane", x.past(0, 2, 0, 0, 0, 50000000), BAD);
        c.due("18 gone", x.past(0, 12, 0, 0, 0, 50000000), BAD);
        c.due("18 days below", x.past(0, 11, -1, 0, 0, 50000000), BAD);
        c.due("18 last day above", x.past(0, 11, 10000, 0, 0, 50000000), BAD);
        c.due("18 first day above", x.past(0, 11, 200009999, 0, 0, 50000000), BAD);
        c.due("18 first day behind the last", x.past(0, 11, 20000 * 5 + 4, 0, 0, 50000000), BAD);
        c.due("18 hours below", x.past(0, 11, 0, -1, 0, 50000000), BAD);
        c.due("18 hours above", x.past(0, 11, 0, 100000, 0, 50000000), BAD);
        c.due("18 landings below", x.past(0, 11, 0, 0, -1, 50000000), BAD);
        c.due("18 landings above", x.past(0, 11, 0, 0, 100000, 50000000), BAD);
        c.due("18 ends below", x.past(0, 11, 0, 0, 0, -1), BAD);
        c.due("18 ends above", x.past(0, 11, 0, 0, 0, 100000000), BAD);
        c.due("18 ends far above", x.past(0, 11, 0, 0, 0, Integer.MAX_VALUE), BAD);
        c.due("18 nothing changed", x.count(6), 1);
        c.due("18 the earliest day, least ends", x.past(0, 1, 0, 99999, 600, 0), 2);
        c.due("18 the latest day, most ends", x.past(0, 10, 199989999, 7, 8, 99999999), 3);
        c.due("18 in between", x.past(0, 11, 20000 * 10 + 30, 1, 2, 50300004), 4);
        int[][] want = {{1, -9999, -9999, 99999, 0, 600, 100, 0}, {11, -9989, -9969, 1, 4, 2, 5, 0},
            {10, 0, 0, 7, 99999, 8, 507, 0}, {11, 20, VOID, 100, 100, 200, 200, 0}};
        for (int i = 0; i < 4; i++) {
            for (int what = 0; what < 8; what++) {
                c.due("18 stay " + i + " " + what, x.stay(0, i, what), want[i][what]);
            }
        }
        c.due("18 gaps", x.ofPart(0, 7), 3);
        c.due("18 papers come for them", x.paper(0, 1, 1), 0);
        c.due("18 gaps then", x.ofPart(0, 7), 2);
        c.due("18 in all", x.count(6), 4);
    }

    private static void pastLandingsAtTheEnd() {
        PlanesBack x = fleet();
        x.part(0, 1, 0, 0, 0);
        c.due("18 500 fewer than 0", x.past(0, 0, 0, 0, 0, 0), BAD);
        c.due("18 one fewer than 0", x.past(0, 11, 0, 0, 0, 49900000), BAD);
        c.due("18 one fewer than 0 in a shop", x.past(0, 10, 0, 0, 499, 0), BAD);
        c.due("18 one above the most", x.past(0, 11, 0, 0, 99999, 50100000), BAD);
        c.due("18 one above the most by 499", x.past(0, 11, 0, 0, 99501, 99900000), BAD);
        c.due("18 nothing changed by landings at the end", x.count(6), 1);
        c.due("18 down to 0", x.past(0, 11, 0, 0, 500, 0), 2);
        c.due("18 at 0", x.past(0, 11, 1, 0, 0, 50000000), 3);
        c.due("18 at the most", x.past(0, 11, 2, 0, 99999, 50000000), 4);
        c.due("18 up to the most", x.past(0, 11, 3, 0, 99500, 99900000), 5);
        int[] want = {0, 0, 99999, 99999};
        for (int i = 0; i < 4; i++) {
            c.due("18 landings at the end of " + i, x.stay(0, i, 6), want[i]);
        }
    }

    private static void pastsOnTheFirstDay() {
        PlanesBack x = fleet();
        x.part(0, 1, 0, 0, 0);
        Check.past(x, 0, 10, 0, 0, Check.used(0, 0, 0, 0));
        x.move(0, 0);
        Check.past(x, 0, 1, 0, 0, Check.used(0, 0, 0, 0));
        Check.past(x, 0, 11, -1, 0, Check.used(0, 0, 0, 0));
        int[] where = {11, 11, 10, 0, 1};
        for (int i = 0; i < 5; i++) {
            c.due("16 of one day as told " + i, x.stay(0, i, 0), where[i]);
        }
        c.due("16 the one that goes on", x.stay(0, 3, 2), VOID);
        c.due("17 the one that goes on", x.paper(0, 3, 1), NOT);
        c.due("17 behind it", x.paper(0, 4, 1), 0);
        x.days(1);
        x.move(0, 11);
        c.due("16 it ended", x.stay(0, 3, 2), 1);
        c.due("16 the new one is the last", x.stay(0, 5, 1), 1);
    }

    private static void overlaps() {
        int[] none = Check.used(0, 0, 0, 0);
        PlanesBack x = fleet();
        x.part(0, 1, 0, 0, 0);
        Check.past(x, 0, 0, -20, -10, none);
        Check.past(x, 0, 1, -10, -5, none);
        c.due("13 a day on which the one ends and the other begins", x.ofPart(0, 8), 0);
        Check.past(x, 0, 1, -7, -2, none);
        c.due("13 in like places", x.ofPart(0, 8), 0);
        Check.past(x, 0, 10, -5, -5, none);
        c.due("13 within a day inside another", x.ofPart(0, 8), 0 + 1);

        x = fleet();
        x.part(0, 1, 0, 0, 0);
        Check.past(x, 0, 0, -5, 0, none);
        Check.past(x, 0, 10, -5, -5, none);
        c.due("13 at another's first day", x.ofPart(0, 8), 0);
        x.days(5);
        c.due("13 up to the day on which it came", x.ofPart(0, 8), 0);
        Check.past(x, 0, 10, -1, 0, none);
        c.due("13 by a day", x.ofPart(0, 8), 1);

        x = fleet();
        x.part(0, 1, 0, 0, 0);
        Check.past(x, 0, 1, 0, 0, none);
        x.days(5);
        c.due("13 a day at the beginning of the one that goes on", x.ofPart(0, 8), 0);
        x.move(0, 0);
        x.move(0, 10);
        x.move(0, 11);
        c.due("13 moves of one day", x.ofPart(0, 8), 0);
    }

    private static void lessThanBefore() {
        PlanesBack x = fleet();
        x.part(0, 1, 100, 100, 0);
        Check.past(x, 0, 11, -20, -10, Check.used(50, 50, 50, 50));
        c.due("13 as it should be", x.ofPart(0, 8), 0);
        Check.past(x, 0, 0, -10, -5, Check.used(50, 100, 50, 101));
        c.due("13 landings at the beginning are less than at the end ahead", x.ofPart(0, 8), 2);
        Check.past(x, 0, 10, -5, -5, Check.used(100, 3, 101, 4));
        c.due("13 a shop between them, and less in the shop", x.ofPart(0, 8), 0);
        x.part(0, 2, 40, 100, 0);
        Check.past(x, 1, 11, -20, -10, Check.used(0, 41, 0, 0));
        c.due("13 hours at the beginning are less", x.ofPart(1, 8), 2);
        x.part(0, 3, 40, 100, 0);
        Check.past(x, 2, 11, -20, -10, Check.used(5, 4, 0, 0));
        c.due("13 hours less at its end", x.ofPart(2, 8), 2);
        x.part(0, 4, 40, 100, 0);
        Check.past(x, 3, 1, -20, -10, Check.used(5, 6, 9, 8));
        c.due("13 landings less at its end", x.ofPart(3, 8), 2);
        Check.past(x, 3, 0, -20, -10, Check.used(5, 6, 9, 8));
        c.due("13 the first of them", x.ofPart(3, 8), 1);
        x.part(0, 5, 0, 0, 0);
        Check.past(x, 4, 11, 0, 0, Check.used(0, 9, 0, 9));
        c.due("13 behind the one that goes on", x.ofPart(4, 8), 0);
        x.move(4, 1);
        c.due("13 the last of that day is not the next", x.ofPart(4, 8), 2);
    }

    private static void twins() {
        PlanesBack x = fleet();
        x.part(0, 1, 0, 0, 0);
        x.part(1, 1, 0, 0, 0);
        c.due("13 of another kind", x.ofPart(0, 8), 0);
        x.part(0, 1, 0, 0, 0);
        c.due("13 another of the same number", x.ofPart(0, 8), 3);
        c.due("13 that one too", x.ofPart(2, 8), 3);
        x.move(2, 1);
        Check.contract(x, "g 1;", 1, 0, 0);
        x.giveBack(1);
        c.due("13 the other is gone", x.ofPart(0, 8), 0);
        c.due("13 the gone one has another", x.ofPart(2, 8), 3);
    }
}
