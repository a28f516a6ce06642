/** Promises 19 to 23: feed, law, lost, order, done. */
public final class LawsOrdersTest {
    private static final Check c = new Check("LawsOrdersTest");
    private static final int BAD = Check.BAD, NOT = Check.NOT, FULL = Check.FULL;

    public static void main(String[] args) {
        feeds();
        lawsComeAndAreFull();
        faults();
        depths();
        values();
        names();
        gapsAhead();
        inForce();
        losts();
        orders();
        dones();
        c.end();
    }

    private static void feeds() {
        PlanesBack x = new PlanesBack();
        c.due("19 none", x.feed(0, 0), BAD);
        c.due("19 above", x.feed(5, 0), BAD);
        c.due("19 below", x.feed(-1, 0), BAD);
        c.due("19 one of two", x.feed(1, '7' + 256 * 'x'), 1);
        c.due("19 lowest first", x.feed(2, '+' + 256 * '1'), 3);
        c.due("19 bytes", x.count(7), 3);
        c.due("19 a law of 7+1", x.law(0), 0);
        c.due("19 empty", x.count(7), 0);
        for (int i = 1; i < 30; i++) {
            x.feed(4, -1);
        }
        c.due("19 119", x.feed(3, 0), 119);
        c.due("19 full", x.feed(2, 0), FULL);
        c.due("19 bad ahead of full", x.feed(5, 0), BAD);
        c.due("19 nothing changed", x.count(7), 119);
        c.due("19 the last", x.feed(1, 0), 120);
        c.due("19 full", x.feed(1, 0), FULL);
        c.due("20 a byte above 127 is none of a text", x.law(0), -100);
    }

    private static void lawsComeAndAreFull() {
        PlanesBack x = new PlanesBack();
        Check.feed(x, "1");
        c.due("20 day below", x.law(-1), BAD);
        c.due("20 day above", x.law(10000), BAD);
        c.due("20 the tape stays", x.count(7), 1);
        c.due("20 first", x.law(9999), 0);
        c.due("20 the tape is empty", x.count(7), 0);
        c.due("20 a fault", Check.law(x, "1+", 0), -102);
        c.due("20 the tape is empty then", x.count(7), 0);
        for (int i = 1; i < 10; i++) {
            c.due("20 law", Check.law(x, "1", 0), i);
        }
        Check.feed(x, "2");
        c.due("20 full", x.law(0), FULL);
        c.due("20 bad ahead of full", x.law(-1), BAD);
        c.due("20 the tape stays", x.count(7), 1);
        c.due("20 ten", x.count(4), 10);
    }

    private static void faultDue(String text, int place) {
        PlanesBack x = new PlanesBack();
        c.due("20 fault of " + text, Check.law(x, text, 0), -100 - place);
        c.due("20 no law of " + text, x.count(4), 0);
    }

    private static void goodDue(String text) {
        c.due("20 law " + text, Check.law(new PlanesBack(), text, 0), 0);
    }

    private static void faults() {
        faultDue("", 0);
        faultDue(" 1", 0);
        faultDue("1 ", 1);
        faultDue("123456", 5);
        faultDue("1d", 1);
        faultDue("dd", 1);
        faultDue("d1", 1);
        faultDue("x", 0);
        faultDue("D", 0);
        faultDue("+1", 0);
        faultDue("1++1", 2);
        faultDue("1+-", 3);
        faultDue("1*/1", 2);
        faultDue("1<2<3", 3);
        faultDue("1<2=3", 3);
        faultDue("1==2", 2);
        faultDue("(1", 2);
        faultDue("()", 1);
        faultDue("1)", 1);
        faultDue("(1))", 3);
        faultDue("(1:2)", 2);
        faultDue("1?2", 3);
        faultDue("1?2)", 3);
        faultDue("1?2:", 4);
        faultDue("1?2:3:4", 5);
        faultDue("1?:3", 2);
        faultDue("1?(2:3)", 4);
        faultDue("(1?2:3", 6);
        faultDue("1:2", 1);
        faultDue("(1)2", 3);
        faultDue("(1)(2)", 3);
        faultDue("1;", 1);
        goodDue("99999");
        goodDue("00000");
        goodDue("(1<2)<3");
        goodDue("1<2?3>4:5=6");
        goodDue("1?1?2:3:4");
        goodDue("1?2:3?4:5");
        goodDue("-(-d)-(h+l*w/k-n)");
        goodDue("(1?2:3)?4:5");
        String most = "1+1+1+1+1+1+1+1+1+1+1+1+1+1+1+1+1+1+1+1+1+1+1+1+1+1+1+1+1+1";
        goodDue(most + "+" + most);
        faultDue(most + "+" + most + "+", 120);
    }

    private static void depths() {
        goodDue("(".repeat(8) + "1" + ")".repeat(8));
        faultDue("(".repeat(9) + "1" + ")".repeat(9), 8);
        goodDue("-".repeat(8) + "1");
        faultDue("-".repeat(9) + "1", 8);
        goodDue("-(".repeat(4) + "1" + ")".repeat(4) + "-1-1-1-1-1-1-1-1-1");
        faultDue("-(".repeat(4) + "-1", 8);
        goodDue("1?1:".repeat(8) + "1");
        faultDue("1?1:".repeat(8) + "1?1:1", 33);
        goodDue("1?".repeat(8) + "1" + ":1".repeat(8));
        faultDue("1?".repeat(8) + "1?", 17);
        faultDue("1?1:".repeat(8) + "-1", 32);
        faultDue("1?".repeat(7) + "((1", 15);
        goodDue("1?".repeat(7) + "(1)" + ":(1)".repeat(7));
        faultDue("(".repeat(8) + "1?1:1", 9);
        goodDue("(".repeat(8) + "1" + ")".repeat(8) + "?" + "(".repeat(7) + "1" + ")".repeat(7) + ":-------1");
        faultDue("1?2:--------1", 11);
        goodDue("((((((((1))))))))+((((((((1))))))))<--------1");
    }

    /** One gap in store with the law's text: what it gives. */
    private static int worth(String text) {
        PlanesBack x = new PlanesBack();
        x.kind(100, 0, 0, 0);
        x.part(0, 1, 0, 0, 0);
        x.move(0, 10);
        Check.law(x, text, 0);
        return x.lost(0, 0, 0);
    }

    private static void worthDue(String text, int want) {
        c.due("21 worth of " + text, worth(text), want);
    }

    private static void values() {
        worthDue("0", 0);
        worthDue("100", 100);
        worthDue("101", 100);
        worthDue("-1", 0);
        worthDue("99999", 100);
        worthDue("00042", 42);
        worthDue("2+3*4", 14);
        worthDue("(2+3)*4", 20);
        worthDue("20-3-4", 13);
        worthDue("20-(3-4)", 21);
        worthDue("100/7/2", 7);
        worthDue("100/(7/2)", 33);
        worthDue("2*3/4", 1);
        worthDue("50+-7/2", 47);
        worthDue("50+7/-2", 47);
        worthDue("50+(0-7)/2", 47);
        worthDue("5+9/0", 5);
        worthDue("9/(1-1)*7+3", 3);
        worthDue("--5", 5);
        worthDue("-5*-5", 25);
        worthDue("40+(1<2)", 41);
        worthDue("40+(2<2)", 40);
        worthDue("40+(2=2)", 41);
        worthDue("40+(2=3)", 40);
        worthDue("40+(3>2)", 41);
        worthDue("40+(2>2)", 40);
        worthDue("1+1<3", 1);
        worthDue("1?20:30", 20);
        worthDue("0?20:30", 30);
        worthDue("-1?20:30", 20);
        worthDue("2<1?20:1?40:50", 40);
        worthDue("2<1?20:0?40:50", 50);
        worthDue("1?0?20:30:40", 30);
        worthDue("1?1?20:30:40", 20);
        worthDue("0?0?20:30:40", 40);
        worthDue("(0?1:2)+(1?30:40)", 32);
        worthDue("1?2+3:4*5", 5);
        worthDue("0?2+3:4*5", 20);
        worthDue("99999*99999>0", 1);
        // 99999 * 99999 wraps to 1409865409, three times that to -65371069.
        worthDue("99999*99999*3<0?7:8", 7);
        worthDue("99999*99999=14098*10000*10+65409", 1);
        // The least int divided by -1 wraps to itself.
        worthDue("32768*65536<0?6:5", 6);
        worthDue("32768*65536/-1<0?6:5", 6);
        worthDue("-(32768*65536)<0?6:5", 6);
    }

    private static void names() {
        PlanesBack x = new PlanesBack();
        x.kind(0, 0, 0, 0);
        x.kind(0, 0, 0, 0);
        x.plane(0);
        x.plane(0);
        x.need(1, 1, 1);
        x.part(1, 1, 100, 50, 0);
        x.days(2);
        x.move(0, 1);
        x.fly(1, 30, 8);
        x.days(5);
        x.move(0, 11);
        String[] texts = {"d", "h", "l", "w", "k", "n"};
        int[] first = {2, 0, 0, 11, 1, 0}, second = {5, 30, 8, 1, 1, 1};
        for (int i = 0; i < 6; i++) {
            Check.law(x, texts[i], 0);
            c.due("21 " + texts[i] + " of the first", x.lost(0, 0, 7), first[i]);
            c.due("21 " + texts[i] + " of the second", x.lost(0, 1, 7), second[i]);
        }
    }

    private static void gapsAhead() {
        int[] none = Check.used(0, 0, 0, 0);
        PlanesBack x = new PlanesBack();
        x.kind(100, 0, 0, 0);
        x.part(0, 1, 0, 0, 0);
        x.part(0, 2, 0, 0, 0);
        Check.past(x, 0, 11, -9, 0, none);
        Check.past(x, 0, 10, -5, 0, none);
        Check.past(x, 0, 11, -7, -3, none);
        x.move(0, 10);
        x.move(0, 11);
        Check.law(x, "n+10", 0);
        // In order: -9..0, -7..-3, -5..0, 0..0, 0..0: the one up to -3 ends first.
        int[] ahead = {11, 0, 12, 13, 14};
        for (int i = 0; i < 5; i++) {
            c.due("21 gaps ahead " + i, x.lost(0, i, 0), ahead[i]);
        }
        x.paper(0, 1, 1);
        c.due("21 a paper is no gap", x.lost(0, 2, 0), 11);
        x.move(1, 10);
        c.due("21 gaps of that part alone", x.lost(1, 0, 0), 10);
    }

    private static void inForce() {
        PlanesBack x = new PlanesBack();
        x.kind(1000, 0, 0, 0);
        x.part(0, 1, 0, 0, 0);
        x.days(5);
        x.move(0, 10);
        c.due("21 without any", x.lost(0, 0, 5), 0);
        Check.law(x, "10", 5);
        c.due("21 for the day of its end", x.lost(0, 0, 5), 10);
        Check.law(x, "20", 6);
        c.due("21 one for later days is not in force", x.lost(0, 0, 5), 10);
        x.days(1);
        Check.law(x, "30", 0);
        c.due("21 as known the day ahead", x.lost(0, 0, 5), 10);
        c.due("21 as known today", x.lost(0, 0, 6), 30);
        c.due("21 as known later", x.lost(0, 0, 9999), 30);
        c.due("21 as known before any", x.lost(0, 0, 4), 0);
        Check.law(x, "40", 5);
        c.due("21 the one made last of one day", x.lost(0, 0, 6), 40);
        c.due("14 as known", x.left(0, 0, 6), 1000 - 400);
        c.due("14 as known earlier", x.left(0, 0, 5), 1000 - 100);
        Check.past(x, 0, 11, -9, 0, Check.used(0, 0, 0, 0));
        Check.past(x, 0, 11, -9, -1, Check.used(0, 0, 0, 0));
        c.due("21 a past one that ended on day 0", x.lost(0, 0, 9), 30);
        c.due("21 no law is for earlier ends", x.lost(0, 1, 9), 0);
    }

    private static void losts() {
        PlanesBack x = new PlanesBack();
        c.due("21 no part", x.lost(0, 0, 0), BAD);
        x.kind(0, 0, 0, 0);
        x.part(0, 1, 0, 0, 0);
        c.due("21 it goes on", x.lost(0, 0, 0), NOT);
        c.due("21 bad ahead of not", x.lost(0, 0, -1), BAD);
        c.due("21 stay above", x.lost(0, 1, 0), BAD);
        c.due("21 stay below", x.lost(0, -1, 0), BAD);
        c.due("21 day above", x.lost(0, 0, 10000), BAD);
        x.move(0, 10);
        c.due("21 a gap", x.lost(0, 0, 9999), 0);
        x.paper(0, 0, 1);
        c.due("21 a paper", x.lost(0, 0, 0), NOT);
    }

    private static void orders() {
        PlanesBack x = new PlanesBack();
        c.due("22 no kind", x.order(0, 0), BAD);
        x.kind(0, 0, 0, 0);
        c.due("22 kind below", x.order(-1, 0), BAD);
        c.due("22 day below", x.order(0, -1), BAD);
        c.due("22 day above", x.order(0, 10000), BAD);
        for (int i = 0; i < 20; i++) {
            c.due("22 order", x.order(0, i == 0 ? 9999 : 0), i);
        }
        c.due("22 full", x.order(0, 0), FULL);
        c.due("22 bad ahead of full", x.order(0, -1), BAD);
        c.due("22 twenty", x.count(5), 20);
    }

    private static void dones() {
        PlanesBack x = new PlanesBack();
        x.kind(0, 0, 0, 0);
        x.kind(0, 0, 0, 0);
        x.plane(0);
        x.plane(0);
        x.order(0, 0);
        x.order(1, 0);
        x.need(0, 0, 1);
        c.due("23 no order", x.done(2, 0), BAD);
        c.due("23 order below", x.done(-1, 0), BAD);
        c.due("23 no plane", x.done(0, 2), BAD);
        c.due("23 plane below", x.done(0, -1), BAD);
        c.due("23 another kind", x.done(1, 0), NOT);
        c.due("23 another plane", x.done(0, 1), NOT);
        c.due("23 done", x.done(0, 0), 1);
        c.due("23 it is", x.done(0, 0), NOT);
        x.need(0, 0, 0);
        x.need(0, 0, 1);
        c.due("23 it still is", x.done(0, 0), NOT);
        x.need(1, 0, 1);
        c.due("23 of each plane for itself", x.done(0, 1), 1);
    }
}
