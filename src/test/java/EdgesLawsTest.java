import java.io.IOException;

/** Boundary cases of promises 19 to 23, and of the terms that they go by. */
public final class EdgesLawsTest extends Sentences {
    private EdgesLawsTest() throws IOException {
        super("EdgesLawsTest");
    }

    public static void main(String[] args) throws IOException {
        EdgesLawsTest t = new EdgesLawsTest();
        t.feeds();
        t.feedsFull();
        t.feedsLowestFirst();
        t.tapeOf120();
        t.laws();
        t.lawsFull();
        t.lawsWithFault();
        t.lawsEmptyTheTape();
        t.texts();
        t.numbers();
        t.names();
        t.noBlanks();
        t.choices();
        t.comparisons();
        t.sums();
        t.openOnes();
        t.openChoices();
        t.faultsEndTooEarly();
        t.wraps();
        t.divisions();
        t.compared();
        t.chosen();
        t.heldHundredths();
        t.lostOfLimits();
        t.losts();
        t.noLaw();
        t.inForceByEnd();
        t.madeToday();
        t.inForceByDay();
        t.madeLast();
        t.askedOf();
        t.gapsAhead();
        t.orders();
        t.ordersFull();
        t.donesToday();
        t.dones();
        t.end(19, 23);
    }

    private void feeds() {
        promise(19, "n (1 .. 4) bytes come to THE TAPE, the lowest of v first: how many it has.");
        Scene s = rich();
        within("n", s, v -> x -> x.feed(v, -1), 1, 4, v -> 3 + v, BAD);
        within("n with v 0", s, v -> x -> x.feed(v, 0), 1, 4, v -> 3 + v, BAD);
        due("the greatest v", s, x -> x.feed(4, MAX), 7);
        due("the least v", s, x -> x.feed(4, MIN), 7);
    }

    private void feedsFull() {
        promise(19, "BAD, FULL.");
        for (int n = 1; n <= 4; n++) {
            int some = n;
            Scene s = tape(120 - n), more = tape(121 - n);
            due(n + " behind " + (120 - n), s, x -> x.feed(some, '1'), 120);
            refused(n + " behind " + (121 - n), more, x -> x.feed(some, '1'), FULL);
        }
        Scene full = tape(120);
        refused("one behind 120", full, x -> x.feed(1, '1'), FULL);
        refused("none ahead of full", full, x -> x.feed(0, '1'), BAD);
        refused("five ahead of full", full, x -> x.feed(5, '1'), BAD);
        refused("far below ahead of full", full, x -> x.feed(MIN, '1'), BAD);
    }

    /** So many bytes on the tape, ahead of which a part has a gap. */
    private static Scene tape(int bytes) {
        String most = "1+".repeat(60);
        return gap().feed(most.substring(0, bytes));
    }

    /** A part of kind 0 was in store for three days, and is in a shop; no law yet. */
    private static Scene gap() {
        return start().then(x -> x.kind(100, 99, 199, 0), x -> x.plane(0), x -> x.part(0, 1, 0, 0, 0))
            .then(x -> x.days(3), x -> x.move(0, 10));
    }

    private void feedsLowestFirst() {
        promise(19, "the lowest of v first");
        int v = '7' | '+' << 8 | '1' << 16 | '2' << 24;
        int[] lost = {7, -1, 8, 19};
        for (int n = 1; n <= 4; n++) {
            int some = n;
            Scene s = gap().then(x -> x.feed(some, v), x -> x.law(0));
            due(n + " bytes", s, x -> x.lost(0, 0, 3), n == 2 ? 0 : lost[n - 1]);
            due(n + " bytes as a law", gap().then(x -> x.feed(some, v)), x -> x.law(0), n == 2 ? -102 : 0);
        }
        due("a byte of 255", gap().then(x -> x.feed(4, 255 << 24 | '1' << 16 | '+' << 8 | '1')), x -> x.law(0), -103);
        due("a byte of 0", gap().then(x -> x.feed(2, '1')), x -> x.law(0), -101);
        due("a byte of 128 and '1'", gap().then(x -> x.feed(1, 128 + '1')), x -> x.law(0), -100);
    }

    private void tapeOf120() {
        terms("TEXT: THE TAPE (at most 120 bytes)");
        String longest = "1+".repeat(59) + "12";
        due("120 bytes", gap().feed(longest), x -> x.law(0), 0);
        due("worth of 120 bytes", gap().law(longest, 0), x -> x.lost(0, 0, 3), 71);
        due("119 bytes", gap().feed(longest.substring(0, 119)), x -> x.law(0), 0);
        due("120 bytes that end too early", gap().feed("1+".repeat(60)), x -> x.law(0), -220);
        due("a fault in the last", gap().feed("1+".repeat(59) + "1x"), x -> x.law(0), -219);
        Scene again = gap().law("1+".repeat(60), 0).law(longest, 0);
        due("120 bytes behind 120 with a fault", again, x -> x.lost(0, 0, 3), 71);
        // Each byte of this one is a sign of its own.
        due("120 signs", gap().law("1+".repeat(59) + "-1", 0), x -> x.lost(0, 0, 3), 58);
        due("120 signs with a choice", gap().law("0?1:" + "1+".repeat(57) + "-1", 0), x -> x.lost(0, 0, 3), 56);
        Scene ten = gap();
        for (int i = 0; i < 10; i++) {
            ten = ten.law("1+".repeat(59) + (10 + i), 0);
        }
        due("120 bytes ten times", ten, x -> x.lost(0, 0, 3), 78);
        due("bytes of 120", gap().feed(longest), x -> x.count(7), 120);
        refused("the 121st does not come", gap().feed(longest), x -> x.feed(1, '0'), FULL);
    }

    private void laws() {
        promise(20, "BAD (day 0 .. 9999), FULL (THE TAPE stays).");
        Scene s = rich().then(x -> x.feed(1, '3'));
        within("day", s, v -> x -> x.law(v), 0, 9999, 2, BAD);
        refused("bad, the tape has a fault", rich(), x -> x.law(-1), BAD);
        refused("bad, the tape is empty", gap(), x -> x.law(10000), BAD);
        due("the tape stays", s.then(x -> x.law(10000)), x -> x.count(7), 4);
    }

    private void lawsFull() {
        promise(20, "its number (0 .. 9)");
        Scene nine = gap();
        for (int i = 0; i < 9; i++) {
            int number = i;
            nine = nine.feed("" + i);
            due("number " + i, nine, x -> x.law(0), number);
            nine = nine.then(x -> x.law(0));
        }
        Scene ten = nine.law("9", 0);
        due("the tenth", nine.feed("9"), x -> x.law(0), 9);
        due("ten", ten, x -> x.count(4), 10);
        refused("an eleventh", ten.feed("5"), x -> x.law(0), FULL);
        refused("an eleventh with a fault", ten.feed("5+"), x -> x.law(0), FULL);
        refused("an eleventh of nothing", ten, x -> x.law(0), FULL);
        refused("bad ahead of full", ten.feed("5"), x -> x.law(-1), BAD);
        refused("bad above ahead of full", ten.feed("5"), x -> x.law(10000), BAD);
        due("the tape stays", ten.feed("5+1").then(x -> x.law(0)), x -> x.count(7), 3);
        due("the tenth is in force", ten, x -> x.lost(0, 0, 3), 9);
    }

    private void lawsWithFault() {
        promise(20, "-100 less its FAULT");
        Scene s = gap().law("7", 0);
        due("fault 0", s.feed("x"), x -> x.law(0), -100);
        due("fault 1", s.feed("1x"), x -> x.law(0), -101);
        due("no law more", s.feed("1x").then(x -> x.law(0)), x -> x.count(4), 1);
        due("the earlier one is in force", s.feed("99x").then(x -> x.law(0)), x -> x.lost(0, 0, 3), 7);
        due("the next has its number", s.feed("99x").then(x -> x.law(0)).feed("8"), x -> x.law(0), 1);
        due("and is in force", s.feed("99x").then(x -> x.law(0)).law("8", 0), x -> x.lost(0, 0, 3), 8);
        due("an empty tape", s, x -> x.law(0), -100);
    }

    private void lawsEmptyTheTape() {
        promise(20, "THE TAPE is empty then.");
        due("of a law", gap().law("1+1", 0), x -> x.count(7), 0);
        due("of a fault", gap().law("1+", 0), x -> x.count(7), 0);
        due("bytes from the first on", gap().law("1+", 0).feed("2"), x -> x.count(7), 1);
        due("the next text alone", gap().law("1+", 0).feed("2"), x -> x.law(0), 0);
        due("worth of the next text alone", gap().law("1+", 0).law("2", 0), x -> x.lost(0, 0, 3), 2);
        due("behind a law", gap().law("1", 0).law("2", 0), x -> x.lost(0, 0, 3), 2);
    }

    private void fault(String text, int place) {
        due("fault of " + text, gap().feed(text), x -> x.law(0), -100 - place);
    }

    private void good(String text, int worth) {
        due("law " + text, gap().feed(text), x -> x.law(0), 0);
        due("worth of " + text, gap().law(text, 0), x -> x.lost(0, 0, 3), worth);
    }

    private void texts() {
        terms("FAULT: the place (from 0) of the first byte with which no TEXT goes on");
        fault("x", 0);
        fault(":", 0);
        fault("?", 0);
        fault(")", 0);
        fault("+", 0);
        fault("*", 0);
        fault("/", 0);
        fault("<", 0);
        fault("=", 0);
        fault(">", 0);
        fault("1(", 1);
        fault("1d", 1);
        fault("d1", 1);
        fault("1)", 1);
        fault("1:", 1);
        fault("1+)", 2);
        fault("(1+2))", 5);
        fault("(1(", 2);
        fault("(1:", 2);
        fault("1-*2", 2);
        fault("12345d6x", 5);
        good("(1+2)", 3);
    }

    private void numbers() {
        terms("O = a number (1 to 5 digits), a NAME, - O, ( E ).");
        fault("1+", 2);
        good("1+4", 5);
        good("0", 0);
        good("9", 9);
        good("10", 10);
        good("00099", 99);
        good("99999", 100);
        good("99999-99998", 1);
        good("12345-12344", 1);
        fault("000000", 5);
        fault("123456", 5);
        fault("1+123456", 7);
        fault("(123456)", 6);
        fault("-123456", 6);
        // The signs beside the digits, '/' and ':', are none.
        fault("1+/", 2);
        fault("1+:", 2);
    }

    private void names() {
        terms("NAMES: d DAYS of the STAY, h its HOURS, l its LANDINGS (at its end less at its beginning),"
            + " w where (0 .. 11), k KIND, n how many GAPS");
        good("d", 3);
        good("w", 11);
        good("h", 0);
        for (int kind : new int[] {0, 1, 9}) {
            Scene of = start().times(10, i -> x -> x.kind(0, 0, 0, 0))
                .then(x -> x.part(kind, 1, 0, 0, 0), x -> x.move(0, 10)).law("k", 0);
            due("kind " + kind, of, x -> x.lost(0, 0, 0), kind);
        }
        String names = "dhlwkn";
        for (char sign = 33; sign < 127; sign++) {
            String text = "" + sign;
            boolean is = names.indexOf(sign) >= 0 || sign >= '0' && sign <= '9';
            boolean opens = sign == '-' || sign == '(';
            due("sign " + text, gap().feed(text), x -> x.law(0), is ? 0 : opens ? -101 : -100);
        }
        Scene s = gap().past(0, 11, -9999, 0, 90, 10, 90, 20).past(0, 0, -7, -7, 10, 13, 20, 25);
        String[] texts = {"d", "h", "l", "w", "k", "n", "h+99", "l+99", "-h", "-l"};
        int[] first = {100, 0, 0, 11, 0, 1, 19, 29, 80, 70}, second = {0, 3, 5, 0, 0, 0, 100, 100, 0, 0};
        for (int i = 0; i < texts.length; i++) {
            // A law for gaps that end on day 0 or later is not for the one that ended on day -7.
            Scene by = s.law(texts[i], 0);
            due(texts[i] + " of 9999 days", by, x -> x.lost(0, 0, 3), first[i]);
            due(texts[i] + " of one that ended too early", by, x -> x.lost(0, 1, 3), 0);
            Scene on = start().then(x -> x.kind(0, 0, 0, 0), x -> x.plane(0), x -> x.part(0, 1, 0, 0, 0))
                .past(0, 0, 0, 0, 10, 13, 20, 25).law(texts[i], 0);
            due(texts[i] + " of a day", on, x -> x.lost(0, 1, 0), second[i]);
        }
    }

    private void noBlanks() {
        terms("No blanks.");
        fault(" 1", 0);
        fault("1 ", 1);
        fault("1 +2", 1);
        fault("1+ 2", 2);
        fault("( 1)", 1);
        fault("1\n", 1);
        fault("1\t", 1);
    }

    private void choices() {
        terms("E = C [ ? E : E ].");
        good("1?2:3", 2);
        fault("1?2", 3);
        fault("1?", 2);
        fault("1?:", 2);
        fault("1?2:", 4);
        fault("1?2:3:4", 5);
        fault("1?2:3?", 6);
        good("1?2:3?4:5", 2);
        good("0?2:3?4:5", 4);
        good("1?0?2:3:4", 3);
        fault("1?0?2:3", 7);
        fault("1?2?3:4", 7);
    }

    private void comparisons() {
        terms("C = S [ < S, = S, > S ].");
        good("1<2", 1);
        fault("1<", 2);
        fault("1<2<3", 3);
        fault("1<2=3", 3);
        fault("1=2>3", 3);
        fault("1<=2", 2);
        fault("1==2", 2);
        fault("1><2", 2);
        good("(1<2)<3", 1);
        good("1<(2<3)", 0);
        good("1+1<1+2", 1);
    }

    private void sums() {
        terms("S = P { + P, - P }. P = O { * O, / O }.");
        good("1", 1);
        good("1+2-3+4-2", 2);
        good("64/4/4/2*9/3", 6);
        good("9-2*3", 3);
        good("(9-2)*3", 21);
        good("9-2-3", 4);
        good("9-(2-3)", 10);
        good("9--3", 12);
        good("9+-3", 6);
        good("9*-3+30", 3);
        good("9/-3+30", 27);
        fault("9++3", 2);
        fault("9-+3", 2);
        fault("9-*3", 2);
        fault("9**3", 2);
        fault("9//3", 2);
        fault("9*/3", 2);
        fault("9-", 2);
        fault("9*", 2);
    }

    private void openOnes() {
        terms("At most 8 of ( - ? are open within one another");
        for (int n = 7; n <= 9; n++) {
            int open = n;
            String round = "(".repeat(n) + "1" + ")".repeat(n), less = "-".repeat(n) + "1";
            due(n + " of (", gap().feed(round), x -> x.law(0), open > 8 ? -108 : 0);
            due(n + " of -", gap().feed(less), x -> x.law(0), open > 8 ? -108 : 0);
            String both = "-(".repeat(4).substring(8 - Math.min(n, 8)) + "-".repeat(n - Math.min(n, 8)) + "1))))";
            due(n + " of both", gap().feed(both), x -> x.law(0), open > 8 ? -108 : 0);
        }
        good("-".repeat(7) + "1+9", 8);
        good("-".repeat(8) + "1", 1);
        // Closed ones count no more.
        good("((((((((1))))))))+((((((((1))))))))", 2);
        good("--------1+--------1", 2);
        good("(--1)+(((((((1)))))))", 2);
        fault("-((((((((", 8);
        fault("((((((((-", 8);
        fault("(".repeat(7) + "--", 8);
    }

    private void openChoices() {
        terms("(a ? up to the end of the E behind its : )");
        for (int n = 7; n <= 9; n++) {
            int open = n;
            String behind = "0?0:".repeat(n) + "5", within = "1?".repeat(n) + "5" + ":0".repeat(n);
            due(n + " of ? one behind the other", gap().feed(behind), x -> x.law(0), open > 8 ? -133 : 0);
            due(n + " of ? within one another", gap().feed(within), x -> x.law(0), open > 8 ? -117 : 0);
        }
        good("0?0:".repeat(8) + "5", 5);
        good("1?".repeat(8) + "5" + ":0".repeat(8), 5);
        // What stands ahead of a ? is not within it.
        good("((((((((1))))))))?(((((((1))))))):2", 1);
        fault("1?((((((((", 9);
        fault("1?2:((((((((", 11);
        good("1?(((((((6))))))):0", 6);
        good("0?6:-------7+9", 2);
        fault("0?6:--------7", 11);
        fault("((((((((1?", 9);
        good("(((((((1?6:7)))))))", 6);
        // Behind the end of a bracket its ? is open no more.
        good("(1?1:1)?(1?2:3):(0?4:5)", 2);
    }

    private void faultsEndTooEarly() {
        terms("the length, if it ends too early.");
        fault("", 0);
        fault("-", 1);
        fault("(", 1);
        fault("(1", 2);
        fault("1+", 2);
        fault("1*", 2);
        fault("1<", 2);
        fault("1?", 2);
        fault("1?1", 3);
        fault("1?1:", 4);
        fault("((((((((", 8);
        fault("(".repeat(8) + "1" + ")".repeat(7), 16);
    }

    private void wraps() {
        terms("Ints that wrap");
        // 32767 * 65536 + 65535 is the greatest int.
        String most = "32767*65536+65535";
        good(most + ">0", 1);
        good(most + "+1<0", 1);
        good(most + "+1=-32768*65536", 1);
        good("-32768*65536-1=" + most, 1);
        good("65536*65536", 0);
        good("65536*65536+7", 7);
        good("65535*65537+1", 0);
        good("65535*65537=-1", 1);
        good("46341*46341<0", 1);
        good("46340*46340>0", 1);
        good("-(32768*65536)<0", 1);
        good("-(32768*65536)=32768*65536", 1);
        good("0-32768*65536<0", 1);
    }

    private void divisions() {
        terms("/ toward 0, by 0 it gives 0");
        good("7/2", 3);
        good("6/2", 3);
        good("5/2", 2);
        good("9+-7/2", 6);
        good("9+7/-2", 6);
        good("9+(0-7)/2", 6);
        good("9+-7/-2", 12);
        good("9+-1/2", 9);
        good("1/1", 1);
        good("9/0", 0);
        good("9/0+5", 5);
        good("0/0+5", 5);
        good("9/(1-1)+5", 5);
        good("9/-0+5", 5);
        good("9/h+5", 5);
        good("9/-1+10", 1);
        good("32768*65536/-1<0", 1);
        good("32768*65536/-1=32768*65536", 1);
        good("32768*65536/1=32768*65536", 1);
    }

    private void compared() {
        terms("< = > give 1, 0");
        String[] signs = {"<", "=", ">"};
        for (int a = 4; a <= 6; a++) {
            int[] holds = {a < 5 ? 1 : 0, a == 5 ? 1 : 0, a > 5 ? 1 : 0};
            for (int i = 0; i < 3; i++) {
                good("40+(" + a + signs[i] + "5)", 40 + holds[i]);
                good("40+(-" + a + signs[i] + "-5)", 40 + holds[holds.length - 1 - i]);
            }
        }
        good("-1<0", 1);
        good("0<-1", 0);
        good("32768*65536<32767*65536", 1);
        good("32767*65536>32768*65536", 1);
    }

    private void chosen() {
        terms("of ? just the one is worked out that its C (not 0: the first) says");
        good("0?20:30", 30);
        good("1?20:30", 20);
        good("-1?20:30", 20);
        good("2?20:30", 20);
        good("65536*65536?20:30", 30);
        good("32768*65536?20:30", 20);
        good("0?1/0:30", 30);
        good("1?20:1/0", 20);
        good("(0?20:30)+(1?4:5)", 34);
    }

    private void heldHundredths() {
        terms("It gives hundredths (held within 0 .. 100)");
        good("-1", 0);
        good("0", 0);
        good("1", 1);
        good("99", 99);
        good("100", 100);
        good("101", 100);
        good("99999*20000", 100);
        good("-99999*20000", 0);
        good("32768*65536", 0);
        good("32768*65536-1", 100);
    }

    private void lostOfLimits() {
        terms("so much of each LIMIT is lost by that GAP (the rest away); 100: ZERO LIFE.");
        int[] limits = {100, 99, 199};
        for (int hundredths : new int[] {0, 1, 50, 51, 99, 100}) {
            for (int measure = 0; measure < 3; measure++) {
                int m = measure, days = measure == 2 ? 3 : 0, away = limits[m] * hundredths / 100;
                due(hundredths + " of " + limits[m], gap().law("" + hundredths, 0), x -> x.left(0, m, 3),
                    limits[m] - days - away);
            }
        }
        due("none of 99", gap().law("1", 0), x -> x.left(0, 1, 3), 99);
        due("one of 199", gap().law("1", 0), x -> x.left(0, 2, 3), 195);
        due("zero life of 199", gap().law("100", 0), x -> x.left(0, 2, 3), -3);
        Scene two = gap().then(x -> x.move(0, 11)).law("51", 0);
        due("the rest away of each of two", two, x -> x.left(0, 1, 3), -1);
        Scene most = start().then(x -> x.kind(99999, 0, 0, 0), x -> x.part(0, 1, 0, 0, 0), x -> x.move(0, 10));
        due("99 of 99999", most.law("99", 0), x -> x.left(0, 0, 0), 1000);
        due("100 of 99999", most.law("100", 0), x -> x.left(0, 0, 0), 0);
    }

    private void losts() {
        promise(21, "Hundredths lost by STAY i AS KNOWN on DAY k; NOT: it is no GAP. BAD.");
        Scene s = rich();
        within("day", s, v -> x -> x.lost(0, 0, v), 0, 9999, v -> v < 3 ? 0 : 15, BAD);
        within("stay", s, v -> x -> x.lost(0, v, 4), 0, 2, v -> v == 0 ? 15 : v == 1 ? 10 : NOT, BAD);
        for (int part : new int[] {MIN, -1, 5, MAX}) {
            refused("part " + part, s, x -> x.lost(part, 0, 0), BAD);
        }
        refused("it goes on", s, x -> x.lost(0, 2, 4), NOT);
        refused("it has a paper", s, x -> x.lost(2, 0, 4), NOT);
        refused("it goes on, no such day", s, x -> x.lost(0, 2, -1), BAD);
        refused("it has a paper, no such day", s, x -> x.lost(2, 0, 10000), BAD);
        due("the paper is no more", s.then(x -> x.paper(2, 0, 0)), x -> x.lost(2, 0, 4), 10);
        due("the last of one that is gone", s, x -> x.lost(4, 1, 4), 20);
    }

    private void noLaw() {
        terms("Without any it gives 0.");
        due("no law at all", gap(), x -> x.lost(0, 0, 9999), 0);
        due("left without any", gap(), x -> x.left(0, 0, 9999), 100);
        due("none for its end", gap().law("50", 4), x -> x.lost(0, 0, 9999), 0);
        due("none as known ahead of it", gap().law("50", 0), x -> x.lost(0, 0, 2), 0);
    }

    private void inForceByEnd() {
        terms("for the DAY of its end or an earlier one");
        for (int from : new int[] {0, 2, 3, 4, 9999}) {
            due("a law from day " + from, gap().law("50", from), x -> x.lost(0, 0, 3), from <= 3 ? 50 : 0);
            due("left by a law from day " + from, gap().law("50", from), x -> x.left(0, 0, 3), from <= 3 ? 50 : 100);
        }
        Scene s = gap().past(0, 11, -9, 0, 0, 0, 0, 0).past(0, 11, -9, -1, 0, 0, 0, 0).law("50", 0);
        due("a past one that ended on day 0", s, x -> x.lost(0, 0, 3), 50);
        due("a past one that ended on day -1", s, x -> x.lost(0, 1, 3), 0);
        due("a past one that ended on day 0, by a law from day 1", gap().past(0, 11, -9, 0, 0, 0, 0, 0).law("50", 1),
            x -> x.lost(0, 0, 3), 0);
    }

    private void madeToday() {
        promise(20, "THE TAPE becomes a GAP LAW for GAPS that end on a DAY or behind it, made TODAY");
        // The part's stays ended on days 3, 4 and 5; the law is made on day 6.
        Scene s = gap().then(x -> x.days(1), x -> x.move(0, 11), x -> x.days(1), x -> x.move(0, 10), x -> x.days(1));
        for (int from : new int[] {0, 3, 4, 5, 6, 9999}) {
            Scene by = s.law("7", from);
            for (int i = 0; i < 3; i++) {
                int stay = i, end = 3 + i;
                due("from " + from + " for the end on " + end, by, x -> x.lost(0, stay, 6), from <= end ? 7 : 0);
                due("from " + from + " a day ahead of the law", by, x -> x.lost(0, stay, 5), 0);
            }
        }
    }

    private void inForceByDay() {
        terms("of those made on DAY k or ahead");
        Scene s = gap().then(x -> x.days(5)).law("50", 0);
        int[] days = {0, 7, 8, 9, 9999};
        for (int k : days) {
            due("as known on " + k, s, x -> x.lost(0, 0, k), k < 8 ? 0 : 50);
            due("left as known on " + k, s, x -> x.left(0, 0, k), k < 8 ? 100 : 50);
            due("grounded as known on " + k, s, x -> x.grounded(0, k), 0);
        }
    }

    private void madeLast() {
        terms("the one made last.");
        Scene s = gap().law("10", 3).law("20", 2).law("30", 4).then(x -> x.days(1)).law("40", 3).law("50", 5);
        due("as known on the first day of both", s, x -> x.lost(0, 0, 3), 20);
        due("as known on the next", s, x -> x.lost(0, 0, 4), 40);
        due("by the one for the latest days, though an earlier one was made later", gap().law("10", 3).law("20", 0),
            x -> x.lost(0, 0, 3), 20);
        due("as known ahead of any", s, x -> x.lost(0, 0, 2), 0);
    }

    private void askedOf() {
        terms("It is asked of each STAY that has ended and has no PAPER. (Also of PAST ones.)");
        Scene s = start().then(x -> x.kind(100, 0, 0, 0), x -> x.part(0, 1, 0, 0, 0)).law("7", 0);
        due("the one that goes on", s, x -> x.left(0, 0, 0), 100);
        due("it ended", s.then(x -> x.move(0, 10)), x -> x.left(0, 0, 0), 93);
        due("two ended", s.then(x -> x.move(0, 10), x -> x.move(0, 11)), x -> x.left(0, 0, 0), 86);
        due("a paper for one", s.then(x -> x.move(0, 10), x -> x.move(0, 11), x -> x.paper(0, 1, 1)),
            x -> x.left(0, 0, 0), 93);
        due("a past one", s.past(0, 11, -1, 0, 0, 0, 0, 0), x -> x.left(0, 0, 0), 93);
        due("a past one with a paper", s.past(0, 11, -1, 0, 0, 0, 0, 0).then(x -> x.paper(0, 0, 1)),
            x -> x.left(0, 0, 0), 100);
    }

    private void gapsAhead() {
        terms("n how many GAPS of the PART end ahead of it, or as it and were earlier in order.");
        Scene s = start().then(x -> x.kind(100, 0, 0, 0), x -> x.part(0, 1, 0, 0, 0), x -> x.part(0, 2, 0, 0, 0))
            .past(0, 11, -3, 0, 0, 0, 0, 0).past(0, 11, -5, 0, 0, 0, 0, 0).past(0, 11, -3, 0, 0, 0, 0, 0)
            .then(x -> x.move(0, 10), x -> x.move(1, 10), x -> x.days(1), x -> x.move(0, 11));
        // In order: -5 .. 0, -3 .. 0, -3 .. 0 (told later), 0 .. 0, 0 .. 1, and the one that goes on.
        Scene by = s.law("n+40", 0);
        int[] ahead = {40, 41, 42, 43, 44};
        within("stay", by, v -> x -> x.lost(0, v, 1), 0, 5, v -> v < 5 ? ahead[v] : NOT, BAD);
        for (int i = 0; i < 5; i++) {
            int at = i;
            due("stay " + i, by, x -> x.lost(0, at, 1), ahead[i]);
        }
        due("a paper is no gap", by.then(x -> x.paper(0, 1, 1)), x -> x.lost(0, 2, 1), 41);
        due("of that part alone", by, x -> x.lost(1, 0, 1), 40);
        Scene early = s.past(0, 11, -2, -1, 0, 0, 0, 0).law("n+40", 0);
        due("one that began later and ended earlier", early, x -> x.lost(0, 0, 1), 41);
        due("one that began later and ended as it", early, x -> x.lost(0, 1, 1), 42);
    }

    private void orders() {
        promise(22, "An ORDER: its number. BAD (day 0 .. 9999), FULL.");
        Scene s = rich();
        within("day", s, v -> x -> x.order(0, v), 0, 9999, 2, BAD);
        within("kind", s, v -> x -> x.order(v, 0), 0, 2, 2, BAD);
        refused("no such kind, no such day", s, x -> x.order(3, 10000), BAD);
    }

    private void ordersFull() {
        terms("ORDERS 0 .. 19: of a KIND, up to a DAY");
        Scene s = rich().times(17, i -> x -> x.order(i % 3, i));
        due("the twentieth", s, x -> x.order(0, 0), 19);
        Scene full = s.then(x -> x.order(0, 0));
        refused("one more", full, x -> x.order(0, 0), FULL);
        refused("bad day ahead of full", full, x -> x.order(0, -1), BAD);
        refused("bad kind ahead of full", full, x -> x.order(3, 0), BAD);
        within("order", full, v -> x -> x.done(v, 0), 0, 19, v -> v == 1 ? NOT : 1, BAD);
    }

    private void donesToday() {
        promise(23, "An ORDER is DONE for a PLANE TODAY: 1.");
        Scene s = start().then(x -> x.kind(0, 0, 0, 0), x -> x.plane(0), x -> x.need(0, 0, 1))
            .then(x -> x.part(0, 1, 0, 0, 0), x -> x.move(0, 0), x -> x.order(0, 2));
        for (int day = 1; day <= 3; day++) {
            int n = day;
            Scene on = s.then(x -> x.days(n));
            due("on day " + n, on, x -> x.done(0, 0), 1);
            due("not done on day " + n, on, x -> x.grounded(0, n), n > 2 ? 3 : 0);
            due("done on day " + n, on.then(x -> x.done(0, 0)), x -> x.grounded(0, n), 0);
            due("done on day " + n + ", later", on.then(x -> x.done(0, 0), x -> x.days(9)), x -> x.grounded(0, n), 0);
        }
    }

    private void dones() {
        promise(23, "BAD; NOT: it is, or it does not need that KIND.");
        Scene s = rich();
        within("order", s, v -> x -> x.done(v, 0), 0, 1, v -> v == 0 ? 1 : NOT, BAD);
        within("plane", s, v -> x -> x.done(0, v), 0, 2, v -> v < 2 ? 1 : NOT, BAD);
        refused("it is", s, x -> x.done(1, 0), NOT);
        refused("it does not need that kind", s, x -> x.done(1, 1), NOT);
        refused("no such order, no such plane", s, x -> x.done(2, 3), BAD);
        refused("no such order of a plane that needs none", s, x -> x.done(2, 2), BAD);
        due("it needs one now", s.then(x -> x.need(1, 1, 1)), x -> x.done(1, 1), 1);
        refused("it needs none now", s.then(x -> x.need(1, 0, 0)), x -> x.done(0, 1), NOT);
        refused("it is, of one that needs it again", s.then(x -> x.done(0, 1), x -> x.need(1, 0, 0),
            x -> x.need(1, 0, 1)), x -> x.done(0, 1), NOT);
        due("of each plane for itself", s.then(x -> x.done(0, 1)), x -> x.done(0, 0), 1);
        due("of a returned one", s.then(x -> x.order(2, 0)), x -> x.done(2, 2), 1);
        due("ahead of its day", s.then(x -> x.order(0, 9999)), x -> x.done(2, 0), 1);
        due("behind its day", s.then(x -> x.order(0, 0)), x -> x.done(2, 0), 1);
    }
}
