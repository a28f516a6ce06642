import java.io.IOException;
import java.util.function.IntFunction;

/** Sections 1 to 5 of the document, sentence by sentence, in plain cases whose answers were reckoned by hand. */
public final class TermsTest extends Sentences {
    private TermsTest() throws IOException {
        super("TermsTest");
    }

    public static void main(String[] args) throws IOException {
        TermsTest t = new TermsTest();
        t.kinds();
        t.planes();
        t.usedGrows();
        t.stays();
        t.lawInForce();
        t.lawTexts();
        t.lawNames();
        t.faults();
        t.hundredths();
        t.left();
        t.grounded();
        t.orders();
        t.contractLines();
        t.contractTexts();
        t.judged();
        t.returned();
        t.bestParts();
        t.swap();
        t.cantBe();
        t.pastStays();
        t.reserves();
        t.halfLife();
        t.chain();
        t.answers();
        t.ownMemory();
        t.end(1, 0);
    }

    /** What is answered to one call for each number from 0 on. */
    private void row(String what, Scene scene, IntFunction<Call> call, int... want) {
        for (int n = 0; n < want.length; n++) {
            due(what + " " + n, scene, call.apply(n), want[n]);
        }
    }

    private void kinds() {
        terms("KINDS 0 .. 9 of parts, as they were told: LIMITS of HOURS, LANDINGS and DAYS (0 .. 99999 each; 0: "
            + "none), a RATE (0 .. 999 coins a unit of each measure: section 5), a RESERVE (0 .. 999 coins an hour).");
        Scene s = start()
            .then(x -> x.kind(300, 0, 50, 0), x -> x.kind(0, 40, 0, 100020), x -> x.plane(0), x -> x.need(0, 1, 1))
            .then(x -> x.part(0, 1, 0, 0, 0), x -> x.part(1, 2, 0, 0, 0), x -> x.move(1, 0), x -> x.fly(0, 3, 5));
        row("kinds of parts", s, part -> x -> x.ofPart(part, 0), 0, 1, VOID);
        row("left of kind 0", s, measure -> x -> x.left(0, measure, 0), 300, VOID, 50);
        row("left of kind 1", s, measure -> x -> x.left(1, measure, 0), VOID, 35, VOID);
        due("15 landings above half, 100 coins each, a hundredth of that", s, x -> x.half(0, 0), 15);
        row("3 hours, 20 coins each", s, kind -> x -> x.reserve(0, kind), 0, 60, BAD);
    }

    private void planes() {
        terms("PLANES 0 .. 9: how many parts of each KIND it needs (0 .. 3; told; 0 at first), HOURS and LANDINGS of "
            + "its own (0 at first), WORTH (0 .. 999999). STATES: 0 here, 1 RETURNED.");
        Scene s = start().then(x -> x.kind(0, 0, 0, 0), x -> x.plane(77), x -> x.plane(78));
        due("it needs none at first", s, x -> x.need(0, 0, 3), 0);
        due("it needs 3 then", s.then(x -> x.need(0, 0, 3)), x -> x.need(0, 0, 0), 3);
        due("the other one does not", s.then(x -> x.need(0, 0, 3)), x -> x.need(1, 0, 0), 0);
        row("at first", s, what -> x -> x.ofPlane(1, what), 0, 0, 0, 0, 78);
        Scene flown = s.then(x -> x.fly(1, 4, 3), x -> x.fly(1, 40, 30));
        row("flown", flown, what -> x -> x.ofPlane(1, what), 44, 33, 0, 0, 78);
        row("the other one", flown, what -> x -> x.ofPlane(0, what), 0, 0, 0, 0, 77);
        row("returned", flown.contract("g 1;", 1, 0, 0).then(x -> x.giveBack(1)), what -> x -> x.ofPlane(1, what),
            44, 33, 1, 0, 78, 0, 0);
    }

    private void usedGrows() {
        terms("USED grows: by the HOURS and LANDINGS that its PLANE flies while it is on it; by 1 of DAYS for each DAY "
            + "that goes by, wherever it is (but GONE). REPAIRED in a SHOP: USED of told measures is 0 again.");
        Scene s = start()
            .then(x -> x.kind(0, 0, 0, 0)).times(3, i -> x -> x.plane(0)).times(3, i -> x -> x.need(i, 0, 1))
            .times(5, i -> x -> x.part(0, 1 + i, 10 * i, 20 * i, 30 * i))
            .then(x -> x.move(0, 0), x -> x.move(1, 1), x -> x.move(2, 10), x -> x.move(4, 2))
            .contract("g 0;", 2, 0, 0).then(x -> x.fly(2, 6, 7), x -> x.giveBack(2))
            .then(x -> x.fly(0, 8, 2), x -> x.days(5), x -> x.fly(0, 1, 0));
        int[][] used = {{9, 2, 5}, {10, 20, 35}, {20, 40, 65}, {30, 60, 95}, {46, 87, 120}};
        for (int i = 0; i < used.length; i++) {
            int part = i;
            row("part " + part, s, n -> x -> x.ofPart(part, 3 + n), used[part]);
        }
        row("hours repaired", s.then(x -> x.repair(2, 1)), n -> x -> x.ofPart(2, 3 + n), 0, 40, 65);
        row("landings repaired", s.then(x -> x.repair(2, 2)), n -> x -> x.ofPart(2, 3 + n), 20, 0, 65);
        row("days repaired", s.then(x -> x.repair(2, 4)), n -> x -> x.ofPart(2, 3 + n), 20, 40, 0);
        row("all repaired", s.then(x -> x.repair(2, 7)), n -> x -> x.ofPart(2, 3 + n), 0, 0, 0);
        row("it grows again", s.then(x -> x.repair(2, 7), x -> x.days(2)), n -> x -> x.ofPart(2, 3 + n), 0, 0, 2);
    }

    private void stays() {
        terms("STAYS of a PART, one behind the other: where it was, from a DAY to a DAY (the last one goes on), USED "
            + "HOURS and LANDINGS at its beginning and at its end, and whether there is a PAPER for it (1; 0: a "
            + "GAP; so at first). At most 500 in all. PAST STAYS may be told ahead of its first one (section 4).");
        Scene s = start()
            .then(x -> x.kind(0, 0, 0, 0), x -> x.plane(0), x -> x.need(0, 0, 1), x -> x.days(1))
            .then(x -> x.part(0, 9, 100, 10, 0), x -> x.days(2), x -> x.move(0, 0), x -> x.fly(0, 7, 3))
            .then(x -> x.days(4), x -> x.move(0, 10), x -> x.repair(0, 1), x -> x.days(1), x -> x.move(0, 11))
            .then(x -> x.days(1), x -> x.paper(0, 1, 1));
        row("in store", s, what -> x -> x.stay(0, 0, what), 11, 1, 3, 100, 100, 10, 10, 0);
        row("on the plane", s, what -> x -> x.stay(0, 1, what), 0, 3, 7, 100, 107, 10, 13, 1);
        row("in a shop", s, what -> x -> x.stay(0, 2, what), 10, 7, 8, 107, 0, 13, 13, 0);
        row("in store again", s, what -> x -> x.stay(0, 3, what), 11, 8, VOID, 0, 0, 13, 13, 0);
        due("gaps are the two that ended without a paper", s, x -> x.ofPart(0, 7), 2);
        Scene past = s.past(0, 0, -9, -4, 1, 60, 2, 8);
        row("a past one", past, what -> x -> x.stay(0, 0, what), 0, -9, -4, 1, 60, 2, 8, 0);
        row("places then", past, i -> x -> x.stay(0, i, 0), 0, 11, 0, 10, 11, VOID);
        row("counts of stays", past, n -> x -> n == 0 ? x.ofPart(0, 6) : x.count(6), 5, 5);
    }

    /** Part 0's gaps end on days 2, 4 and 9; laws made on day 0, on day 5 for day 8 on, and on day 7 for day 3 on. */
    private static Scene threeLaws() {
        return start()
            .then(x -> x.kind(1000, 0, 0, 0), x -> x.part(0, 1, 0, 0, 0)).law("10", 0)
            .then(x -> x.days(2), x -> x.move(0, 10), x -> x.days(2), x -> x.move(0, 11), x -> x.days(1)).law("20", 8)
            .then(x -> x.days(2)).law("30", 3).then(x -> x.days(2), x -> x.move(0, 10));
    }

    private void lawInForce() {
        terms("GAP LAW: TEXTS, made on a DAY, for GAPS that end on DAYS from one on; in force for a GAP AS KNOWN on "
            + "DAY k: of those made on DAY k or ahead, for the DAY of its end or an earlier one: the one made last. "
            + "Without any it gives 0. It is asked of each STAY that has ended and has no PAPER. (Also of PAST "
            + "ones.)");
        Scene s = threeLaws();
        row("as known on day 0", s, i -> x -> x.lost(0, i, 0), 10, 10, 10, NOT, BAD);
        row("as known on day 4", s, i -> x -> x.lost(0, i, 4), 10, 10, 10);
        row("as known on day 5", s, i -> x -> x.lost(0, i, 5), 10, 10, 20);
        row("as known on day 6", s, i -> x -> x.lost(0, i, 6), 10, 10, 20);
        row("as known on day 7", s, i -> x -> x.lost(0, i, 7), 10, 30, 30);
        row("as known on day 9999", s, i -> x -> x.lost(0, i, 9999), 10, 30, 30);
        row("with a paper", s.then(x -> x.paper(0, 1, 1)), i -> x -> x.lost(0, i, 7), 10, NOT, 30);
        Scene past = s.past(0, 11, -8, -1, 0, 0, 0, 0).past(0, 11, -5, 0, 0, 0, 0, 0);
        row("past ones, without a law and with one", past, i -> x -> x.lost(0, i, 7), 0, 10, 10, 30, 30, NOT);
        due("left", past, x -> x.left(0, 0, 7), 1000 - 100 - 100 - 300 - 300);
    }

    /** Part 0 of kind 1 was on plane 3 for 7 days, 30 hours and 4 landings, behind two gaps: what that stay loses. */
    private void gives(String text, int want) {
        Scene s = start()
            .then(x -> x.kind(0, 0, 0, 0), x -> x.kind(0, 0, 0, 0)).times(4, i -> x -> x.plane(0))
            .then(x -> x.need(3, 1, 1), x -> x.part(1, 5, 50, 60, 0), x -> x.move(0, 10), x -> x.move(0, 3))
            .then(x -> x.fly(3, 30, 4), x -> x.days(7), x -> x.move(0, 11)).law(text, 0);
        due(text + " is a law", s, x -> x.count(4), 1);
        due(text, s, x -> x.lost(0, 2, 7), want);
    }

    private void lawTexts() {
        terms("TEXT: THE TAPE (at most 120 bytes): E = C [ ? E : E ]. C = S [ < S, = S, > S ]. S = P { + P, - P }. P = "
            + "O { * O, / O }. O = a number (1 to 5 digits), a NAME, - O, ( E ). No blanks.");
        gives("5", 5);
        gives("00099", 99);
        gives("--6", 6);
        gives("d+h", 37);
        gives("h-d-l", 19);
        gives("h-(d-l)", 27);
        gives("d*l+1", 29);
        gives("1+d*l", 29);
        gives("(1+d)*l", 32);
        gives("h/l*l", 28);
        gives("100/5/4", 5);
        gives("50-h/d", 46);
        gives("10--d", 17);
        gives("10*-d+99", 29);
        gives("d<h", 1);
        gives("h<d", 0);
        gives("d=7", 1);
        gives("d=8", 0);
        gives("h>d", 1);
        gives("d>7", 0);
        gives("d+1<3*3", 1);
        gives("(d<h)+(l<h)*4", 5);
        gives("d=7?40:50", 40);
        gives("d=8?40:50", 50);
        gives("0?1:0?2:3", 3);
        gives("0?1:9?2:3", 2);
        gives("1?0?4:5:6", 5);
        gives("(0?1:2)+8", 10);
        gives("0?1:2+8", 10);
        gives("-(d<h)+3", 2);
    }

    private void lawNames() {
        terms("NAMES: d DAYS of the STAY, h its HOURS, l its LANDINGS (at its end less at its beginning), w where (0 "
            + ".. 11), k KIND, n how many GAPS of the PART end ahead of it, or as it and were earlier in order. "
            + "Ints that wrap; / toward 0, by 0 it gives 0; < = > give 1, 0; of ? just the one is worked out that "
            + "its C (not 0: the first) says. At most 8 of ( - ? are open within one another (a ? up to the end of "
            + "the E behind its : ).");
        gives("d", 7);
        gives("h", 30);
        gives("l", 4);
        gives("w", 3);
        gives("k", 1);
        gives("n", 2);
        gives("60000*60000<0", 1);
        gives("65536*65536+9", 9);
        gives("10-h/l", 3);
        gives("10+-h/l", 3);
        gives("9+d/0", 9);
        gives("9+d/(d-7)", 9);
        gives("-1?8:9", 8);
        gives("((((((((8))))))))", 8);
        gives("--------8", 8);
        gives("-(-(-(-(8))))", 8);
        gives("1?1?1?1?1?1?1?1?8:0:0:0:0:0:0:0:0", 8);
        gives("0?0:0?0:0?0:0?0:0?0:0?0:0?0:0?0:8", 8);
        gives("(1)+(2)+(3)+(4)+(5)+(6)+(7)+(8)+(9)+-1", 44);
    }

    private void fault(String text, int place) {
        due("'" + text + "'", start().feed(text), x -> x.law(0), -100 - place);
        due("'" + text + "' leaves no law", start().law(text, 0), x -> x.count(4), 0);
        due("'" + text + "' leaves an empty tape", start().law(text, 0), x -> x.count(7), 0);
    }

    private void faults() {
        terms("FAULT: the place (from 0) of the first byte with which no TEXT goes on; the length, if it ends too "
            + "early.");
        fault("", 0);
        fault("+1", 0);
        fault("x", 0);
        fault("D", 0);
        fault(" 1", 0);
        fault("1 ", 1);
        fault("dh", 1);
        fault("1d", 1);
        fault("123456", 5);
        fault("1+", 2);
        fault("1++2", 2);
        fault("1*/2", 2);
        fault("1)", 1);
        fault("(1", 2);
        fault("()", 1);
        fault("1<2<3", 3);
        fault("1<=2", 2);
        fault("1?2", 3);
        fault("1?2:", 4);
        fault("1?:2", 2);
        fault("1:2", 1);
        fault("1?2:3:4", 5);
        fault("(((((((((1", 8);
        fault("---------1", 8);
        fault("1?1?1?1?1?1?1?1?1?1", 17);
        fault("0?0:0?0:0?0:0?0:0?0:0?0:0?0:0?0:0?0:8", 33);
        fault("((((((((-1))))))))", 8);
        fault("((((((((1?2:3))))))))", 9);
    }

    private void hundredths() {
        terms("It gives hundredths (held within 0 .. 100): so much of each LIMIT is lost by that GAP (the rest away); "
            + "100: ZERO LIFE.");
        Scene s = start().then(x -> x.kind(199, 250, 33, 0), x -> x.part(0, 1, 0, 0, 0), x -> x.move(0, 10));
        row("1", s.law("1", 0), n -> x -> x.left(0, n, 0), 198, 248, 33);
        row("50", s.law("50", 0), n -> x -> x.left(0, n, 0), 100, 125, 17);
        row("99", s.law("99", 0), n -> x -> x.left(0, n, 0), 2, 3, 1);
        row("100", s.law("100", 0), n -> x -> x.left(0, n, 0), 0, 0, 0);
        row("above", s.law("5000", 0), n -> x -> x.left(0, n, 0), 0, 0, 0);
        row("below", s.law("-20", 0), n -> x -> x.left(0, n, 0), 199, 250, 33);
        due("held above", s.law("5000", 0), x -> x.lost(0, 0, 0), 100);
        due("held below", s.law("-20", 0), x -> x.lost(0, 0, 0), 0);
    }

    private void left() {
        terms("LEFT of a PART in a measure (with a LIMIT) AS KNOWN on DAY k: LIMIT less USED less what is lost by all "
            + "GAPS; perhaps below 0. LEAST: the measure with the least LEFT times 10000 divided by LIMIT (toward "
            + "0); of several the first.");
        Scene s = start()
            .then(x -> x.kind(1000, 300, 200, 0), x -> x.part(0, 1, 400, 90, 100), x -> x.move(0, 10),
                x -> x.move(0, 11))
            .law("25", 0);
        row("with two gaps", s, n -> x -> x.left(0, n, 0), 100, 60, 0);
        due("least", s, x -> x.least(0, 0), 2);
        row("with a paper", s.then(x -> x.paper(0, 0, 1)), n -> x -> x.left(0, n, 0), 350, 135, 50);
        row("below", s.then(x -> x.days(30)), n -> x -> x.left(0, n, 0), 100, 60, -30);
        Scene alike = start().then(x -> x.kind(30000, 3000, 300, 0), x -> x.part(0, 1, 3000, 300, 30));
        due("of several the first", alike, x -> x.least(0, 0), 0);
        Scene near = start().then(x -> x.kind(99999, 3000, 300, 0), x -> x.part(0, 1, 9999, 300, 30));
        due("9000 and a rest is 9000", near, x -> x.least(0, 0), 0);
        Scene below = start().then(x -> x.kind(30000, 99999, 0, 0), x -> x.part(0, 1, 30000, 99999, 0), x -> x.plane(0))
            .then(x -> x.need(0, 0, 1), x -> x.move(0, 0), x -> x.fly(0, 1, 9));
        row("both are below 0", below, n -> x -> x.left(0, n, 0), -1, -9, VOID);
        due("both come to 0 toward 0", below, x -> x.least(0, 0), 0);
    }

    private void grounded() {
        terms("GROUNDED is a PLANE AS KNOWN on DAY k (LAWS by k; all else as it is): the first of: 1 fewer parts of a "
            + "KIND are on it than it needs; 2 a part on it has LEFT below 0 in some measure; 3 an ORDER of a KIND "
            + "that it needs is not DONE, and its DAY is ahead of TODAY. (A RETURNED one likewise.)");
        Scene s = start()
            .then(x -> x.kind(100, 0, 0, 0), x -> x.kind(0, 0, 0, 0), x -> x.plane(0), x -> x.need(0, 0, 2))
            .then(x -> x.part(0, 1, 60, 0, 0), x -> x.part(0, 2, 10, 0, 0), x -> x.move(0, 0), x -> x.order(0, 1));
        due("one is missing", s, x -> x.grounded(0, 0), 1);
        Scene whole = s.then(x -> x.move(1, 0));
        due("none is missing", whole, x -> x.grounded(0, 0), 0);
        Scene law = whole.then(x -> x.days(1)).law("41", 0);
        due("as known on day 0", law, x -> x.grounded(0, 0), 0);
        due("as known on day 1", law, x -> x.grounded(0, 1), 2);
        due("a part that lacks life is taken off", law.then(x -> x.move(0, 11)), x -> x.grounded(0, 1), 1);
        Scene late = whole.then(x -> x.days(2));
        due("the order's day went by", late, x -> x.grounded(0, 0), 3);
        due("it is done", late.then(x -> x.done(0, 0)), x -> x.grounded(0, 0), 0);
        due("an order of another kind", late.then(x -> x.done(0, 0), x -> x.order(1, 0)), x -> x.grounded(0, 0), 0);
        due("no life, ahead of the order", late.law("41", 0), x -> x.grounded(0, 2), 2);
        due("returned: parts are missing", late.contract("g 1;", 0, 0, 0)
            .then(x -> x.giveBack(0)), x -> x.grounded(0, 0), 1);
    }

    private void orders() {
        terms("ORDERS 0 .. 19: of a KIND, up to a DAY: each PLANE that needs that KIND has to have it DONE (told). A "
            + "PLANE FLIES only if it is not GROUNDED AS KNOWN TODAY.");
        Scene s = start()
            .then(x -> x.kind(0, 0, 0, 0), x -> x.kind(0, 0, 0, 0)).times(3, i -> x -> x.plane(0))
            .then(x -> x.need(0, 0, 1), x -> x.need(1, 0, 1), x -> x.need(2, 1, 1))
            .times(3, i -> x -> x.part(i / 2, 1 + i, 0, 0, 0)).times(3, i -> x -> x.move(i, i))
            .then(x -> x.order(0, 4));
        row("on its day", s.then(x -> x.days(4)), plane -> x -> x.fly(plane, 1, 1), 1, 1, 1);
        Scene late = s.then(x -> x.days(5));
        row("a day behind", late, plane -> x -> x.fly(plane, 1, 1), NOT, NOT, 1);
        row("done for one", late.then(x -> x.done(0, 1)), plane -> x -> x.fly(plane, 1, 1), NOT, 1, 1);
        row("by whom it can be done", late, plane -> x -> x.done(0, plane), 1, 1, NOT);
    }

    /** Plane 0 was due on day 3, for 70 a day; it lacks one of kind 1, and has part 0 (a gap) and part 1 (two gaps). */
    private static Scene judgedPlane() {
        return start()
            .then(x -> x.kind(500, 200, 100, 0), x -> x.kind(0, 0, 0, 0), x -> x.plane(0))
            .then(x -> x.need(0, 0, 2), x -> x.need(0, 1, 1), x -> x.order(0, 2), x -> x.order(1, 9),
                x -> x.order(0, 5))
            .then(x -> x.part(0, 1, 100, 20, 30), x -> x.part(0, 2, 450, 10, 5), x -> x.move(0, 0))
            .then(x -> x.move(1, 10), x -> x.move(1, 0), x -> x.done(2, 0))
            .contract("h 0 300 2;l 0 185 3;d 0 90 1;g 10;o 9;m 1000;t 2 33;h 1 5 5;h 7 5 5;", 0, 3, 70);
    }

    private void contractLines() {
        terms("CONTRACTS: a PLANE has one: a TEXT of LINES, a RETURN DAY, RENT (0 .. 99999 a DAY). LINES, one or more, "
            + "each ended by ; : h k n c: of each part of KIND k on it HOURS LEFT must be n at least: each unit "
            + "that lacks costs c; l k n c, d k n c likewise; g c: each GAP of parts on it costs c; o c: each ORDER "
            + "of it that is not done costs c; m c: each part that it needs and is missing costs c; t a b: each "
            + "late DAY up to the a-th costs RENT, each one behind that b hundredths of RENT (the rest away of "
            + "each).");
        Scene s = judgedPlane();
        row("lacks on day 7", s, i -> x -> x.lacks(0, i, 7, 0), 250, 5, 20, 3, 2, 1, 4, 0, 0, BAD);
        row("costs on day 7", s, i -> x -> x.costs(0, i - 1, 7, 0),
            500 + 15 + 20 + 30 + 18 + 1000 + 186, 500, 15, 20, 30, 18, 1000, 2 * 70 + 2 * 23, 0, 0, VOID);
        row("return day and rent", s, n -> x -> x.ofPlane(0, 7 + n), 3, 70);
        Scene another = s.contract("m 4;", 0, 8, 9);
        row("another in its place", another, i -> x -> x.costs(0, i - 1, 7, 0), 4, 4, VOID);
        row("its return day and rent", another, n -> x -> x.ofPlane(0, 7 + n), 8, 9);
    }

    private void contractTexts() {
        terms("Letters, numbers (1 to 5 digits), one blank between each two. (A KIND without that LIMIT lacks nothing "
            + "by its LINE.)");
        Scene s = start().then(x -> x.plane(0));
        String[] texts = {"g 1;", "g 00001;m 99999;", "h 0 1 2;l 1 2 3;d 99999 0 0;o 5;t 1 2;", "", "g 1", "g  1;",
            "g1;",
            "g 1 ;", "g 1;;", "g 1; m 1;", "g 123456;", "h 0 1;", "h 0 1 2 3;", "t 1;", "x 1;", "g 1;h", "g -1;",
                "G 1;"};
        int[] due = {1, 2, 5, -100, -103, -102, -101, -103, -104, -104, -107, -105, -107, -103, -100, -105, -102, -100};
        for (int i = 0; i < texts.length; i++) {
            due("'" + texts[i] + "'", s.feed(texts[i]), x -> x.contract(0, 0, 0), due[i]);
        }
        Scene none = start()
            .then(x -> x.kind(0, 9, 0, 0), x -> x.plane(0), x -> x.need(0, 0, 1), x -> x.part(0, 1, 0, 9, 0))
            .then(x -> x.move(0, 0)).contract("h 0 99999 1;l 0 2 1;d 0 99999 1;", 0, 0, 0);
        row("lacks", none, i -> x -> x.lacks(0, i, 0, 0), 0, 2, 0);
    }

    private void judged() {
        terms("JUDGED on a DAY AS KNOWN on DAY k: each LINE's cost, together what it costs to give it back that DAY "
            + "(LATE: DAYS behind the RETURN DAY; not below 0). Lacks are counted by LINE, in units: of h l d: of "
            + "each part of that KIND on it n less LEFT, if that is above 0, together (0, if there is no such KIND, "
            + "or it has no such LIMIT); of g: GAPS of all parts on it; of o: ORDERS of KINDS that it needs, not "
            + "DONE; of m: parts of all KINDS that are missing; of t: late DAYS. What a LINE costs is its units "
            + "times c (of t as told), held at 2000000000, as all together is.");
        Scene s = judgedPlane();
        row("late days", s, day -> x -> x.lacks(0, 6, day, 0), 0, 0, 0, 0, 1, 2, 3, 4);
        row("their costs", s, day -> x -> x.costs(0, 6, day, 0), 0, 0, 0, 0, 70, 140, 163, 186);
        Scene law = s.then(x -> x.days(1)).law("w=11?20:10", 0);
        due("hours as known on day 0", law, x -> x.lacks(0, 0, 0, 0), 250);
        due("hours as known on day 1: 300 left, and -100", law, x -> x.lacks(0, 0, 0, 1), 400);
        due("gaps do not ask the law", law, x -> x.lacks(0, 3, 0, 1), 3);
        due("the part that was missing", s.then(x -> x.part(1, 3, 0, 0, 0), x -> x.move(2, 0)),
            x -> x.lacks(0, 5, 0, 0), 0);
        due("it has a gap", s.then(x -> x.part(1, 3, 0, 0, 0), x -> x.move(2, 0)), x -> x.lacks(0, 3, 0, 0), 4);
        Scene dear = start().then(x -> x.kind(99999, 0, 0, 0), x -> x.plane(0), x -> x.need(0, 0, 1))
            .then(x -> x.part(0, 1, 90000, 0, 0), x -> x.move(0, 0))
            .contract("h 0 20000 99999;h 0 30000 99999;", 0, 0, 0);
        due("10001 hours", dear, x -> x.costs(0, 0, 0, 0), 1000089999);
        due("20001 hours", dear, x -> x.costs(0, 1, 0, 0), 2000000000);
        due("together", dear, x -> x.costs(0, -1, 0, 0), 2000000000);
    }

    private void returned() {
        terms("RETURNED: on a DAY, with its parts (they are GONE, with their STAYS' ends): what it costs is kept.");
        Scene s = judgedPlane().then(x -> x.part(0, 3, 0, 0, 0), x -> x.days(7));
        due("what it costs", s, x -> x.giveBack(0), 500 + 15 + 29 + 30 + 18 + 1000 + 186);
        Scene back = s.then(x -> x.giveBack(0), x -> x.days(3));
        row("places", back, part -> x -> x.ofPart(part, 2), 12, 12, 11);
        row("last stays", back, part -> x -> x.stay(part, part + 1, 2), 7, 7);
        row("days do not go on", back, part -> x -> x.ofPart(part, 5), 37, 12, 10);
        row("of the plane", back, what -> x -> x.ofPlane(0, what), 0, 0, 1, 0, 0, 1778, 7, 3, 70);
    }

    private void bestParts() {
        terms("BEST PARTS for a PLANE and a KIND: of the parts of this KIND on it, and in STORE (8 together at most, "
            + "else BIG), as many as it needs (or all there are): those with which it would cost least to give it "
            + "back TODAY, AS KNOWN TODAY (all else as it is); of several with the fewest that are not on it now; "
            + "of several the first (by rising numbers). (GAPS: a STAY that would end by it has no PAPER: it is not "
            + "counted.)");
        int[] used = {500, 300, 100, 300, 900};
        Scene s = start()
            .then(x -> x.kind(1000, 0, 0, 0), x -> x.kind(0, 0, 0, 0), x -> x.plane(0), x -> x.need(0, 0, 2))
            .times(5, i -> x -> x.part(0, 1 + i, used[i], 0, 0)).then(x -> x.part(1, 9, 0, 0, 0), x -> x.move(4, 10))
            .then(x -> x.move(3, 0), x -> x.move(0, 0), x -> x.paper(0, 0, 1), x -> x.paper(3, 0, 1))
            .contract("h 0 700 2;", 0, 0, 0);
        due("1, 2 and 3 have 700 left, 3 is on it now: 1 and 3", s, x -> x.best(0, 0), 2 + 8);
        due("its cost", s.then(x -> x.best(0, 0)), x -> x.bestCost(), 0);
        due("all else stays as it is", s.then(x -> x.best(0, 0)), x -> x.ofPart(2, 2), 11);
        Scene more = s.contract("h 0 900 2;", 0, 0, 0);
        due("1 and 3 are alike: that on it", more, x -> x.best(0, 0), 4 + 8);
        due("its cost", more.then(x -> x.best(0, 0)), x -> x.bestCost(), 400);
        Scene off = more.then(x -> x.move(3, 11), x -> x.paper(3, 1, 1));
        due("neither is on it: the first", off, x -> x.best(0, 0), 2 + 4);
        Scene gap = off.contract("g 10;", 0, 0, 0);
        due("without gaps: that on it, and the first", gap, x -> x.best(0, 0), 1 + 2);
        due("stays that would end are no gaps", gap.then(x -> x.best(0, 0)), x -> x.bestCost(), 0);
        Scene few = off.then(x -> x.need(0, 0, 3), x -> x.move(1, 10), x -> x.move(2, 10));
        due("all there are: 0 and 3", few, x -> x.best(0, 0), 3);
    }

    private void swap() {
        terms("SWAP: a part on a PLANE goes to STORE, and one from STORE there, in one.");
        Scene s = start()
            .then(x -> x.kind(0, 0, 0, 0), x -> x.plane(0), x -> x.need(0, 0, 1), x -> x.part(0, 1, 0, 0, 0))
            .then(x -> x.part(0, 2, 0, 0, 0), x -> x.move(0, 0), x -> x.days(6), x -> x.swap(0, 1));
        row("places", s, part -> x -> x.ofPart(part, 2), 11, 0);
        row("the one's stay in store", s, what -> x -> x.stay(0, 2, what), 11, 6, VOID);
        row("the other's on the plane", s, what -> x -> x.stay(1, 1, what), 0, 6, VOID);
    }

    private void cantBe() {
        terms("CAN'T BE: of a PART's STAYS (PAST ones too): the first of: 1 two of them in unlike places overlap by "
            + "more than a DAY on which the one ends and the other begins (the one that goes on: up to TODAY): each "
            + "begins ahead of the other's end; 2 USED HOURS or LANDINGS are less at the end of one than at its "
            + "beginning, or less at the beginning of one than at the end of the one ahead (in order of their "
            + "beginnings; of one DAY as told), but for STAYS in a SHOP, and between two of which one is in a SHOP; "
            + "3 another PART of the same KIND and NUMBER that is not GONE. 0: it may be.");
        Scene s = start().then(x -> x.kind(0, 0, 0, 0), x -> x.plane(0), x -> x.part(0, 5, 50, 50, 0));
        Call can = x -> x.ofPart(0, 8);
        due("one stay", s, can, 0);
        due("one day in both", s.past(0, 0, -9, -5, 1, 2, 1, 2).past(0, 11, -5, -2, 2, 3, 2, 3), can, 0);
        due("two days in both", s.past(0, 0, -9, -4, 1, 2, 1, 2).past(0, 11, -5, -2, 2, 3, 2, 3), can, 1);
        due("two days in one place", s.past(0, 0, -9, -4, 1, 2, 1, 2).past(0, 0, -5, -2, 2, 3, 2, 3), can, 0);
        due("less hours at an end", s.past(0, 0, -9, -5, 4, 3, 1, 1), can, 2);
        due("less landings at an end", s.past(0, 0, -9, -5, 4, 4, 2, 1), can, 2);
        due("less at an end in a shop", s.past(0, 10, -9, -5, 4, 3, 2, 1), can, 0);
        due("less than at the end ahead", s.past(0, 0, -9, -5, 1, 9, 1, 1).past(0, 0, -4, -2, 8, 9, 1, 1), can, 2);
        due("less behind a shop", s.past(0, 10, -9, -5, 1, 9, 1, 1).past(0, 0, -4, -2, 8, 9, 1, 1), can, 0);
        due("less in a shop behind", s.past(0, 0, -9, -5, 1, 9, 1, 1).past(0, 10, -4, -2, 8, 9, 1, 1), can, 0);
        due("less than in its past", s.past(0, 0, -9, -5, 1, 51, 1, 1), can, 2);
        Scene twin = s.then(x -> x.need(0, 0, 1), x -> x.part(0, 5, 0, 0, 0), x -> x.move(1, 0));
        due("a twin", twin, can, 3);
        due("a twin that is gone", twin.contract("g 0;", 0, 0, 0).then(x -> x.giveBack(0)), can, 0);
        due("the number in another kind", s.then(x -> x.kind(0, 0, 0, 0), x -> x.part(1, 5, 0, 0, 0)), can, 0);
        due("all of them: the first", twin.past(0, 0, -9, -4, 4, 3, 1, 2).past(0, 11, -5, -2, 2, 3, 2, 3), can, 1);
        due("the last two: the second", twin.past(0, 0, -9, -4, 4, 3, 1, 2), can, 2);
    }

    private void pastStays() {
        terms("A PAST STAY is told with place (a PLANE that there is, SHOP, STORE), DAYS (-9999 .. 0), HOURS and "
            + "LANDINGS at both ends; it has no PAPER at first. A STAY's order is that of its first DAY, of one DAY "
            + "as it was told (the PART's own first one when the PART came).");
        Scene s = start()
            .then(x -> x.kind(0, 0, 0, 0), x -> x.plane(0), x -> x.part(0, 5, 50, 50, 0), x -> x.move(0, 10))
            .past(0, 0, -7, -3, 1, 2, 3, 4).past(0, 10, 0, 0, 5, 6, 7, 8).past(0, 11, -7, -1, 9, 10, 11, 12);
        row("by their first days, then as told", s, i -> x -> x.stay(0, i, 0), 0, 11, 11, 10, 10, VOID);
        row("first days", s, i -> x -> x.stay(0, i, 1), -7, -7, 0, 0, 0, VOID);
        row("last days", s, i -> x -> x.stay(0, i, 2), -3, -1, 0, VOID, 0, VOID);
        row("papers", s, i -> x -> x.stay(0, i, 7), 0, 0, 0, 0, 0, VOID);
        row("one as it was told", s, what -> x -> x.stay(0, 1, what), 11, -7, -1, 9, 10, 11, 12, 0);
        due("a plane that there is not", s, x -> x.past(0, 1, 0, 0, 0, 50000000), BAD);
        due("gone is no place", s, x -> x.past(0, 12, 0, 0, 0, 50000000), BAD);
    }

    private void reserves() {
        terms("RESERVES of a PLANE and KIND: for each HOUR flown RESERVE for each part of that KIND on it (held at "
            + "2000000000). WORKS: a claim for a PART in a SHOP whose STAY ahead of that one was on a PLANE: coins; "
            + "PAID out of the RESERVE of that PLANE and KIND as far as that goes.");
        Scene s = start()
            .then(x -> x.kind(0, 0, 0, 4), x -> x.kind(0, 0, 0, 7), x -> x.kind(0, 0, 0, 9), x -> x.plane(0),
                x -> x.plane(0))
            .then(x -> x.need(0, 0, 2), x -> x.need(0, 1, 1), x -> x.need(1, 0, 1))
            .times(3, i -> x -> x.part(0, 1, 0, 0, 0))
            .then(x -> x.part(1, 1, 0, 0, 0), x -> x.move(0, 0), x -> x.move(1, 0), x -> x.move(2, 1),
                x -> x.move(3, 0))
            .then(x -> x.fly(0, 10, 1), x -> x.fly(0, 1, 1), x -> x.fly(1, 5, 1));
        row("plane 0", s, kind -> x -> x.reserve(0, kind), 88, 77, 0);
        row("plane 1", s, kind -> x -> x.reserve(1, kind), 20, 0, 0);
        Scene shop = s.then(x -> x.move(2, 10), x -> x.move(0, 10), x -> x.move(1, 11), x -> x.move(1, 10));
        row("who may claim", shop, part -> x -> x.claim(part, 30), 30, NOT, 20, NOT);
        Scene paid = shop.then(x -> x.claim(0, 30), x -> x.claim(2, 30), x -> x.claim(0, 99));
        row("what is left of kind 0", paid, plane -> x -> x.reserve(plane, 0), 0, 0);
        due("of kind 1", paid, x -> x.reserve(0, 1), 77);
        due("paid in all", paid, x -> x.count(12), 108);
        due("nothing more is paid", paid, x -> x.claim(0, 1), 0);
    }

    private void halfLife() {
        terms("HALF LIFE of a PLANE: the sum over parts on it and measures with a LIMIT of (LEFT less LIMIT / 2) times "
            + "RATE divided by 100 (toward 0; each), the sum held within -1999999999 .. 1999999999.");
        Scene s = start()
            .then(x -> x.kind(1001, 0, 100, 30000), x -> x.kind(60, 60, 60, 7000), x -> x.plane(0),
                x -> x.need(0, 0, 1))
            .then(x -> x.need(0, 1, 1), x -> x.part(0, 1, 100, 0, 77), x -> x.part(1, 1, 50, 20, 31),
                x -> x.move(0, 0));
        due("(901 - 500) * 30 / 100 and (23 - 50) * 30 / 100", s, x -> x.half(0, 0), 120 - 8);
        due("with (10 - 30), (40 - 30), (29 - 30) times 7 / 100", s.then(x -> x.move(1, 0)),
            x -> x.half(0, 0), 112 - 1);
        Scene law = s.then(x -> x.days(1)).law("10", 0);
        due("as known on day 1: (801 - 500), (12 - 50)", law, x -> x.half(0, 1), 90 - 11);
        due("as known on day 0: (901 - 500), (22 - 50)", law, x -> x.half(0, 0), 120 - 8);
    }

    private void chain() {
        terms("CHAIN of a PLANE: LESSORS (0 .. 9), at most 4, each with a RENT a DAY, link 0 the nearest: NET of a "
            + "link by DAYS: its RENT less that of the next one, times them. INSURANCE of a PLANE a DAY: WORTH and "
            + "HALF LIFE (0 at least), divided by 1000 (up), nothing if GROUNDED.");
        Scene s = start().then(x -> x.kind(1000, 0, 0, 30000), x -> x.plane(2000), x -> x.plane(3001), x -> x.plane(0))
            .then(x -> x.link(0, 4, 900), x -> x.link(0, 4, 700), x -> x.link(1, 1, 50), x -> x.link(0, 0, 800));
        row("net of 10 days", s, i -> x -> x.net(0, i, 10), 2000, -1000, 8000, VOID);
        row("of another plane", s, i -> x -> x.net(1, i, 10), 500, VOID);
        row("insurance", s, plane -> x -> x.insure(plane), 2, 4, 0);
        Scene half = s.then(x -> x.need(0, 0, 1), x -> x.part(0, 1, 496, 0, 0), x -> x.part(0, 2, 800, 0, 0));
        due("grounded", half, x -> x.insure(0), 0);
        due("2000 and 1", half.then(x -> x.move(0, 0)), x -> x.insure(0), 3);
        due("2000 and less than 0", half.then(x -> x.move(1, 0)), x -> x.insure(0), 2);
    }

    private void answers() {
        terms("Answers, of several the one named first: BAD (-1): no such kind, plane, part, or a number is not as "
            + "said; NOT (-2): as told; FULL (-3); BIG (-4). VOID is -2000000000. What is answered so changes "
            + "nothing.");
        Scene s = rich();
        due("no such kind", s, x -> x.order(3, 0), -1);
        due("no such plane", s, x -> x.giveBack(3), -1);
        due("no such part", s, x -> x.move(5, 11), -1);
        due("a number is not as said", s, x -> x.days(0), -1);
        due("not", s, x -> x.giveBack(2), -2);
        due("full", s.times(7, i -> x -> x.plane(0)), x -> x.plane(0), -3);
        due("big", s.times(7, i -> x -> x.part(0, 1, 0, 0, 0)), x -> x.best(0, 0), -4);
        due("void", s, x -> x.half(3, 0), -2000000000);
        refused("bad ahead of not", s, x -> x.fly(2, 0, 0), BAD);
        refused("not ahead of big", s.then(x -> x.need(0, 0, 3)).times(9, i -> x -> x.part(0, 1, 0, 0, 0)),
            x -> x.best(1, 0), NOT);
    }

    private void ownMemory() {
        terms("All memory is the class's own.");
        PlanesBack first = new PlanesBack(), second = new PlanesBack();
        first.kind(1, 2, 3, 4);
        first.plane(5);
        second.plane(6);
        Check.feed(first, "10");
        Check.feed(second, "200");
        due("kinds of the one that has none", start(), x -> second.count(0), 0);
        due("the bytes of the one", start(), x -> first.count(7), 2);
        due("the bytes of the other", start(), x -> second.count(7), 3);
        due("the worth of the one's plane", start(), x -> first.ofPlane(0, 4), 5);
        due("the worth of the other's plane", start(), x -> second.ofPlane(0, 4), 6);
    }
}
