import java.io.IOException;
import java.util.function.IntFunction;

/** The calls that only ask, each promise as a whole: all answers of one rich state, and that asking changes nothing. */
public final class QuestionsTest extends Sentences {
    private final Scene s = rich();

    private QuestionsTest() throws IOException {
        super("QuestionsTest");
    }

    public static void main(String[] args) throws IOException {
        QuestionsTest t = new QuestionsTest();
        t.ofPlanes();
        t.groundedPlanes();
        t.ofParts();
        t.lefts();
        t.leasts();
        t.stays();
        t.losses();
        t.lacks();
        t.costs();
        t.bestCosts();
        t.reserves();
        t.halves();
        t.insurances();
        t.nets();
        t.counts();
        t.end(1, 0);
    }

    private void asked(String what, Scene scene, Call call, int want) {
        changes(what, scene, call, want);
    }

    /** Answers from number 0 on, and what is answered for a number below and beyond. */
    private void row(String what, IntFunction<Call> call, int beside, int... want) {
        for (int n = 0; n < want.length; n++) {
            asked(what + " " + n, s, call.apply(n), want[n]);
        }
        asked(what + " below", s, call.apply(-1), beside);
        asked(what + " beyond", s, call.apply(want.length), beside);
    }

    private void ofPlanes() {
        promise(7, "Of a PLANE: 0 HOURS, 1 LANDINGS, 2 state, 3 parts on it, 4 WORTH, 5 what it cost when it was "
            + "RETURNED (-1), 6 the DAY of that (-1), 7 RETURN DAY (-1: no CONTRACT), 8 RENT. VOID: BAD.");
        row("plane 0", what -> x -> x.ofPlane(0, what), VOID, 50, 10, 0, 2, 90000, -1, -1, 2, 100);
        row("plane 1", what -> x -> x.ofPlane(1, what), VOID, 0, 0, 0, 0, 500, -1, -1, -1, 0);
        row("plane 2", what -> x -> x.ofPlane(2, what), VOID, 0, 0, 1, 0, 7, 7, 3, 1, 9);
        row("worths", plane -> x -> x.ofPlane(plane, 4), VOID, 90000, 500, 7);
    }

    private void groundedPlanes() {
        promise(8, "GROUNDED AS KNOWN on DAY k: 1, 2, 3; 0: it is not. BAD.");
        row("planes", plane -> x -> x.grounded(plane, 4), BAD, 1, 1, 1);
        Scene whole = s.then(x -> x.move(3, 0));
        asked("no part is missing", whole, x -> x.grounded(0, 4), 0);
        Scene hard = whole.then(x -> x.law(0)).law("w=11?90:0", 0);
        asked("a new law for stores", hard, x -> x.grounded(0, 4), 2);
        asked("not known then", hard, x -> x.grounded(0, 3), 0);
        Scene late = whole.then(x -> x.days(7));
        asked("an order is late", late, x -> x.grounded(0, 4), 3);
        asked("it was done", late.then(x -> x.done(0, 0)), x -> x.grounded(0, 4), 0);
    }

    private void ofParts() {
        promise(13, "Of a PART: 0 KIND, 1 NUMBER, 2 place, 3 to 5 USED HOURS, LANDINGS, DAYS, 6 STAYS, 7 GAPS, 8 CAN'T "
            + "BE. VOID: BAD.");
        row("part 0", what -> x -> x.ofPart(0, what), VOID, 0, 11, 0, 150, 50, 34, 3, 2, 0);
        row("part 1", what -> x -> x.ofPart(1, what), VOID, 0, 12, 10, 350, 100, 14, 3, 2, 0);
        row("part 2", what -> x -> x.ofPart(2, what), VOID, 1, 21, 0, 550, 10, 4, 2, 0, 0);
        row("part 3", what -> x -> x.ofPart(3, what), VOID, 0, 13, 11, 10, 5, 9, 2, 1, 0);
        row("part 4", what -> x -> x.ofPart(4, what), VOID, 2, 5, 12, 1, 2, 6, 2, 2, 0);
        row("numbers", part -> x -> x.ofPart(part, 1), VOID, 11, 12, 21, 13, 5);
    }

    private void lefts() {
        promise(14, "LEFT of a measure (0 .. 2) AS KNOWN on DAY k. VOID: BAD, or there is no LIMIT.");
        row("part 0, the laws known", measure -> x -> x.left(0, measure, 4), VOID, 600, 325, 266);
        row("part 0, no law known", measure -> x -> x.left(0, measure, 2), VOID, 850, 450, 366);
        row("part 1, both laws", measure -> x -> x.left(1, measure, 4), VOID, 350, 250, 266);
        row("part 2, hours alone", measure -> x -> x.left(2, measure, 4), VOID, 1450, VOID, VOID);
        row("part 3, a gap ahead of all laws", measure -> x -> x.left(3, measure, 4), VOID, 990, 495, 391);
        row("part 4, no limits", measure -> x -> x.left(4, measure, 4), VOID, VOID, VOID, VOID);
    }

    private void leasts() {
        promise(15, "LEAST AS KNOWN on DAY k: the measure. BAD; NOT: it has no LIMIT.");
        row("parts", part -> x -> x.least(part, 4), BAD, 0, 0, 0, 2, NOT);
    }

    private void stays() {
        promise(16, "STAY i of a PART (in order of their beginnings; of one DAY as told; PAST ones too): 0 where, 1 "
            + "its first DAY, 2 its last DAY (VOID: it goes on), 3 HOURS at its beginning, 4 at its end (now, if it "
            + "goes on), 5, 6 LANDINGS likewise, 7 PAPER (1, 0). VOID: BAD.");
        row("part 0, its past", what -> x -> x.stay(0, 0, what), VOID, 1, -5, 0, 80, 100, 30, 40, 0);
        row("part 0, in store", what -> x -> x.stay(0, 1, what), VOID, 11, 0, 0, 100, 100, 40, 40, 0);
        row("part 0, on its plane", what -> x -> x.stay(0, 2, what), VOID, 0, 0, VOID, 100, 150, 40, 50, 0);
        row("part 1, on its plane", what -> x -> x.stay(1, 1, what), VOID, 0, 0, 3, 300, 350, 90, 100, 0);
        row("part 1, in its shop", what -> x -> x.stay(1, 2, what), VOID, 10, 3, VOID, 350, 350, 100, 100, 0);
        row("part 2, with a paper", what -> x -> x.stay(2, 0, what), VOID, 11, 0, 0, 500, 500, 0, 0, 1);
        row("part 4, on the plane that went", what -> x -> x.stay(4, 1, what), VOID, 2, 0, 3, 1, 1, 2, 2, 0);
        row("part 0", i -> x -> x.stay(0, i, 0), VOID, 1, 11, 0);
    }

    private void losses() {
        promise(21, "Hundredths lost by STAY i AS KNOWN on DAY k; NOT: it is no GAP. BAD.");
        row("part 0", i -> x -> x.lost(0, i, 4), BAD, 15, 10, NOT);
        row("part 0, no law known", i -> x -> x.lost(0, i, 2), BAD, 0, 0, NOT);
        row("part 1", i -> x -> x.lost(1, i, 4), BAD, 10, 20, NOT);
        row("part 2", i -> x -> x.lost(2, i, 4), BAD, NOT, NOT);
        row("part 3", i -> x -> x.lost(3, i, 4), BAD, 0, NOT);
    }

    private void lacks() {
        promise(25, "Units that lack by LINE i, on a DAY, AS KNOWN on DAY k. BAD: also no CONTRACT.");
        row("today", i -> x -> x.lacks(0, i, 4, 4), BAD, 300, 2, 2);
        row("later, no law known", i -> x -> x.lacks(0, i, 10, 2), BAD, 50, 2, 8);
        row("ahead of the return day", i -> x -> x.lacks(0, i, 1, 4), BAD, 300, 2, 0);
        row("no contract", i -> x -> x.lacks(1, i, 4, 4), BAD);
    }

    private void costs() {
        promise(26, "What LINE i costs (i -1: all together) likewise. VOID: BAD. (Held at 2000000000.)");
        int[] today = {1706, 1500, 6, 200}, later = {756, 250, 6, 500};
        for (int i = -1; i <= 2; i++) {
            int line = i;
            asked("today " + i, s, x -> x.costs(0, line, 4, 4), today[i + 1]);
            asked("later, no law known " + i, s, x -> x.costs(0, line, 10, 2), later[i + 1]);
        }
        for (int i : new int[] {-2, 3}) {
            asked("no such line " + i, s, x -> x.costs(0, i, 4, 4), VOID);
        }
        asked("no contract", s, x -> x.costs(1, -1, 4, 4), VOID);
    }

    private void bestCosts() {
        promise(29, "What it would cost by the latest best() that found some. VOID: before any.");
        asked("before any", start(), x -> x.bestCost(), VOID);
        asked("on day 3", s, x -> x.bestCost(), 1609);
        asked("on day 4, with the part in store", s.then(x -> x.best(0, 0)), x -> x.bestCost(), 1709);
    }

    private void reserves() {
        promise(30, "RESERVE coins of a PLANE and KIND. BAD.");
        row("plane 0", kind -> x -> x.reserve(0, kind), BAD, 1000, 100, 0);
        row("kind 0", plane -> x -> x.reserve(plane, 0), BAD, 1000, 0, 0);
    }

    private void halves() {
        promise(32, "HALF LIFE of a PLANE AS KNOWN on DAY k. VOID: BAD.");
        row("the laws known", plane -> x -> x.half(plane, 4), VOID, 15, 0, 0);
        row("no law known", plane -> x -> x.half(plane, 2), VOID, 39, 0, 0);
    }

    private void insurances() {
        promise(33, "INSURANCE a DAY, AS KNOWN TODAY. BAD.");
        row("grounded", plane -> x -> x.insure(plane), BAD, 0, 0, 0);
        asked("not grounded", s.then(x -> x.move(3, 0)), x -> x.insure(0), 91);
    }

    private void nets() {
        promise(35, "NET of link i by so many DAYS (1 .. 999). VOID: BAD.");
        row("links", i -> x -> x.net(0, i, 10), VOID, 1000, 4000);
        row("no links", i -> x -> x.net(1, i, 10), VOID);
    }

    private void counts() {
        promise(36, "How many: 0 KINDS, 1 PLANES, 2 PARTS, 3 DAY, 4 LAWS, 5 ORDERS, 6 STAYS, 7 bytes on THE TAPE, 8 "
            + "PARTS that are GONE, 9 in STORE, 10 in SHOPS, 11 PLANES RETURNED, 12 coins PAID for WORKS. BAD.");
        row("counts", what -> x -> x.count(what), BAD, 3, 3, 5, 4, 2, 2, 12, 3, 1, 1, 1, 1, 0);
        asked("coins", s.then(x -> x.claim(1, 300), x -> x.claim(1, 5)), x -> x.count(12), 305);
    }
}
