import java.io.IOException;

/** Boundary cases of promises 24 to 29, and of the terms that they go by. */
public final class EdgesContractsTest extends Sentences {
    private static final int HELD = 2000000000;

    private EdgesContractsTest() throws IOException {
        super("EdgesContractsTest");
    }

    public static void main(String[] args) throws IOException {
        EdgesContractsTest t = new EdgesContractsTest();
        t.contracts();
        t.contractsInPlace();
        t.contractsEmptyTheTape();
        t.contractsRent();
        t.contractsLines();
        t.linesOneOrMore();
        t.linesLetters();
        t.linesNumbers();
        t.linesBlanks();
        t.lacks();
        t.costs();
        t.hoursLandingsDays();
        t.noSuchKindOrLimit();
        t.noLimitLacksNothing();
        t.coinsOfEach();
        t.partsTogether();
        t.gaps();
        t.orders();
        t.missing();
        t.lateDays();
        t.lateUpToTheLast();
        t.lateRestAway();
        t.heldLines();
        t.heldTogether();
        t.judgedAsKnown();
        t.givenBackToday();
        t.givenBack();
        t.givenBackFullNever();
        t.returnedWithItsParts();
        t.bestRefused();
        t.bestOfEight();
        t.bestAsManyAsItNeeds();
        t.bestOfSeveral();
        t.bestFirst();
        t.bestHeld();
        t.bestGaps();
        t.bestBits();
        t.bestCosts();
        t.end(24, 29);
    }

    private void contracts() {
        promise(24, "BAD (day 0 .. 9999, rent 0 .. 99999); NOT: it is RETURNED (THE TAPE stays).");
        Scene s = gapOn().feed("g 1;");
        within("day", s, v -> x -> x.contract(0, v, 0), 0, 9999, 1, BAD);
        within("rent", s, v -> x -> x.contract(0, 0, v), 0, 99999, 1, BAD);
        within("plane", s, v -> x -> x.contract(v, 0, 0), 0, 0, 1, BAD);
        Scene back = gapOn().contract("m 1;", 0, 0, 0).then(x -> x.giveBack(0)).feed("g 1;");
        refused("returned", back, x -> x.contract(0, 0, 0), NOT);
        refused("bad day ahead of returned", back, x -> x.contract(0, -1, 0), BAD);
        refused("bad rent ahead of returned", back, x -> x.contract(0, 0, 100000), BAD);
        due("the tape stays", back.then(x -> x.contract(0, 0, 0)), x -> x.count(7), 4);
        due("the tape stays, bad", back.then(x -> x.contract(0, -1, 0)), x -> x.count(7), 4);
        refused("returned, with a fault", rich(), x -> x.contract(2, 0, 0), NOT);
        refused("returned, with an empty tape", rich().then(x -> x.law(0)), x -> x.contract(2, 0, 0), NOT);
        refused("bad day, with a fault", rich(), x -> x.contract(1, 10000, 0), BAD);
    }

    /** Plane 0 needs a part of kind 0, and has it; the part has one gap. */
    private static Scene gapOn() {
        return start().then(x -> x.kind(100, 100, 100, 0), x -> x.plane(0), x -> x.need(0, 0, 1))
            .then(x -> x.part(0, 1, 0, 0, 0), x -> x.move(0, 0));
    }

    private void contractsInPlace() {
        promise(24, "-100 less its FAULT (the earlier one stays)");
        Scene s = gapOn().contract("g 5;m 6;", 0, 7, 8);
        Scene fault = s.contract("g 1;m 2;o 3;x", 0, 9, 10);
        due("a fault", s.feed("g 1;m 2;o 3;x"), x -> x.contract(0, 9, 10), -112);
        for (Scene same : new Scene[] {s, fault}) {
            due("its return day", same, x -> x.ofPlane(0, 7), 7);
            due("its rent", same, x -> x.ofPlane(0, 8), 8);
            due("its first line", same, x -> x.costs(0, 0, 0, 0), 5);
            due("its last line", same, x -> x.costs(0, 1, 0, 0), 0);
            due("no third line", same, x -> x.costs(0, 2, 0, 0), VOID);
        }
        Scene other = s.contract("o 1;", 0, 3, 4);
        due("in its place: return day", other, x -> x.ofPlane(0, 7), 3);
        due("in its place: rent", other, x -> x.ofPlane(0, 8), 4);
        due("in its place: its line", other, x -> x.costs(0, 0, 0, 0), 0);
        due("in its place: no second line", other, x -> x.costs(0, 1, 0, 0), VOID);
        Scene longer = gapOn().contract("g 5;".repeat(30), 0, 0, 0);
        due("30 lines together", longer, x -> x.costs(0, -1, 0, 0), 150);
        due("fewer lines in their place", longer.contract("g 1;".repeat(29), 0, 0, 0), x -> x.costs(0, -1, 0, 0), 29);
        due("one line in their place", longer.contract("g 1;", 0, 0, 0), x -> x.costs(0, -1, 0, 0), 1);
        due("a fault without an earlier one", gapOn().contract("x", 0, 3, 4), x -> x.ofPlane(0, 7), -1);
        due("an empty tape", s, x -> x.contract(0, 3, 4), -100);
        due("an empty tape leaves it", s.then(x -> x.contract(0, 3, 4)), x -> x.ofPlane(0, 7), 7);
        due("of another plane", s.then(x -> x.plane(0)).contract("o 1;", 1, 3, 4), x -> x.ofPlane(0, 7), 7);
    }

    private void contractsEmptyTheTape() {
        promise(24, "THE TAPE is empty then.");
        due("of a contract", gapOn().contract("g 1;", 0, 0, 0), x -> x.count(7), 0);
        due("of a fault", gapOn().contract("g 1;x", 0, 0, 0), x -> x.count(7), 0);
        due("the next text alone", gapOn().contract("g 1;x", 0, 0, 0).feed("m 1;"), x -> x.contract(0, 0, 0), 1);
        due("a law's text is none of a contract's", gapOn().contract("g 1;", 0, 0, 0).feed("7"), x -> x.law(0), 0);
    }

    private void contractsRent() {
        terms("RENT (0 .. 99999 a DAY)");
        for (int rent : new int[] {0, 1, 99998, 99999}) {
            Scene s = gapOn().contract("t 99999 0;", 0, 0, rent);
            due("rent " + rent, s, x -> x.ofPlane(0, 8), rent);
            due("a day late", s, x -> x.costs(0, 0, 1, 0), rent);
        }
        for (int day : new int[] {0, 1, 9998, 9999}) {
            due("return day " + day, gapOn().contract("g 1;", 0, day, 0), x -> x.ofPlane(0, 7), day);
        }
    }

    private void fault(String text, int place) {
        due("fault of " + text, gapOn().feed(text), x -> x.contract(0, 0, 0), -100 - place);
    }

    private void good(String text, int lines) {
        due("contract " + text, gapOn().feed(text), x -> x.contract(0, 0, 0), lines);
    }

    private void contractsLines() {
        promise(24, "THE TAPE becomes the CONTRACT of a PLANE (in place of an earlier one): how many LINES");
        for (int lines : new int[] {1, 2, 29, 30}) {
            Scene s = gapOn().contract("o 1;o 2;", 0, 0, 0).feed("g 1;".repeat(lines));
            due(lines + " lines", s, x -> x.contract(0, 0, 0), lines);
            within("line of " + lines, s.then(x -> x.contract(0, 0, 0)), v -> x -> x.lacks(0, v, 0, 0), 0, lines - 1, 1,
                BAD);
        }
    }

    private void linesOneOrMore() {
        terms("LINES, one or more, each ended by ;");
        fault("", 0);
        fault(";", 0);
        fault("g 1", 3);
        good("g 1;", 1);
        fault("g 1;;", 4);
        fault("g 1;g 1", 7);
        good("g 1;g 1;", 2);
        fault("g 1:", 3);
        fault("g 1,", 3);
        good("m 1;".repeat(29), 29);
        good("m 1;".repeat(30), 30);
        due("the 30th line", gapOn().contract("m 1;".repeat(29) + "g 7;", 0, 0, 0), x -> x.costs(0, 29, 0, 0), 7);
        due("no 31st line", gapOn().contract("m 1;".repeat(30), 0, 0, 0), x -> x.lacks(0, 30, 0, 0), BAD);
        fault("m 1;".repeat(29) + "m 12", 120);
        fault("m 1;".repeat(29) + "m 1:", 119);
        fault("m 1;".repeat(29) + "x 1;", 116);
    }

    private void linesLetters() {
        terms("Letters, numbers (1 to 5 digits), one blank between each two.");
        good("h 0 1 2;", 1);
        good("l 0 1 2;", 1);
        good("d 0 1 2;", 1);
        good("g 1;", 1);
        good("o 1;", 1);
        good("m 1;", 1);
        good("t 1 2;", 1);
        for (char sign = 33; sign < 127; sign++) {
            int place = "hld".indexOf(sign) >= 0 || sign == 't' ? 3 : "gom".indexOf(sign) >= 0 ? -1 : 0;
            if (place >= 0) {
                fault(sign + " 1;", place);
            }
        }
        fault("hh 1 2 3;", 1);
        fault("h 1 2;", 5);
        fault("h 1 2 3 4;", 7);
        fault("l 1;", 3);
        fault("d 1 2;", 5);
        fault("t 1;", 3);
        fault("t 1 2 3;", 5);
        fault("g 1 2;", 3);
        fault("o;", 1);
        fault("m 1 2;", 3);
    }

    private void linesNumbers() {
        terms("numbers (1 to 5 digits)");
        fault("g ;", 2);
        good("g 0;", 1);
        good("g 12345;", 1);
        good("g 99999;", 1);
        good("g 00000;", 1);
        fault("g 123456;", 7);
        fault("g 000000;", 7);
        fault("g -1;", 2);
        fault("g +1;", 2);
        fault("g x;", 2);
        fault("g 1x;", 3);
        fault("t 12345 123456;", 13);
        fault("h 123456 1 1;", 7);
        fault("h 1 123456 1;", 9);
        fault("h 1 1 123456;", 11);
        good("h 12345 12345 12345;", 1);
        due("99999 coins a gap", gapOn().contract("g 99999;", 0, 0, 0), x -> x.costs(0, 0, 0, 0), 99999);
        due("1 coin a gap", gapOn().contract("g 00001;", 0, 0, 0), x -> x.costs(0, 0, 0, 0), 1);
        due("0 coins a gap", gapOn().contract("g 0;", 0, 0, 0), x -> x.costs(0, 0, 0, 0), 0);
    }

    private void linesBlanks() {
        terms("one blank between each two.");
        fault(" g 1;", 0);
        fault("g1;", 1);
        fault("g  1;", 2);
        fault("g 1 ;", 3);
        fault("g 1; m 1;", 4);
        fault("g 1; ", 4);
        fault("g\t1;", 1);
        fault("g 1;\n", 4);
        fault("t 1  2;", 4);
        fault("t 1,2;", 3);
        fault("h 1 2  3;", 6);
        fault("g", 1);
        fault("g ", 2);
        fault("t 1 ", 4);
    }

    private void lacks() {
        promise(25, "Units that lack by LINE i, on a DAY, AS KNOWN on DAY k. BAD: also no CONTRACT.");
        Scene s = rich();
        int[] units = {50, 2, 7};
        within("line", s, v -> x -> x.lacks(0, v, 9, 2), 0, 2, v -> units[v], BAD);
        within("day", s, v -> x -> x.lacks(0, 2, v, 4), 0, 9999, v -> Math.max(0, v - 2), BAD);
        within("known day", s, v -> x -> x.lacks(0, 1, 0, v), 0, 9999, 2, BAD);
        for (int plane : new int[] {MIN, -1, 3, MAX}) {
            refused("plane " + plane, s, x -> x.lacks(plane, 0, 0, 0), BAD);
        }
        refused("no contract", s, x -> x.lacks(1, 0, 0, 0), BAD);
        due("of a returned one", s, x -> x.lacks(2, 0, 0, 0), 0);
    }

    private void costs() {
        promise(26, "What LINE i costs (i -1: all together) likewise. VOID: BAD.");
        Scene s = rich();
        int[] cost = {250 + 6 + 200 + 5 * 50, 250, 6, 200 + 5 * 50};
        within("line", s, v -> x -> x.costs(0, v, 9, 2), -1, 2, v -> cost[v + 1], VOID);
        for (int i = -1; i <= 2; i++) {
            int line = i;
            due("line " + i, s, x -> x.costs(0, line, 9, 2), cost[i + 1]);
            within("day of line " + i, s, v -> x -> Math.min(0, x.costs(0, line, v, 4)), 0, 9999, 0, VOID);
            within("known day of line " + i, s, v -> x -> Math.min(0, x.costs(0, line, 0, v)), 0, 9999, 0, VOID);
            refused("no contract, line " + i, s, x -> x.costs(1, line, 0, 0), VOID);
            for (int plane : new int[] {MIN, -1, 3, MAX}) {
                refused("plane " + plane + ", line " + i, s, x -> x.costs(plane, line, 0, 0), VOID);
            }
        }
        due("of a returned one", s, x -> x.costs(2, -1, 0, 0), 0);
    }

    private void hoursLandingsDays() {
        terms("of each part of KIND k on it HOURS LEFT must be n at least: each unit that lacks costs c; l k n c,"
            + " d k n c likewise");
        String[] letters = {"h", "l", "d"};
        for (int measure = 0; measure < 3; measure++) {
            String letter = letters[measure];
            for (int left = -1; left <= 101; left += left == 1 ? 48 : left == 51 ? 48 : 1) {
                int[] used = {0, 0, 0};
                used[measure] = 100 - left;
                if (left > 100) {
                    continue;
                }
                Scene s = start().then(x -> x.kind(100, 100, 100, 0), x -> x.plane(0), x -> x.need(0, 0, 1))
                    .then(x -> x.part(0, 1, used[0], used[1], used[2]), x -> x.move(0, 0))
                    .contract(letter + " 0 50 3;" + letter + " 0 0 7;" + letter + " 0 99999 1;", 0, 0, 0);
                due(letter + " 50 with " + left, s, x -> x.lacks(0, 0, 0, 0), Math.max(0, 50 - left));
                due(letter + " 50 costs with " + left, s, x -> x.costs(0, 0, 0, 0), 3 * Math.max(0, 50 - left));
                due(letter + " 0 with " + left, s, x -> x.lacks(0, 1, 0, 0), Math.max(0, -left));
                due(letter + " 99999 with " + left, s, x -> x.lacks(0, 2, 0, 0), 99999 - left);
            }
        }
    }

    private void noSuchKindOrLimit() {
        terms("together (0, if there is no such KIND, or it has no such LIMIT)");
        Scene s = start().then(x -> x.plane(0))
            .then(x -> x.kind(1, 0, 0, 0), x -> x.kind(0, 1, 0, 0), x -> x.kind(0, 0, 1, 0))
            .times(3, i -> x -> x.need(0, i, 1)).times(3, i -> x -> x.part(i, 1, 500, 500, 500))
            .times(3, i -> x -> x.move(i, 0));
        String[] letters = {"h", "l", "d"};
        for (int m = 0; m < 3; m++) {
            String letter = letters[m];
            int measure = m;
            Scene by = s.contract(letter + " 0 9 1;" + letter + " 1 9 1;" + letter + " 2 9 1;" + letter + " 3 9 1;"
                + letter + " 9 9 1;" + letter + " 10 9 1;" + letter + " 99999 9 1;", 0, 0, 0);
            for (int line = 0; line < 7; line++) {
                int i = line;
                due(letter + " of line " + i, by, x -> x.lacks(0, i, 0, 0), i == measure ? 508 : 0);
                due(letter + " costs of line " + i, by, x -> x.costs(0, i, 0, 0), i == measure ? 508 : 0);
            }
            Scene later = by.then(x -> x.kind(1, 1, 1, 0), x -> x.need(0, 3, 1), x -> x.part(3, 1, 0, 0, 0));
            due(letter + " of a kind that came later, no part on it", later, x -> x.lacks(0, 3, 0, 0), 0);
            due(letter + " of a kind that came later", later.then(x -> x.move(3, 0)), x -> x.lacks(0, 3, 0, 0), 8);
        }
    }

    private void noLimitLacksNothing() {
        terms("(A KIND without that LIMIT lacks nothing by its LINE.)");
        for (int limit : new int[] {0, 1}) {
            Scene s = start().then(x -> x.kind(limit, limit, limit, 0), x -> x.plane(0), x -> x.need(0, 0, 1))
                .then(x -> x.part(0, 1, 99999, 99999, 99999), x -> x.move(0, 0))
                .contract("h 0 99999 1;l 0 99999 1;d 0 99999 1;", 0, 0, 0);
            for (int line = 0; line < 3; line++) {
                int i = line, lack = limit == 0 ? 0 : 99999 + 99998;
                due("units of line " + i + " by a limit of " + limit, s, x -> x.lacks(0, i, 0, 0), lack);
                due("cost of line " + i + " by a limit of " + limit, s, x -> x.costs(0, i, 0, 0), lack);
            }
        }
    }

    private void coinsOfEach() {
        terms("g c: each GAP of parts on it costs c; o c: each ORDER of it that is not done costs c;"
            + " m c: each part that it needs and is missing costs c");
        Scene s = start().then(x -> x.kind(0, 0, 0, 0), x -> x.plane(0), x -> x.need(0, 0, 3))
            .times(3, i -> x -> x.part(0, 1 + i, 0, 0, 0));
        for (int coins : new int[] {0, 1, 99998, 99999}) {
            Scene by = s.contract("g " + coins + ";o " + coins + ";m " + coins + ";", 0, 0, 0);
            for (int n = 0; n <= 3; n++) {
                int some = n;
                Scene then = by.times(some, i -> x -> x.move(i, 0)).times(some, i -> x -> x.order(0, 0));
                due(n + " gaps at " + coins, then, x -> x.costs(0, 0, 0, 0), some * coins);
                due(n + " orders at " + coins, then, x -> x.costs(0, 1, 0, 0), some * coins);
                due((3 - n) + " missing at " + coins, then, x -> x.costs(0, 2, 0, 0), (3 - some) * coins);
                due(n + " together at " + coins, then, x -> x.costs(0, -1, 0, 0), (3 + some) * coins);
            }
        }
    }

    private void partsTogether() {
        terms("of h l d: of each part of that KIND on it n less LEFT, if that is above 0, together");
        Scene s = start().then(x -> x.kind(100, 0, 0, 0), x -> x.kind(100, 0, 0, 0), x -> x.plane(0), x -> x.plane(0))
            .then(x -> x.need(0, 0, 3), x -> x.need(0, 1, 1), x -> x.need(1, 0, 1))
            .then(x -> x.part(0, 1, 51, 0, 0), x -> x.part(0, 2, 50, 0, 0), x -> x.part(0, 3, 49, 0, 0))
            .then(x -> x.part(0, 4, 99, 0, 0), x -> x.part(0, 5, 99, 0, 0), x -> x.part(1, 1, 99, 0, 0))
            .then(x -> x.move(0, 0), x -> x.move(1, 0), x -> x.move(4, 1), x -> x.move(5, 0))
            .contract("h 0 50 1;h 0 52 1;", 0, 0, 0);
        due("one lacks one", s, x -> x.lacks(0, 0, 0, 0), 1);
        due("both lack", s, x -> x.lacks(0, 1, 0, 0), 3 + 2);
        Scene three = s.then(x -> x.move(2, 0));
        due("one has one more than it must", three, x -> x.lacks(0, 0, 0, 0), 1);
        due("all three lack", three, x -> x.lacks(0, 1, 0, 0), 3 + 2 + 1);
    }

    private void gaps() {
        terms("of g: GAPS of all parts on it");
        Scene s = start().then(x -> x.kind(0, 0, 0, 0), x -> x.kind(0, 0, 0, 0), x -> x.plane(0), x -> x.plane(0))
            .then(x -> x.need(0, 0, 1), x -> x.need(0, 1, 1), x -> x.need(1, 0, 1)).contract("g 7;", 0, 0, 0)
            .then(x -> x.part(0, 1, 0, 0, 0), x -> x.part(1, 2, 0, 0, 0), x -> x.part(0, 3, 0, 0, 0));
        due("no part", s, x -> x.lacks(0, 0, 0, 0), 0);
        due("one gap", s.then(x -> x.move(0, 0)), x -> x.lacks(0, 0, 0, 0), 1);
        due("a paper", s.then(x -> x.move(0, 0), x -> x.paper(0, 0, 1)), x -> x.lacks(0, 0, 0, 0), 0);
        due("of both", s.then(x -> x.move(0, 0), x -> x.move(1, 10), x -> x.move(1, 0)), x -> x.lacks(0, 0, 0, 0), 3);
        due("a past one", s.then(x -> x.move(0, 0)).past(0, 1, -1, 0, 0, 0, 0, 0), x -> x.lacks(0, 0, 0, 0), 2);
        due("of another plane", s.then(x -> x.move(2, 1)), x -> x.lacks(0, 0, 0, 0), 0);
        due("what they cost", s.then(x -> x.move(0, 0), x -> x.move(1, 0)), x -> x.costs(0, 0, 0, 0), 14);
    }

    private void orders() {
        terms("of o: ORDERS of KINDS that it needs, not DONE");
        Scene s = gapOn().then(x -> x.kind(0, 0, 0, 0)).contract("o 7;", 0, 0, 0);
        due("none", s, x -> x.lacks(0, 0, 0, 0), 0);
        for (int day : new int[] {0, 1, 9999}) {
            due("up to day " + day, s.then(x -> x.order(0, day)), x -> x.lacks(0, 0, 0, 0), 1);
            due("done", s.then(x -> x.order(0, day), x -> x.done(0, 0)), x -> x.lacks(0, 0, 0, 0), 0);
            due("of another kind", s.then(x -> x.order(1, day)), x -> x.lacks(0, 0, 0, 0), 0);
        }
        Scene most = s.times(20, i -> x -> x.order(0, i));
        due("twenty", most, x -> x.lacks(0, 0, 0, 0), 20);
        due("what they cost", most, x -> x.costs(0, 0, 0, 0), 140);
        due("one is done", most.then(x -> x.done(19, 0)), x -> x.lacks(0, 0, 0, 0), 19);
    }

    private void missing() {
        terms("of m: parts of all KINDS that are missing");
        Scene s = start().times(10, i -> x -> x.kind(0, 0, 0, 0)).then(x -> x.plane(0)).contract("m 7;", 0, 0, 0);
        due("it needs none", s, x -> x.lacks(0, 0, 0, 0), 0);
        Scene most = s.times(10, i -> x -> x.need(0, i, 3));
        due("thirty", most, x -> x.lacks(0, 0, 0, 0), 30);
        Scene some = most.times(30, i -> x -> x.part(i / 3, 1 + i, 0, 0, 0)).times(29, i -> x -> x.move(i, 0));
        due("one", some, x -> x.lacks(0, 0, 0, 0), 1);
        due("what it costs", some, x -> x.costs(0, 0, 0, 0), 7);
        due("none", some.then(x -> x.move(29, 0)), x -> x.lacks(0, 0, 0, 0), 0);
        due("two", some.then(x -> x.move(0, 10)), x -> x.lacks(0, 0, 0, 0), 2);
    }

    private void lateDays() {
        terms("(LATE: DAYS behind the RETURN DAY; not below 0)");
        for (int back : new int[] {0, 10, 9999}) {
            Scene s = gapOn().contract("t 1 100;", 0, back, 10);
            for (int day : new int[] {0, 9, 10, 11, 12, 9998, 9999}) {
                int late = Math.max(0, day - back);
                due("day " + day + " of " + back, s, x -> x.lacks(0, 0, day, 0), late);
                due("costs of day " + day + " of " + back, s, x -> x.costs(0, 0, day, 0), 10 * late);
            }
        }
    }

    private void lateUpToTheLast() {
        terms("t a b: each late DAY up to the a-th costs RENT, each one behind that b hundredths of RENT");
        for (int a : new int[] {0, 1, 2, 5, 99999}) {
            for (int b : new int[] {0, 1, 99, 100, 101, 99999}) {
                Scene s = gapOn().contract("t " + a + " " + b + ";", 0, 10, 1000);
                for (int late : new int[] {0, 1, 2, 3, 4, 5, 6}) {
                    int full = Math.min(a, late), more = late - full;
                    due("t " + a + " " + b + " " + late + " days late", s, x -> x.costs(0, 0, 10 + late, 0),
                        1000L * full + 10L * b * more);
                }
            }
        }
    }

    private void lateRestAway() {
        terms("(the rest away of each)");
        int[][] rents = {{0, 99, 0}, {1, 99, 0}, {1, 100, 1}, {1, 199, 1}, {1, 200, 2}, {99, 1, 0}, {100, 1, 1},
            {101, 50, 50}, {199, 1, 1}, {99999, 99, 98999}, {99999, 99999, 99998000}};
        for (int[] r : rents) {
            Scene s = gapOn().contract("t 0 " + r[1] + ";", 0, 0, r[0]);
            due("one day of " + r[0], s, x -> x.costs(0, 0, 1, 0), r[2]);
            due("three days of " + r[0], s, x -> x.costs(0, 0, 3, 0), 3L * r[2]);
        }
    }

    /** A part of 99999 hours with nothing left: h 0 n c costs n times c. */
    private static Scene nothingLeft() {
        return start().then(x -> x.kind(99999, 0, 0, 0), x -> x.plane(0), x -> x.need(0, 0, 1))
            .then(x -> x.part(0, 1, 99999, 0, 0), x -> x.move(0, 0));
    }

    private void heldLines() {
        terms("What a LINE costs is its units times c (of t as told), held at 2000000000");
        // The products around 2 and 4 times the greatest int are those that would wrap.
        int[][] lines = {{39999, 50000, 1999950000}, {40000, 50000, HELD}, {40001, 50000, HELD},
            {20000, 99999, 1999980000}, {20001, 99999, HELD}, {21474, 99999, HELD}, {21475, 99999, HELD},
            {42949, 99999, HELD}, {42950, 99999, HELD},
            {65536, 65536, HELD}, {99999, 99999, HELD}, {99999, 1, 99999}, {99999, 0, 0}, {0, 99999, 0}};
        for (int[] line : lines) {
            Scene s = nothingLeft().contract("h 0 " + line[0] + " " + line[1] + ";", 0, 0, 0);
            due(line[0] + " times " + line[1], s, x -> x.costs(0, 0, 0, 0), line[2]);
            due(line[0] + " times " + line[1] + " together", s, x -> x.costs(0, -1, 0, 0), line[2]);
            due(line[0] + " times " + line[1] + " given back", s, x -> x.giveBack(0), line[2]);
            due(line[0] + " units", s, x -> x.lacks(0, 0, 0, 0), line[0]);
        }
        Scene late = gapOn().contract("t 0 99999;t 2 50000;t 99999 0;", 0, 0, 99999);
        due("20 days", late, x -> x.costs(0, 0, 20, 0), 20 * 99998000);
        due("21 days", late, x -> x.costs(0, 0, 21, 0), HELD);
        due("9999 days", late, x -> x.costs(0, 0, 9999, 0), HELD);
        due("41 days behind the second", late, x -> x.costs(0, 1, 41, 0), 2 * 99999 + 39 * 49999500);
        due("42 days", late, x -> x.costs(0, 1, 42, 0), HELD);
        due("9999 days at rent", late, x -> x.costs(0, 2, 9999, 0), 9999 * 99999);
    }

    private void heldTogether() {
        promise(26, "(Held at 2000000000.)");
        for (int more = -1; more <= 1; more++) {
            int second = 50000 + more;
            Scene s = nothingLeft().contract("h 0 39999 50000;h 0 1 " + second + ";", 0, 0, 0);
            long want = Math.min(HELD, 1999950000L + second);
            due("together " + second, s, x -> x.costs(0, -1, 0, 0), want);
            due("given back " + second, s, x -> x.giveBack(0), want);
            due("kept " + second, s.then(x -> x.giveBack(0)), x -> x.ofPlane(0, 5), want);
        }
        Scene most = nothingLeft().contract("h 0 99999 99999;".repeat(7), 0, 0, 0);
        due("seven held lines", most, x -> x.costs(0, -1, 0, 0), HELD);
        due("two held lines", nothingLeft().contract("h 0 99999 99999;".repeat(2), 0, 0, 0),
            x -> x.costs(0, -1, 0, 0), HELD);
    }

    private void judgedAsKnown() {
        terms("JUDGED on a DAY AS KNOWN on DAY k");
        Scene s = gapOn().then(x -> x.days(3)).law("30", 0).contract("h 0 90 2;t 9 0;", 0, 2, 5);
        for (int k : new int[] {0, 2, 3, 4, 9999}) {
            due("as known on " + k, s, x -> x.lacks(0, 0, 0, k), k < 3 ? 0 : 20);
            due("costs as known on " + k, s, x -> x.costs(0, -1, 4, k), k < 3 ? 10 : 50);
        }
        for (int day : new int[] {0, 9999}) {
            due("hours whatever day " + day, s, x -> x.lacks(0, 0, day, 3), 20);
        }
        due("given back as known today", s, x -> x.giveBack(0), 40 + 5);
    }

    private void givenBackToday() {
        promise(27, "RETURNED TODAY: what it costs AS KNOWN TODAY.");
        Scene s = gapOn().contract("t 0 100;h 0 100 2;", 0, 3, 10).then(x -> x.days(2)).law("20", 0);
        for (int more = 0; more <= 3; more++) {
            int late = Math.max(0, more - 1);
            Scene then = more == 0 ? s : s.times(more, i -> x -> x.days(1));
            due(late + " days late", then, x -> x.giveBack(0), 40 + 10 * late);
            due("the day of that", then.then(x -> x.giveBack(0)), x -> x.ofPlane(0, 6), 2 + more);
        }
        Scene last = gapOn().contract("t 0 100;", 0, 9999, 10).times(24, i -> x -> x.days(400)).then(x -> x.days(399));
        due("on the last day of all", last, x -> x.giveBack(0), 0);
        due("which is kept", last.then(x -> x.giveBack(0)), x -> x.ofPlane(0, 6), 9999);
    }

    private void givenBack() {
        promise(27, "BAD; NOT: it is, or has no CONTRACT; FULL never.");
        Scene s = rich();
        for (int plane : new int[] {MIN, -1, 3, MAX}) {
            refused("plane " + plane, s, x -> x.giveBack(plane), BAD);
        }
        refused("it is", s, x -> x.giveBack(2), NOT);
        refused("no contract", s, x -> x.giveBack(1), NOT);
        refused("no contract but a fault", gapOn().contract("x", 0, 0, 0), x -> x.giveBack(0), NOT);
        due("a contract", gapOn().contract("g 3;", 0, 0, 0), x -> x.giveBack(0), 3);
        refused("twice", gapOn().contract("g 3;", 0, 0, 0).then(x -> x.giveBack(0)), x -> x.giveBack(0), NOT);
        due("it costs nothing", gapOn().contract("g 0;", 0, 0, 0), x -> x.giveBack(0), 0);
        refused("twice, it cost nothing", gapOn().contract("g 0;", 0, 0, 0).then(x -> x.giveBack(0)),
            x -> x.giveBack(0), NOT);
    }

    private void givenBackFullNever() {
        promise(27, "FULL never.");
        Scene full = oddStays(499).then(x -> x.move(1, 10)).contract("g 1;", 0, 0, 0);
        due("500 stays", full, x -> x.count(6), 500);
        due("it costs", full, x -> x.giveBack(0), 249);
        Scene back = full.then(x -> x.giveBack(0));
        due("500 stays still", back, x -> x.count(6), 500);
        due("its stay ended", back, x -> x.stay(0, 249, 2), 0);
        due("gone", back, x -> x.ofPart(0, 2), 12);
        due("stays of it", back, x -> x.ofPart(0, 6), 250);
    }

    private void returnedWithItsParts() {
        terms("RETURNED: on a DAY, with its parts (they are GONE, with their STAYS' ends): what it costs is kept.");
        Scene s = rich().then(x -> x.giveBack(0), x -> x.days(2));
        int[] places = {12, 10, 12, 11, 12};
        for (int part = 0; part < 5; part++) {
            int p = part;
            due("place of " + p, s, x -> x.ofPart(p, 2), places[p]);
        }
        due("the end of a stay", s, x -> x.stay(0, 2, 2), 4);
        due("hours at the end of a stay", s, x -> x.stay(0, 2, 4), 150);
        due("no stay more", s, x -> x.ofPart(0, 6), 3);
        due("a gap more", s, x -> x.ofPart(0, 7), 3);
        due("the day", s, x -> x.ofPlane(0, 6), 4);
        due("state", s, x -> x.ofPlane(0, 2), 1);
        due("no part on it", s, x -> x.ofPlane(0, 3), 0);
        due("two are returned", s, x -> x.count(11), 2);
        int kept = rich().made().costs(0, -1, 4, 4);
        due("what it cost", s, x -> x.ofPlane(0, 5), kept);
        due("it stays so", s.law("100", 0).then(x -> x.days(400)), x -> x.ofPlane(0, 5), kept);
        due("of the other's part in store: not gone", s, x -> x.ofPart(3, 2), 11);
    }

    private void bestRefused() {
        promise(28, "BAD; NOT: no CONTRACT, RETURNED, or it needs none; BIG.");
        Scene s = rich();
        within("plane", s, v -> x -> x.best(v, 0), 0, 2, v -> v == 0 ? 3 : NOT, BAD);
        within("kind", s, v -> x -> x.best(0, v), 0, 2, v -> v == 0 ? 3 : v == 1 ? 1 : NOT, BAD);
        refused("no contract", s, x -> x.best(1, 0), NOT);
        refused("returned", s, x -> x.best(2, 2), NOT);
        refused("it needs none", s, x -> x.best(0, 2), NOT);
        refused("returned and needs none", s, x -> x.best(2, 0), NOT);
        Scene nine = s.times(9, i -> x -> x.part(0, 30 + i, 0, 0, 0)).times(9, i -> x -> x.part(2, 30 + i, 0, 0, 0));
        refused("too many", nine, x -> x.best(0, 0), BIG);
        refused("no contract ahead of too many", nine, x -> x.best(1, 0), NOT);
        refused("returned ahead of too many", nine, x -> x.best(2, 2), NOT);
        refused("needs none ahead of too many", nine, x -> x.best(0, 2), NOT);
        refused("no such plane ahead of too many", nine, x -> x.best(3, 0), BAD);
        refused("no such kind ahead of all", nine, x -> x.best(2, 3), BAD);
    }

    /** Plane 0 needs so many of kind 0, and there are parts of it in store with these hours used, of 1000. */
    private static Scene stored(int need, int... used) {
        return start().then(x -> x.kind(1000, 0, 0, 0), x -> x.plane(0), x -> x.plane(0), x -> x.need(0, 0, need))
            .times(used.length, i -> x -> x.part(0, 1 + i, used[i], 0, 0))
            .contract("h 0 1000 1;", 0, 0, 0);
    }

    private void bestOfEight() {
        terms("of the parts of this KIND on it, and in STORE (8 together at most, else BIG)");
        for (int on = 0; on <= 3; on++) {
            int moved = on;
            Scene seven = stored(3, 9, 8, 7, 6, 5, 4, 3).times(moved, i -> x -> x.move(i, 0));
            Scene eight = stored(3, 9, 8, 7, 6, 5, 4, 3, 2).times(moved, i -> x -> x.move(i, 0));
            Scene nine = stored(3, 9, 8, 7, 6, 5, 4, 3, 2, 1).times(moved, i -> x -> x.move(i, 0));
            due("seven, on it " + on, seven, x -> x.best(0, 0), 0b1110000);
            due("eight, on it " + on, eight, x -> x.best(0, 0), 0b11100000);
            refused("nine, on it " + on, nine, x -> x.best(0, 0), BIG);
            refused("nine of which the last found are kept", nine.then(x -> x.move(8, 10), x -> x.best(0, 0),
                x -> x.move(8, 11)), x -> x.best(0, 0), BIG);
        }
        Scene ten = stored(3, 9, 8, 7, 6, 5, 4, 3, 2, 1, 0);
        Scene away = ten.then(x -> x.need(1, 0, 1), x -> x.move(9, 1), x -> x.move(8, 10));
        due("one in a shop, one on another plane", away, x -> x.best(0, 0), 0b11100000);
        Scene other = away.then(x -> x.kind(0, 0, 0, 0), x -> x.part(1, 1, 0, 0, 0));
        due("another kind is not counted", other, x -> x.best(0, 0), 0b11100000);
    }

    private void bestAsManyAsItNeeds() {
        terms("as many as it needs (or all there are)");
        int[] used = {5, 3, 4, 1, 2};
        int[] bits = {0, 0b01000, 0b11000, 0b11010};
        for (int need = 1; need <= 3; need++) {
            due("needs " + need, stored(need, used), x -> x.best(0, 0), bits[need]);
            due("needs " + need + ", one there is", stored(need, 7), x -> x.best(0, 0), 1);
            due("needs " + need + ", two there are", stored(need, 7, 6), x -> x.best(0, 0), need == 1 ? 2 : 3);
            due("needs " + need + ", three there are", stored(need, 7, 6, 5), x -> x.best(0, 0),
                need == 1 ? 4 : need == 2 ? 6 : 7);
            due("needs " + need + ", none there is", stored(need), x -> x.best(0, 0), 0);
        }
        // More are always taken, though they cost more than those that would be missing.
        Scene dear = stored(2, 0, 999).contract("h 0 1000 9;m 1;", 0, 0, 0);
        due("as many as it needs, though that costs more", dear, x -> x.best(0, 0), 3);
        due("what that costs", dear.then(x -> x.best(0, 0)), x -> x.bestCost(), 999 * 9);
    }

    private void bestOfSeveral() {
        terms("of several with the fewest that are not on it now");
        Scene same = stored(2, 5, 5, 5, 5);
        due("the one on it", same.then(x -> x.move(3, 0)), x -> x.best(0, 0), 0b1001);
        due("the two on it", same.then(x -> x.move(3, 0), x -> x.move(2, 0)), x -> x.best(0, 0), 0b1100);
        due("the cheaper ones, though not on it", stored(2, 5, 5, 4, 4).then(x -> x.move(0, 0), x -> x.move(1, 0)),
            x -> x.best(0, 0), 0b1100);
        due("one coin less", stored(1, 5, 4).then(x -> x.move(0, 0)), x -> x.best(0, 0), 0b10);
        due("the same", stored(1, 4, 4).then(x -> x.move(1, 0)), x -> x.best(0, 0), 0b10);
    }

    private void bestFirst() {
        terms("of several the first (by rising numbers).");
        due("two of four", stored(2, 5, 5, 5, 5), x -> x.best(0, 0), 0b0011);
        due("three of eight", stored(3, 5, 5, 5, 5, 5, 5, 5, 5), x -> x.best(0, 0), 0b111);
        due("the dear ones come first", stored(2, 9, 5, 9, 5, 5), x -> x.best(0, 0), 0b01010);
        due("one cheap, and the first of the others", stored(2, 9, 9, 9, 5), x -> x.best(0, 0), 0b1001);
        due("one on it, and the first of the others", stored(3, 5, 5, 5, 5, 5).then(x -> x.move(4, 0)),
            x -> x.best(0, 0), 0b10011);
    }

    private void bestHeld() {
        terms("those with which it would cost least to give it back TODAY, AS KNOWN TODAY (all else as it is)");
        Scene held = stored(2, 999, 998, 997, 996).contract("h 0 99999 99999;", 0, 0, 0);
        due("all are held: the first", held, x -> x.best(0, 0), 0b0011);
        due("what they cost", held.then(x -> x.best(0, 0)), x -> x.bestCost(), HELD);
        due("all are held: those on it", held.then(x -> x.move(3, 0), x -> x.move(2, 0)), x -> x.best(0, 0), 0b1100);
        due("all are held: the one on it", held.then(x -> x.move(3, 0)), x -> x.best(0, 0), 0b1001);
        Scene late = stored(1, 5, 4).contract("h 0 1000 1;t 0 100;", 0, 0, 9).then(x -> x.days(2), x -> x.best(0, 0));
        due("with late days up to today", late, x -> x.bestCost(), 4 + 18);
        Scene known = stored(1, 5, 4).past(1, 11, -1, 0, 0, 0, 0, 0).law("10", 0);
        due("by the law as known today", known, x -> x.best(0, 0), 1);
    }

    private void bestGaps() {
        terms("(GAPS: a STAY that would end by it has no PAPER: it is not counted.)");
        Scene s = stored(1, 0, 0).contract("g 5;", 0, 0, 0);
        due("those in store have none", s.then(x -> x.best(0, 0)), x -> x.bestCost(), 0);
        due("the one on it has one", s.then(x -> x.move(0, 0)), x -> x.best(0, 0), 2);
        due("which costs nothing", s.then(x -> x.move(0, 0), x -> x.best(0, 0)), x -> x.bestCost(), 0);
        Scene past = s.then(x -> x.move(0, 0)).past(1, 11, -1, 0, 0, 0, 0, 0);
        due("both have one", past, x -> x.best(0, 0), 1);
        due("which costs", past.then(x -> x.best(0, 0)), x -> x.bestCost(), 5);
    }

    private void bestBits() {
        promise(28, "BEST PARTS: as bits of their places in the row of those there are (by numbers).");
        Scene s = stored(1, 9, 8, 7, 6, 5, 4, 3, 2, 1);
        due("the last of eight", s.then(x -> x.move(0, 10)), x -> x.best(0, 0), 128);
        due("the last of seven", s.then(x -> x.move(0, 10), x -> x.move(5, 10)), x -> x.best(0, 0), 64);
        Scene two = start().then(x -> x.kind(100, 0, 0, 0), x -> x.kind(0, 0, 0, 0), x -> x.plane(0))
            .then(x -> x.need(0, 0, 1), x -> x.part(1, 1, 0, 0, 0), x -> x.part(0, 1, 9, 0, 0))
            .then(x -> x.part(1, 2, 0, 0, 0), x -> x.part(0, 2, 8, 0, 0)).contract("h 0 100 1;", 0, 0, 0);
        due("another kind between them", two, x -> x.best(0, 0), 2);
        Scene asked = s.then(x -> x.move(0, 10), x -> x.best(0, 0));
        due("nothing is moved", asked, x -> x.ofPart(8, 2), 11);
        due("no stay more", asked, x -> x.count(6), 10);
    }

    private void bestCosts() {
        promise(29, "What it would cost by the latest best() that found some. VOID: before any.");
        Scene s = stored(1, 9, 8);
        due("before any", s, x -> x.bestCost(), VOID);
        due("before any but a bad one", s.then(x -> x.best(2, 0)), x -> x.bestCost(), VOID);
        due("before any but one that is not", s.then(x -> x.best(1, 0)), x -> x.bestCost(), VOID);
        due("before any but one that is big", s.times(7, i -> x -> x.part(0, 9, 0, 0, 0)).then(x -> x.best(0, 0)),
            x -> x.bestCost(), VOID);
        due("before any but one that found none", stored(1).then(x -> x.best(0, 0)), x -> x.bestCost(), VOID);
        Scene some = s.then(x -> x.best(0, 0));
        due("the first", some, x -> x.bestCost(), 8);
        due("behind a bad one", some.then(x -> x.best(2, 0)), x -> x.bestCost(), 8);
        due("behind one that is not", some.then(x -> x.best(1, 0)), x -> x.bestCost(), 8);
        due("behind a big one", some.times(7, i -> x -> x.part(0, 9, 0, 0, 0)).then(x -> x.best(0, 0)),
            x -> x.bestCost(), 8);
        due("the latest", some.then(x -> x.move(1, 10), x -> x.best(0, 0)), x -> x.bestCost(), 9);
        due("as it was then", some.then(x -> x.move(1, 10)), x -> x.bestCost(), 8);
        due("it costs nothing", stored(1, 0).then(x -> x.best(0, 0)), x -> x.bestCost(), 0);
    }
}
