import java.io.IOException;

/** Promises 19 to 36, each as a whole: what a call answers, and all that is answered otherwise behind it. */
public final class ChangesLawsCoinsTest extends Sentences {
    private ChangesLawsCoinsTest() throws IOException {
        super("ChangesLawsCoinsTest");
    }

    public static void main(String[] args) throws IOException {
        ChangesLawsCoinsTest t = new ChangesLawsCoinsTest();
        t.feed();
        t.law();
        t.order();
        t.done();
        t.contract();
        t.giveBack();
        t.best();
        t.claim();
        t.link();
        t.end(1, 0);
    }

    /** Part 0 came to plane 0 on day 3, part 1 has been in store since day 0; plane 0 needs one part, plane 1 none. */
    private static Scene hangar() {
        return ChangesPartsTest.hangar();
    }

    /** Plane 0 needs two parts and has one, an order is not done, and it was due on day 1. */
    private static Scene due() {
        return hangar().then(x -> x.need(0, 0, 2), x -> x.order(0, 5)).feed("h 0 950 3;g 5;o 7;m 11;t 1 50;");
    }

    private static Scene signed() {
        return due().then(x -> x.contract(0, 1, 100));
    }

    private void feed() {
        promise(19, "n (1 .. 4) bytes come to THE TAPE, the lowest of v first: how many it has. BAD, FULL.");
        changes("a text", hangar(), x -> x.feed(3, '1' | '+' << 8 | '2' << 16), 3,
            "count(7) 0>3; next law(0) -100>0");
    }

    private void law() {
        promise(20, "THE TAPE becomes a GAP LAW for GAPS that end on a DAY or behind it, made TODAY: its number (0 .. "
            + "9); -100 less its FAULT; THE TAPE is empty then.");
        changes("a law", hangar().feed("d*10"), x -> x.law(2), 0,
            "count(4) 0>1; count(7) 4>0; half(0,9999) 15>3; left(0,0,9999) 900>600; left(0,1,9999) 450>300",
            "left(0,2,9999) 357>237; lost(0,0,9999) 0>30; next law(0) 0>-100");
        changes("a law for later gaps", hangar().feed("d*10"), x -> x.law(4), 0,
            "count(4) 0>1; count(7) 4>0; next law(0) 0>-100");
        changes("a fault", hangar().feed("d*"), x -> x.law(2), -102,
            "count(7) 2>0; next law(0) -102>-100");
    }

    private void order() {
        promise(22, "An ORDER: its number. BAD (day 0 .. 9999), FULL.");
        changes("a late one", hangar(), x -> x.order(0, 2), 0,
            "count(5) 0>1; grounded(0,0) 0>3; grounded(0,9999) 0>3; insure(0) 6>0; next fly(0,1,1) 1>-2",
            "next done(0,0) -1>1; next done(0,1) -1>-2");
        changes("for today", hangar(), x -> x.order(0, 3), 0,
            "count(5) 0>1; next done(0,0) -1>1; next done(0,1) -1>-2");
        changes("of a kind that nobody needs", hangar(), x -> x.order(1, 2), 0,
            "count(5) 0>1; next done(0,0) -1>-2; next done(0,1) -1>-2");
    }

    private void done() {
        promise(23, "An ORDER is DONE for a PLANE TODAY: 1. BAD; NOT: it is, or it does not need that KIND.");
        changes("a late one", hangar().then(x -> x.order(0, 2)), x -> x.done(0, 0), 1,
            "grounded(0,0) 3>0; grounded(0,9999) 3>0; insure(0) 0>6; next done(0,0) 1>-2; next fly(0,1,1) -2>1");
    }

    private void contract() {
        promise(24, "THE TAPE becomes the CONTRACT of a PLANE (in place of an earlier one): how many LINES; -100 less "
            + "its FAULT (the earlier one stays); THE TAPE is empty then.");
        changes("the first", due(), x -> x.contract(0, 1, 100), 5,
            "count(7) 30>0; ofPlane(0,7) -1>1; ofPlane(0,8) 0>100; costs(0,-1,3,9999) VOID>323",
            "lacks(0,0,3,9999) -1>50; costs(0,0,3,9999) VOID>150; lacks(0,1,3,9999) -1>1",
            "costs(0,1,3,9999) VOID>5; lacks(0,2,3,9999) -1>1; costs(0,2,3,9999) VOID>7; lacks(0,3,3,9999) -1>1",
            "costs(0,3,3,9999) VOID>11; lacks(0,4,3,9999) -1>2; costs(0,4,3,9999) VOID>150",
            "next law(0) -101>-100; next best(0,0) -2>3");
        changes("another", signed().feed("m 13;"), x -> x.contract(0, 3, 50), 1,
            "count(7) 5>0; ofPlane(0,7) 1>3; ofPlane(0,8) 100>50; costs(0,-1,3,9999) 323>13",
            "lacks(0,0,3,9999) 50>1; costs(0,0,3,9999) 150>13; lacks(0,1,3,9999) 1>-1; costs(0,1,3,9999) 5>VOID",
            "lacks(0,2,3,9999) 1>-1; costs(0,2,3,9999) 7>VOID; lacks(0,3,3,9999) 1>-1",
            "costs(0,3,3,9999) 11>VOID; lacks(0,4,3,9999) 2>-1; costs(0,4,3,9999) 150>VOID");
        changes("a fault", signed().feed("m 13"), x -> x.contract(0, 3, 50), -104,
            "count(7) 4>0");
    }

    private void giveBack() {
        promise(27, "RETURNED TODAY: what it costs AS KNOWN TODAY. BAD; NOT: it is, or has no CONTRACT; FULL never.");
        changes("given back", signed(), x -> x.giveBack(0), 323,
            "count(8) 0>1; count(11) 0>1; ofPlane(0,2) 0>1; ofPlane(0,3) 1>0; ofPlane(0,5) -1>323",
            "ofPlane(0,6) -1>3; half(0,0) 15>0; half(0,9999) 15>0; costs(0,-1,3,9999) 323>179",
            "lacks(0,0,3,9999) 50>0; costs(0,0,3,9999) 150>0; lacks(0,1,3,9999) 1>0; costs(0,1,3,9999) 5>0",
            "lacks(0,3,3,9999) 1>2; costs(0,3,3,9999) 11>22; ofPart(0,2) 0>12; ofPart(0,7) 1>2",
            "stay(0,1,2) VOID>3; lost(0,1,9999) -2>0; next need(0,0,3) 2>-2; next best(0,0) 3>-2",
            "next need(0,1,3) 0>-2");
    }

    private void best() {
        promise(28, "BEST PARTS: as bits of their places in the row of those there are (by numbers).");
        changes("best", signed(), x -> x.best(0, 0), 3,
            "bestCost() VOID>1962");
    }

    private void claim() {
        promise(31, "WORKS claimed for a PART (1 .. 999999 coins): how much is PAID.");
        Scene s = hangar().then(x -> x.fly(0, 10, 1), x -> x.move(0, 10));
        changes("a part of it", s, x -> x.claim(0, 12), 12,
            "count(12) 0>12; reserve(0,0) 30>18; next claim(0,999999) 30>18");
        changes("more than there is", s, x -> x.claim(0, 31), 30,
            "count(12) 0>30; reserve(0,0) 30>0; next claim(0,999999) 30>0");
    }

    private void link() {
        promise(34, "A LESSOR comes behind those of a PLANE's CHAIN: how many. BAD (lessor 0 .. 9, rent 0 .. 99999), "
            + "FULL: 4.");
        changes("the first", hangar(), x -> x.link(0, 3, 500), 1,
            "net(0,0,1) VOID>500");
        changes("the second", hangar().then(x -> x.link(0, 3, 500)), x -> x.link(0, 9, 80), 2,
            "net(0,0,1) 500>420; net(0,1,1) VOID>80");
    }
}
