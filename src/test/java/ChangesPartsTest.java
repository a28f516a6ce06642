import java.io.IOException;

/** Promises 1 to 18, each as a whole: what a call answers, and all that is answered otherwise behind it. */
public final class ChangesPartsTest extends Sentences {
    private ChangesPartsTest() throws IOException {
        super("ChangesPartsTest");
    }

    public static void main(String[] args) throws IOException {
        ChangesPartsTest t = new ChangesPartsTest();
        t.aNewObject();
        t.kind();
        t.plane();
        t.need();
        t.days();
        t.fly();
        t.part();
        t.move();
        t.swap();
        t.repair();
        t.paper();
        t.past();
        t.end(1, 0);
    }

    /** Part 0 came to plane 0 on day 3, part 1 has been in store since day 0; plane 0 lacks none, plane 1 is bare. */
    static Scene hangar() {
        return start()
            .then(x -> x.kind(1000, 500, 400, 2003), x -> x.kind(0, 0, 0, 0), x -> x.plane(5000), x -> x.plane(0))
            .then(x -> x.need(0, 0, 1), x -> x.part(0, 7, 100, 50, 40), x -> x.part(0, 8, 600, 300, 200))
            .then(x -> x.days(3), x -> x.move(0, 0));
    }

    private void aNewObject() {
        promise(1, "DAY 0, no kinds, no planes, no parts.");
        changes("nothing", start(), x -> x.count(0), 0);
    }

    private void kind() {
        promise(2, "A KIND: its number. coins: 1000 times RATE, and RESERVE. BAD, FULL.");
        changes("kind", hangar(), x -> x.kind(10, 20, 30, 7009), 2,
            "count(0) 2>3; reserve(0,2) -1>0; reserve(1,2) -1>0; next need(0,2,3) -1>0; next best(0,2) -1>-2",
            "next need(1,2,3) -1>0; next best(1,2) -1>-2");
    }

    private void plane() {
        promise(3, "A PLANE: its number. BAD, FULL.");
        changes("plane", hangar(), x -> x.plane(4321), 2,
            "count(1) 2>3; ofPlane(2,0) VOID>0; ofPlane(2,1) VOID>0; ofPlane(2,2) VOID>0; ofPlane(2,3) VOID>0",
            "ofPlane(2,4) VOID>4321; ofPlane(2,5) VOID>-1; ofPlane(2,6) VOID>-1; ofPlane(2,7) VOID>-1",
            "ofPlane(2,8) VOID>0; grounded(2,0) -1>0; half(2,0) VOID>0; grounded(2,9999) -1>0",
            "half(2,9999) VOID>0; insure(2) -1>5; reserve(2,0) -1>0; reserve(2,1) -1>0; next need(2,0,3) -1>0",
            "next best(2,0) -1>-2; next need(2,1,3) -1>0; next best(2,1) -1>-2; next fly(2,1,1) -1>1");
    }

    private void need() {
        promise(4, "A PLANE needs n parts of a KIND: what it did.");
        changes("need more", hangar(), x -> x.need(0, 0, 2), 1,
            "grounded(0,0) 0>1; grounded(0,9999) 0>1; insure(0) 6>0; next need(0,0,3) 1>2; next fly(0,1,1) 1>-2");
        changes("need none", hangar().then(x -> x.move(0, 11)), x -> x.need(0, 0, 0), 1,
            "grounded(0,0) 1>0; grounded(0,9999) 1>0; insure(0) 0>5; next need(0,0,3) 1>0; next fly(0,1,1) -2>1");
    }

    private void days() {
        promise(5, "n (1 .. 400) DAYS go by: DAY. BAD (also beyond 9999).");
        changes("days", hangar(), x -> x.days(10), 13,
            "count(3) 3>13; half(0,0) 15>14; half(0,9999) 15>14; ofPart(0,5) 43>53; left(0,2,0) 357>347",
            "left(0,2,9999) 357>347; ofPart(1,5) 203>213; left(1,2,0) 197>187; left(1,2,9999) 197>187");
    }

    private void fly() {
        promise(6, "A PLANE FLIES so many HOURS (1 .. 999) and LANDINGS (0 .. 999): its HOURS.");
        changes("fly", hangar(), x -> x.fly(0, 20, 5), 20,
            "ofPlane(0,0) 0>20; ofPlane(0,1) 0>5; half(0,0) 15>13; half(0,9999) 15>13; reserve(0,0) 0>60",
            "ofPart(0,3) 100>120; ofPart(0,4) 50>55; left(0,0,0) 900>880; left(0,1,0) 450>445; least(0,0) 2>0",
            "left(0,0,9999) 900>880; left(0,1,9999) 450>445; least(0,9999) 2>0; stay(0,1,4) 100>120",
            "stay(0,1,6) 50>55; next fly(0,1,1) 1>21");
    }

    private void part() {
        promise(9, "A PART comes to the STORE: its number.");
        changes("part", hangar(), x -> x.part(0, 7, 1, 2, 3), 2,
            "count(2) 2>3; count(6) 3>4; count(9) 1>2; ofPart(0,8) 0>3; ofPart(2,0) VOID>0; ofPart(2,1) VOID>7",
            "ofPart(2,2) VOID>11; ofPart(2,3) VOID>1; ofPart(2,4) VOID>2; ofPart(2,5) VOID>3",
            "ofPart(2,6) VOID>1; ofPart(2,7) VOID>0; ofPart(2,8) VOID>3; left(2,0,0) VOID>999",
            "left(2,1,0) VOID>498; left(2,2,0) VOID>397; least(2,0) -1>2; left(2,0,9999) VOID>999",
            "left(2,1,9999) VOID>498; left(2,2,9999) VOID>397; least(2,9999) -1>2; stay(2,0,0) VOID>11",
            "stay(2,0,1) VOID>3; stay(2,0,3) VOID>1; stay(2,0,4) VOID>1; stay(2,0,5) VOID>2; stay(2,0,6) VOID>2",
            "stay(2,0,7) VOID>0; lost(2,0,9999) -1>-2; next claim(2,999999) -1>-2; next repair(2,7) -1>-2");
    }

    private void move() {
        promise(10, "A PART goes to a place (0 .. 11) TODAY: 1.");
        changes("to a shop", hangar().then(x -> x.fly(0, 10, 2)), x -> x.move(0, 10), 1,
            "count(6) 3>4; count(10) 0>1; ofPlane(0,3) 1>0; grounded(0,0) 0>1; half(0,0) 13>0",
            "grounded(0,9999) 0>1; half(0,9999) 13>0; insure(0) 6>0; ofPart(0,2) 0>10; ofPart(0,6) 2>3",
            "ofPart(0,7) 1>2; stay(0,1,2) VOID>3; lost(0,1,9999) -2>0; stay(0,2,0) VOID>10; stay(0,2,1) VOID>3",
            "stay(0,2,3) VOID>110; stay(0,2,4) VOID>110; stay(0,2,5) VOID>52; stay(0,2,6) VOID>52",
            "stay(0,2,7) VOID>0; lost(0,2,9999) -1>-2; next fly(0,1,1) 11>-2; next claim(0,999999) -2>30",
            "next repair(0,7) -2>1");
        changes("to a plane", hangar().then(x -> x.need(1, 0, 1)), x -> x.move(1, 1), 1,
            "count(6) 3>4; count(9) 1>0; ofPlane(1,3) 0>1; grounded(1,0) 1>0; half(1,0) 0>-3",
            "grounded(1,9999) 1>0; half(1,9999) 0>-3; ofPart(1,2) 11>1; ofPart(1,6) 1>2; ofPart(1,7) 0>1",
            "stay(1,0,2) VOID>3; lost(1,0,9999) -2>0; stay(1,1,0) VOID>1; stay(1,1,1) VOID>3",
            "stay(1,1,3) VOID>600; stay(1,1,4) VOID>600; stay(1,1,5) VOID>300; stay(1,1,6) VOID>300",
            "stay(1,1,7) VOID>0; lost(1,1,9999) -1>-2; next fly(1,1,1) -2>1");
    }

    private void swap() {
        promise(11, "SWAP: a PART on a PLANE, and one of the same KIND in STORE: 1. BAD; NOT: they are not so; FULL.");
        changes("swap", hangar(), x -> x.swap(0, 1), 1,
            "count(6) 3>5; half(0,0) 15>-3; half(0,9999) 15>-3; insure(0) 6>5; ofPart(0,2) 0>11",
            "ofPart(0,6) 2>3; ofPart(0,7) 1>2; stay(0,1,2) VOID>3; lost(0,1,9999) -2>0; ofPart(1,2) 11>0",
            "ofPart(1,6) 1>2; ofPart(1,7) 0>1; stay(1,0,2) VOID>3; lost(1,0,9999) -2>0; stay(0,2,0) VOID>11",
            "stay(0,2,1) VOID>3; stay(0,2,3) VOID>100; stay(0,2,4) VOID>100; stay(0,2,5) VOID>50",
            "stay(0,2,6) VOID>50; stay(0,2,7) VOID>0; lost(0,2,9999) -1>-2; stay(1,1,0) VOID>0",
            "stay(1,1,1) VOID>3; stay(1,1,3) VOID>600; stay(1,1,4) VOID>600; stay(1,1,5) VOID>300",
            "stay(1,1,6) VOID>300; stay(1,1,7) VOID>0; lost(1,1,9999) -1>-2");
    }

    private void repair() {
        promise(12, "REPAIRED in a SHOP: measures (bits 1 HOURS, 2 LANDINGS, 4 DAYS; 1 .. 7): 1. BAD; NOT: it is in no "
            + "SHOP.");
        changes("repair", hangar().then(x -> x.move(1, 10)), x -> x.repair(1, 5), 1,
            "ofPart(1,3) 600>0; ofPart(1,5) 203>0; left(1,0,0) 400>1000; left(1,2,0) 197>400; least(1,0) 0>1",
            "left(1,0,9999) 400>1000; left(1,2,9999) 197>400; least(1,9999) 0>1; stay(1,1,4) 600>0");
    }

    private void paper() {
        promise(17, "A PAPER comes for STAY i (1), or is no more (0): what it was.");
        changes("paper", hangar().law("30", 0), x -> x.paper(0, 0, 1), 0,
            "half(0,9999) 3>15; ofPart(0,7) 1>0; left(0,0,9999) 600>900; left(0,1,9999) 300>450",
            "left(0,2,9999) 237>357; stay(0,0,7) 0>1; lost(0,0,9999) 30>-2");
    }

    private void past() {
        promise(18, "A PAST STAY of a PART: how many STAYS it has. where: 0 .. 11; days: 20000 times a, and b: the "
            + "first DAY is a - 9999, the last one b - 9999 (0 .. 9999 each, a at most b: DAYS -9999 .. 0); hours, "
            + "landings: USED at its beginning (0 .. 99999 each); ends: 100000 times LANDINGS less those at its "
            + "beginning and 500 (0 .. 999), and HOURS at its end (0 .. 99999). BAD, FULL.");
        changes("past", hangar().law("n+1", 0), x -> x.past(0, 1, 9999 * 20000 + 9999, 90, 45, 50200095), 3,
            "count(6) 3>4; half(0,9999) 13>12; ofPart(0,6) 2>3; ofPart(0,7) 1>2; ofPart(0,8) 0>2",
            "left(0,0,9999) 890>870; left(0,1,9999) 445>435; left(0,2,9999) 353>345; lost(0,0,9999) 1>2",
            "stay(0,1,0) 0>1; stay(0,1,1) 3>0; stay(0,1,2) VOID>0; stay(0,1,3) 100>90; stay(0,1,4) 100>95",
            "stay(0,1,5) 50>45; stay(0,1,6) 50>47; lost(0,1,9999) -2>1; stay(0,2,0) VOID>0; stay(0,2,1) VOID>3",
            "stay(0,2,3) VOID>100; stay(0,2,4) VOID>100; stay(0,2,5) VOID>50; stay(0,2,6) VOID>50",
            "stay(0,2,7) VOID>0; lost(0,2,9999) -1>-2");
    }
}
