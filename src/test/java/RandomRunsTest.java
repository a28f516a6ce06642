import java.util.Arrays;
import java.util.Random;

/** Random runs of 512 calls, always the same ones, against the plain model; every promise takes part. */
public final class RandomRunsTest {
    private static final Check c = new Check("RandomRunsTest");
    private static final String[] NAMES = {"kind", "plane", "need", "days", "fly", "ofPlane", "grounded", "part",
        "move", "swap", "repair", "ofPart", "left", "least", "stay", "paper", "past", "feed", "law", "lost", "order",
        "done", "contract", "lacks", "costs", "giveBack", "best", "bestCost", "reserve", "claim", "half", "insure",
        "link", "net", "count"};
    /** How often each call is made, in the order of the names. */
    private static final int[] OFTEN = {3, 3, 8, 10, 20, 8, 10, 12, 30, 8, 8, 12, 10, 6, 10, 8, 8, 1, 4, 8, 2, 3, 5, 8,
        10, 1, 8, 4, 6, 8, 6, 5, 3, 4, 8};

    private final Random random;
    private final PlanesBack x = new PlanesBack();
    private final PlainModel y = new PlainModel();
    private final int[] seen = new int[NAMES.length];
    private final boolean wild;

    private RandomRunsTest(long seed, boolean wild) {
        this.random = new Random(seed);
        this.wild = wild;
    }

    public static void main(String[] args) {
        int runs = args.length > 0 ? Integer.parseInt(args[0]) : 400;
        int first = args.length > 1 ? Integer.parseInt(args[1]) : 0;
        int[] good = new int[NAMES.length];
        for (int seed = first; seed < first + runs; seed++) {
            RandomRunsTest run = new RandomRunsTest(seed, seed % 5 == 4);
            if (!run.go(seed)) {
                break;
            }
            for (int i = 0; i < good.length; i++) {
                good[i] += run.seen[i];
            }
        }
        for (int i = 0; i < good.length; i++) {
            c.is(NAMES[i] + " was answered otherwise than with BAD and VOID in some run", good[i] > 0);
        }
        faultsAreAlike();
        c.end();
    }

    private boolean go(int seed) {
        int all = Arrays.stream(OFTEN).sum(), calls = 0;
        if (!wild) {
            calls = beginWell(seed);
        }
        boolean alike = calls >= 0;
        while (alike && calls < 512) {
            int pick = random.nextInt(all), call = 0;
            while (pick >= OFTEN[call]) {
                pick -= OFTEN[call];
                call++;
            }
            if ((call == 18 || call == 22) && random.nextInt(8) > 0) {
                String text = call == 18 ? lawText() : contractText();
                alike = feedAlike(seed, text);
                calls += (text.length() + 3) / 4;
            }
            alike = alike && callAlike(seed, call, arguments(call));
            calls++;
        }
        return alike;
    }

    /** Some kinds and planes that need parts, so that what follows has something to go on. */
    private int beginWell(int seed) {
        int kinds = 1 + random.nextInt(3), planes = 1 + random.nextInt(2), calls = 0;
        boolean alike = true;
        for (int kind = 0; kind < kinds; kind++) {
            alike &= callAlike(seed, 0, arguments(0));
        }
        for (int plane = 0; plane < planes; plane++) {
            alike &= callAlike(seed, 1, arguments(1));
            for (int kind = 0; kind < kinds; kind++) {
                alike &= callAlike(seed, 2, new int[] {plane, kind, random.nextInt(3)});
            }
        }
        for (int i = 0; i < 6; i++) {
            alike &= callAlike(seed, 7, arguments(7));
            alike &= callAlike(seed, 8, arguments(8));
        }
        return alike ? calls + kinds + planes + planes * kinds + 12 : -1;
    }

    private boolean feedAlike(int seed, String text) {
        boolean alike = true;
        for (int at = 0; alike && at < text.length(); at += 4) {
            int n = Math.min(4, text.length() - at), v = 0;
            for (int i = 0; i < n; i++) {
                v |= text.charAt(at + i) << 8 * i;
            }
            alike = callAlike(seed, 17, new int[] {n, v});
        }
        return alike;
    }

    private boolean callAlike(int seed, int call, int[] a) {
        int got = ofClass(call, a), want = ofModel(call, a);
        seen[call] += got != Check.BAD && got != Check.VOID ? 1 : 0;
        c.due("run " + seed + ": " + NAMES[call] + Arrays.toString(a), got, want);
        return got == want;
    }

    private int near(int high) {
        int pick = random.nextInt(40);
        if (pick == 0) {
            return -1;
        }
        if (pick == 1) {
            return high + 1;
        }
        return pick == 2 ? random.nextInt() : pick < 6 ? high : pick < 8 ? 0 : random.nextInt(high + 1);
    }

    private int one(int count) {
        return random.nextInt(30) == 0 ? random.nextInt(14) - 1 : count == 0 ? 0 : random.nextInt(count);
    }

    private int aKind() {
        return one(x.count(0));
    }

    private int aPlane() {
        return one(x.count(1));
    }

    private int aPart() {
        return one(x.count(2));
    }

    private int aStay(int part) {
        int stays = x.ofPart(part, 6);
        return one(stays < 0 ? 1 : stays);
    }

    private int aDay() {
        int pick = random.nextInt(10);
        return pick < 7 ? Math.max(0, x.count(3) - random.nextInt(3) * random.nextInt(20)) : pick < 8 ? near(9999)
            : x.count(3) + random.nextInt(20);
    }

    private int small(int high) {
        return random.nextInt(6) == 0 ? near(99999) : random.nextInt(high);
    }

    private int limit() {
        return random.nextInt(3) == 0 ? 0 : random.nextInt(3) == 0 ? near(99999) : 1 + random.nextInt(2000);
    }

    private int pastDays() {
        int late = random.nextInt(3) == 0 ? 9999 : 9999 - random.nextInt(40);
        int early = random.nextInt(4) == 0 ? late : late - random.nextInt(40) + (random.nextInt(12) == 0 ? 40 : 0);
        return random.nextInt(12) == 0 ? random.nextInt() : 20000 * early + late;
    }

    private int pastEnds(int hours) {
        int atEnd = Math.max(0, Math.min(99999, hours + random.nextInt(40) - (random.nextInt(3) == 0 ? 20 : 0)));
        int more = random.nextInt(6) == 0 ? near(999) : 500 + random.nextInt(10) - (random.nextInt(3) == 0 ? 5 : 0);
        return 100000 * more + atEnd;
    }

    private int[] arguments(int call) {
        if (wild && random.nextInt(6) == 0) {
            return new int[] {random.nextInt(), random.nextInt(), random.nextInt(12), near(100), near(100), near(100)};
        }
        int part = aPart(), plane = aPlane();
        switch (NAMES[call]) {
            case "kind": return new int[] {limit(), limit(), limit(), near(999999)};
            case "plane": return new int[] {near(999999)};
            case "need": return new int[] {plane, aKind(), near(3)};
            case "days": return new int[] {random.nextInt(9) == 0 ? near(400) : 1 + random.nextInt(12)};
            case "fly": return new int[] {plane, random.nextInt(4) == 0 ? near(999) : 1 + random.nextInt(60), near(30)};
            case "ofPlane": return new int[] {plane, near(8)};
            case "grounded": case "half": return new int[] {plane, aDay()};
            case "part": return new int[] {aKind(), 1 + near(9), small(900), small(900), small(900)};
            case "move": return new int[] {part, random.nextInt(3) == 0 ? near(11) : random.nextInt(3) == 0
                ? 10 + random.nextInt(2) : plane};
            case "swap": return new int[] {part, aPart()};
            case "repair": return new int[] {part, near(7)};
            case "ofPart": return new int[] {part, random.nextInt(3) == 0 ? 8 : near(8)};
            case "left": return new int[] {part, near(2), aDay()};
            case "least": return new int[] {part, aDay()};
            case "stay": return new int[] {part, aStay(part), near(7)};
            case "paper": return new int[] {part, aStay(part), near(1)};
            case "past":
                int hours = small(300);
                return new int[] {part, random.nextInt(3) == 0 ? near(11) : random.nextInt(2) == 0 ? plane : 11,
                    pastDays(), hours, small(300), pastEnds(hours)};
            case "feed": return new int[] {near(4), random.nextInt()};
            case "law": return new int[] {random.nextInt(3) == 0 ? 0 : aDay()};
            case "lost": return new int[] {part, aStay(part), aDay()};
            case "order": return new int[] {aKind(), aDay()};
            case "done": return new int[] {one(x.count(5)), plane};
            case "contract": return new int[] {plane, aDay(), small(500)};
            case "lacks": return new int[] {plane, random.nextInt(4), aDay(), aDay()};
            case "costs": return new int[] {plane, random.nextInt(5) - 1, aDay(), aDay()};
            case "giveBack": case "insure": return new int[] {plane};
            case "best": case "reserve": return new int[] {plane, aKind()};
            case "claim": return new int[] {part, random.nextInt(5) == 0 ? near(999999) : 1 + random.nextInt(500)};
            case "link": return new int[] {plane, near(9), near(99999)};
            case "net": return new int[] {plane, random.nextInt(5), near(999)};
            case "count": return new int[] {near(12)};
            default: return new int[0];
        }
    }

    private String lawText() {
        return spoiled(held(anE(2 + random.nextInt(3))));
    }

    private static String held(String text) {
        return text.length() > 120 ? text.substring(0, 120) : text;
    }

    /** Now and then a byte is put in, taken out or changed. */
    private String spoiled(String text) {
        if (random.nextInt(3) > 0 || text.isEmpty()) {
            return text;
        }
        int at = random.nextInt(text.length());
        String signs = "0123456789dhlwkn+-*/<=>?:()gomt; x";
        String sign = random.nextInt(9) == 0 ? "" + (char) random.nextInt(256)
            : "" + signs.charAt(random.nextInt(signs.length()));
        return held(text.substring(0, at) + (random.nextInt(3) == 0 ? "" : sign)
            + text.substring(at + random.nextInt(2)));
    }

    private String anE(int deep) {
        return random.nextInt(3) == 0 && deep > 0 ? aC(deep) + "?" + anE(deep - 1) + ":" + anE(deep - 1) : aC(deep);
    }

    private String aC(int deep) {
        return random.nextInt(4) == 0 ? aSum(deep) + "<=>".charAt(random.nextInt(3)) + aSum(deep) : aSum(deep);
    }

    private String aSum(int deep) {
        String text = aProduct(deep);
        while (random.nextInt(3) == 0) {
            text += (random.nextBoolean() ? "+" : "-") + aProduct(deep);
        }
        return text;
    }

    private String aProduct(int deep) {
        String text = anO(deep);
        while (random.nextInt(5) == 0) {
            text += (random.nextBoolean() ? "*" : "/") + anO(deep);
        }
        return text;
    }

    private String anO(int deep) {
        int pick = random.nextInt(10);
        if (pick < 4) {
            return "" + random.nextInt(pick == 0 ? 100000 : 40);
        }
        if (pick < 8 || deep <= 0) {
            return "" + "dhlwkn".charAt(random.nextInt(6));
        }
        return pick == 8 ? "-" + anO(deep - 1) : "(" + anE(deep - 1) + ")";
    }

    private String contractText() {
        String text = "";
        int lines = 1 + random.nextInt(4);
        for (int i = 0; i < lines; i++) {
            char letter = "hldgomthld".charAt(random.nextInt(10));
            text += letter;
            int numbers = "hld".indexOf(letter) >= 0 ? 3 : letter == 't' ? 2 : 1;
            for (int n = 0; n < numbers; n++) {
                int number = n == 0 && numbers == 3 ? random.nextInt(3)
                    : random.nextInt(5) == 0 ? random.nextInt(100000) : random.nextInt(900);
                text += " " + number;
            }
            text += ";";
        }
        return spoiled(held(text));
    }

    /** Texts of arbitrary signs, for the place of their faults alone. */
    private static void faultsAreAlike() {
        Random random = new Random(7);
        String lawSigns = "11dn+-*/<=>?:((((())?:-0", contractSigns = "hgt 111  ;;;";
        for (int i = 0; i < 20000; i++) {
            PlanesBack x = new PlanesBack();
            x.plane(0);
            String law = "", contract = "";
            for (int n = random.nextInt(40); n > 0; n--) {
                law += lawSigns.charAt(random.nextInt(lawSigns.length()));
                contract += contractSigns.charAt(random.nextInt(contractSigns.length()));
            }
            int fault = PlainModel.lawFault(law);
            c.due("law " + law, Check.law(x, law, 0), fault < 0 ? 0 : -100 - fault);
            fault = PlainModel.contractFault(contract);
            int answer = Check.contract(x, contract, 0, 0, 0);
            c.due("contract " + contract, answer > 0 ? 1 : answer, fault < 0 ? 1 : -100 - fault);
        }
    }

    private int ofClass(int call, int[] a) {
        switch (NAMES[call]) {
            case "kind": return x.kind(a[0], a[1], a[2], a[3]);
            case "plane": return x.plane(a[0]);
            case "need": return x.need(a[0], a[1], a[2]);
            case "days": return x.days(a[0]);
            case "fly": return x.fly(a[0], a[1], a[2]);
            case "ofPlane": return x.ofPlane(a[0], a[1]);
            case "grounded": return x.grounded(a[0], a[1]);
            case "part": return x.part(a[0], a[1], a[2], a[3], a[4]);
            case "move": return x.move(a[0], a[1]);
            case "swap": return x.swap(a[0], a[1]);
            case "repair": return x.repair(a[0], a[1]);
            case "ofPart": return x.ofPart(a[0], a[1]);
            case "left": return x.left(a[0], a[1], a[2]);
            case "least": return x.least(a[0], a[1]);
            case "stay": return x.stay(a[0], a[1], a[2]);
            case "paper": return x.paper(a[0], a[1], a[2]);
            case "past": return x.past(a[0], a[1], a[2], a[3], a[4], a[5]);
            case "feed": return x.feed(a[0], a[1]);
            case "law": return x.law(a[0]);
            case "lost": return x.lost(a[0], a[1], a[2]);
            case "order": return x.order(a[0], a[1]);
            case "done": return x.done(a[0], a[1]);
            case "contract": return x.contract(a[0], a[1], a[2]);
            case "lacks": return x.lacks(a[0], a[1], a[2], a[3]);
            case "costs": return x.costs(a[0], a[1], a[2], a[3]);
            case "giveBack": return x.giveBack(a[0]);
            case "best": return x.best(a[0], a[1]);
            case "bestCost": return x.bestCost();
            case "reserve": return x.reserve(a[0], a[1]);
            case "claim": return x.claim(a[0], a[1]);
            case "half": return x.half(a[0], a[1]);
            case "insure": return x.insure(a[0]);
            case "link": return x.link(a[0], a[1], a[2]);
            case "net": return x.net(a[0], a[1], a[2]);
            default: return x.count(a[0]);
        }
    }

    private int ofModel(int call, int[] a) {
        switch (NAMES[call]) {
            case "kind": return y.kind(a[0], a[1], a[2], a[3]);
            case "plane": return y.plane(a[0]);
            case "need": return y.need(a[0], a[1], a[2]);
            case "days": return y.days(a[0]);
            case "fly": return y.fly(a[0], a[1], a[2]);
            case "ofPlane": return y.ofPlane(a[0], a[1]);
            case "grounded": return y.grounded(a[0], a[1]);
            case "part": return y.part(a[0], a[1], a[2], a[3], a[4]);
            case "move": return y.move(a[0], a[1]);
            case "swap": return y.swap(a[0], a[1]);
            case "repair": return y.repair(a[0], a[1]);
            case "ofPart": return y.ofPart(a[0], a[1]);
            case "left": return y.left(a[0], a[1], a[2]);
            case "least": return y.least(a[0], a[1]);
            case "stay": return y.stay(a[0], a[1], a[2]);
            case "paper": return y.paper(a[0], a[1], a[2]);
            case "past": return y.past(a[0], a[1], a[2], a[3], a[4], a[5]);
            case "feed": return y.feed(a[0], a[1]);
            case "law": return y.law(a[0]);
            case "lost": return y.lost(a[0], a[1], a[2]);
            case "order": return y.order(a[0], a[1]);
            case "done": return y.done(a[0], a[1]);
            case "contract": return y.contract(a[0], a[1], a[2]);
            case "lacks": return y.lacks(a[0], a[1], a[2], a[3]);
            case "costs": return y.costs(a[0], a[1], a[2], a[3]);
            case "giveBack": return y.giveBack(a[0]);
            case "best": return y.best(a[0], a[1]);
            case "bestCost": return y.bestCost();
            case "reserve": return y.reserve(a[0], a[1]);
            case "claim": return y.claim(a[0], a[1]);
            case "half": return y.half(a[0], a[1]);
            case "insure": return y.insure(a[0]);
            case "link": return y.link(a[0], a[1], a[2]);
            case "net": return y.net(a[0], a[1], a[2]);
            default: return y.count(a[0]);
        }
    }
}
