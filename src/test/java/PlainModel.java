import java.util.ArrayList;
import java.util.Comparator;
import java.util.List;
import java.util.function.IntUnaryOperator;
import java.util.regex.Matcher;
import java.util.regex.Pattern;

/**
 * The document once more, written as plainly as can be and without a thought for speed or room: lists are sorted anew
 * for each question, texts are worked out from the text itself, and best parts are tried by putting them there.
 */
final class PlainModel {
    private static final int BAD = -1, NOT = -2, FULL = -3, BIG = -4, VOID = -2000000000;
    private static final Pattern CONTRACT = Pattern.compile(
        "(?:[hld] [0-9]{1,5} [0-9]{1,5} [0-9]{1,5};|t [0-9]{1,5} [0-9]{1,5};|[gom] [0-9]{1,5};)+", Pattern.DOTALL);

    private static final class Kind {
        int[] limit;
        int rate, reserve;
    }

    private static final class Plane {
        int worth, hours, landings, cost = -1, costDay = -1, returnDay = -1, rent;
        int[] need = new int[10], saved = new int[10];
        List<String[]> lines;
        List<Integer> chain = new ArrayList<>();

        boolean returned() {
            return costDay != -1;
        }
    }

    private static final class Stay {
        int where, from;
        Integer to;
        int[] start, end;
        boolean paper;

        boolean gap() {
            return to != null && !paper;
        }
    }

    private static final class Part {
        int kind, number, place = 11;
        int[] used;
        List<Stay> told = new ArrayList<>();

        List<Stay> inOrder() {
            List<Stay> sorted = new ArrayList<>(told);
            sorted.sort(Comparator.comparingInt(s -> s.from));
            return sorted;
        }

        int hoursOrLandingsAtEnd(Stay s, int measure) {
            return s.to == null ? used[measure] : s.end[measure];
        }

        void close(int day) {
            for (Stay s : told) {
                if (s.to == null) {
                    s.to = day;
                    s.end = used.clone();
                }
            }
        }

        void open(int where, int day) {
            Stay s = new Stay();
            s.where = where;
            s.from = day;
            s.start = used.clone();
            told.add(s);
            place = where;
        }
    }

    private static final class Law {
        String text;
        int made, from;
    }

    private static final class Order {
        int kind, day;
        boolean[] done = new boolean[10];
    }

    private final List<Kind> kinds = new ArrayList<>();
    private final List<Plane> planes = new ArrayList<>();
    private final List<Part> parts = new ArrayList<>();
    private final List<Law> laws = new ArrayList<>();
    private final List<Order> orders = new ArrayList<>();
    private String tape = "";
    private int day, paid, lastBest = VOID;

    private static <T> boolean in(List<T> list, int i) {
        return i >= 0 && i < list.size();
    }

    private static boolean to99999(int... values) {
        for (int v : values) {
            if (v < 0 || v > 99999) {
                return false;
            }
        }
        return true;
    }

    private static boolean isDay(int d) {
        return d >= 0 && d <= 9999;
    }

    private int allStays() {
        return parts.stream().mapToInt(p -> p.told.size()).sum();
    }

    private List<Part> at(int place) {
        return parts.stream().filter(p -> p.place == place).toList();
    }

    private int ofKindAt(int kind, int place) {
        return (int) at(place).stream().filter(p -> p.kind == kind).count();
    }

    int kind(int hours, int landings, int days, int coins) {
        if (!to99999(hours, landings, days) || coins < 0 || coins > 999999) {
            return BAD;
        }
        if (kinds.size() == 10) {
            return FULL;
        }
        Kind k = new Kind();
        k.limit = new int[] {hours, landings, days};
        k.rate = coins / 1000;
        k.reserve = coins - 1000 * k.rate;
        kinds.add(k);
        return kinds.size() - 1;
    }

    int plane(int worth) {
        if (worth < 0 || worth > 999999) {
            return BAD;
        }
        if (planes.size() == 10) {
            return FULL;
        }
        Plane p = new Plane();
        p.worth = worth;
        planes.add(p);
        return planes.size() - 1;
    }

    int need(int plane, int kind, int n) {
        if (!in(planes, plane) || !in(kinds, kind) || n < 0 || n > 3) {
            return BAD;
        }
        Plane p = planes.get(plane);
        if (p.returned() || ofKindAt(kind, plane) > n) {
            return NOT;
        }
        int was = p.need[kind];
        p.need[kind] = n;
        return was;
    }

    int days(int n) {
        if (n < 1 || n > 400 || day + n > 9999) {
            return BAD;
        }
        day += n;
        for (Part p : parts) {
            p.used[2] += p.place == 12 ? 0 : n;
        }
        return day;
    }

    int fly(int plane, int hours, int landings) {
        if (!in(planes, plane) || hours < 1 || hours > 999 || landings < 0 || landings > 999) {
            return BAD;
        }
        Plane p = planes.get(plane);
        boolean far = p.hours + hours > 999999 || p.landings + landings > 999999;
        for (Part q : at(plane)) {
            far |= q.used[0] + hours > 999999 || q.used[1] + landings > 999999;
        }
        if (p.returned() || far || grounded(plane, day) != 0) {
            return NOT;
        }
        for (Part q : at(plane)) {
            q.used[0] += hours;
            q.used[1] += landings;
            long sum = p.saved[q.kind] + (long) hours * kinds.get(q.kind).reserve;
            p.saved[q.kind] = (int) Math.min(sum, 2000000000);
        }
        p.landings += landings;
        return p.hours += hours;
    }

    int ofPlane(int plane, int what) {
        if (!in(planes, plane) || what < 0 || what > 8) {
            return VOID;
        }
        Plane p = planes.get(plane);
        return new int[] {p.hours, p.landings, p.returned() ? 1 : 0, at(plane).size(), p.worth, p.cost, p.costDay,
            p.returnDay, p.rent}[what];
    }

    int grounded(int plane, int k) {
        if (!in(planes, plane) || !isDay(k)) {
            return BAD;
        }
        for (int kind = 0; kind < kinds.size(); kind++) {
            if (ofKindAt(kind, plane) < planes.get(plane).need[kind]) {
                return 1;
            }
        }
        for (Part p : at(plane)) {
            for (int m = 0; m < 3; m++) {
                if (kinds.get(p.kind).limit[m] != 0 && leftOf(p, m, k) < 0) {
                    return 2;
                }
            }
        }
        for (Order o : orders) {
            if (planes.get(plane).need[o.kind] > 0 && !o.done[plane] && o.day < day) {
                return 3;
            }
        }
        return 0;
    }

    int part(int kind, int number, int hours, int landings, int days) {
        if (!in(kinds, kind) || number < 1 || number > 99999 || !to99999(hours, landings, days)) {
            return BAD;
        }
        if (parts.size() == 100 || allStays() == 500) {
            return FULL;
        }
        Part p = new Part();
        p.kind = kind;
        p.number = number;
        p.used = new int[] {hours, landings, days};
        p.open(11, day);
        parts.add(p);
        return parts.size() - 1;
    }

    int move(int part, int place) {
        if (!in(parts, part) || place < 0 || place > 11 || place < 10 && !in(planes, place)) {
            return BAD;
        }
        Part p = parts.get(part);
        if (p.place == place || p.place == 12) {
            return NOT;
        }
        if (place < 10 && (planes.get(place).returned() || ofKindAt(p.kind, place) >= planes.get(place).need[p.kind])) {
            return NOT;
        }
        if (allStays() == 500) {
            return FULL;
        }
        p.close(day);
        p.open(place, day);
        return 1;
    }

    int swap(int on, int stored) {
        if (!in(parts, on) || !in(parts, stored)) {
            return BAD;
        }
        Part a = parts.get(on), b = parts.get(stored);
        if (a.place > 9 || b.place != 11 || a.kind != b.kind) {
            return NOT;
        }
        if (allStays() > 498) {
            return FULL;
        }
        int plane = a.place;
        a.close(day);
        a.open(11, day);
        b.close(day);
        b.open(plane, day);
        return 1;
    }

    int repair(int part, int measures) {
        if (!in(parts, part) || measures < 1 || measures > 7) {
            return BAD;
        }
        Part p = parts.get(part);
        if (p.place != 10) {
            return NOT;
        }
        p.used[0] = measures % 2 == 1 ? 0 : p.used[0];
        p.used[1] = measures / 2 % 2 == 1 ? 0 : p.used[1];
        p.used[2] = measures / 4 == 1 ? 0 : p.used[2];
        return 1;
    }

    int ofPart(int part, int what) {
        if (!in(parts, part) || what < 0 || what > 8) {
            return VOID;
        }
        Part p = parts.get(part);
        return new int[] {p.kind, p.number, p.place, p.used[0], p.used[1], p.used[2], p.told.size(), gaps(p),
            cantBe(p)}[what];
    }

    private static int gaps(Part p) {
        return (int) p.told.stream().filter(Stay::gap).count();
    }

    private int cantBe(Part p) {
        List<Stay> stays = p.inOrder();
        for (Stay a : stays) {
            for (Stay b : stays) {
                int endA = a.to == null ? day : a.to, endB = b.to == null ? day : b.to;
                if (a != b && a.where != b.where && a.from < endB && b.from < endA) {
                    return 1;
                }
            }
        }
        for (int i = 0; i < stays.size(); i++) {
            for (int m = 0; m < 2; m++) {
                Stay s = stays.get(i);
                if (s.where != 10 && p.hoursOrLandingsAtEnd(s, m) < s.start[m]) {
                    return 2;
                }
                Stay t = i == 0 ? null : stays.get(i - 1);
                if (t != null && s.where != 10 && t.where != 10 && s.start[m] < p.hoursOrLandingsAtEnd(t, m)) {
                    return 2;
                }
            }
        }
        for (Part q : parts) {
            if (q != p && q.kind == p.kind && q.number == p.number && q.place != 12) {
                return 3;
            }
        }
        return 0;
    }

    private int leftOf(Part p, int m, int k) {
        int limit = kinds.get(p.kind).limit[m], left = limit - p.used[m];
        for (Stay s : p.told) {
            left -= s.gap() ? (int) ((long) limit * hundredths(p, s, k) / 100) : 0;
        }
        return left;
    }

    int left(int part, int measure, int k) {
        if (!in(parts, part) || measure < 0 || measure > 2 || !isDay(k)) {
            return VOID;
        }
        Part p = parts.get(part);
        return kinds.get(p.kind).limit[measure] == 0 ? VOID : leftOf(p, measure, k);
    }

    int least(int part, int k) {
        if (!in(parts, part) || !isDay(k)) {
            return BAD;
        }
        Part p = parts.get(part);
        int found = NOT;
        long least = Long.MAX_VALUE;
        for (int m = 0; m < 3; m++) {
            int limit = kinds.get(p.kind).limit[m];
            if (limit != 0 && leftOf(p, m, k) * 10000L / limit < least) {
                least = leftOf(p, m, k) * 10000L / limit;
                found = m;
            }
        }
        return found;
    }

    private Stay stayOf(int part, int i) {
        return in(parts, part) && in(parts.get(part).told, i) ? parts.get(part).inOrder().get(i) : null;
    }

    int stay(int part, int i, int what) {
        Stay s = stayOf(part, i);
        if (s == null || what < 0 || what > 7) {
            return VOID;
        }
        Part p = parts.get(part);
        return new int[] {s.where, s.from, s.to == null ? VOID : s.to, s.start[0], p.hoursOrLandingsAtEnd(s, 0),
            s.start[1], p.hoursOrLandingsAtEnd(s, 1), s.paper ? 1 : 0}[what];
    }

    int paper(int part, int i, int is) {
        Stay s = stayOf(part, i);
        if (s == null || is < 0 || is > 1) {
            return BAD;
        }
        if (s.to == null) {
            return NOT;
        }
        int was = s.paper ? 1 : 0;
        s.paper = is == 1;
        return was;
    }

    int past(int part, int where, int days, int hours, int landings, int ends) {
        if (!in(parts, part) || where < 0 || where > 11 || where < 10 && !in(planes, where)) {
            return BAD;
        }
        if (days < 0 || ends < 0 || !to99999(hours, landings)) {
            return BAD;
        }
        int a = days / 20000, b = days % 20000;
        int landingsAtEnd = landings + ends / 100000 - 500;
        if (!isDay(a) || !isDay(b) || a > b || ends / 100000 > 999 || !to99999(landingsAtEnd)) {
            return BAD;
        }
        if (allStays() == 500) {
            return FULL;
        }
        Stay s = new Stay();
        s.where = where;
        s.from = a - 9999;
        s.to = b - 9999;
        s.start = new int[] {hours, landings};
        s.end = new int[] {ends % 100000, landingsAtEnd};
        parts.get(part).told.add(s);
        return parts.get(part).told.size();
    }

    int feed(int n, int v) {
        if (n < 1 || n > 4) {
            return BAD;
        }
        if (tape.length() + n > 120) {
            return FULL;
        }
        int[] bytes = {v & 255, v >>> 8 & 255, v >>> 16 & 255, v >>> 24};
        for (int i = 0; i < n; i++) {
            tape += (char) bytes[i];
        }
        return tape.length();
    }

    int law(int from) {
        if (!isDay(from)) {
            return BAD;
        }
        if (laws.size() == 10) {
            return FULL;
        }
        String text = tape;
        tape = "";
        int fault = lawFault(text);
        if (fault >= 0) {
            return -100 - fault;
        }
        Law law = new Law();
        law.text = text;
        law.made = day;
        law.from = from;
        laws.add(law);
        return laws.size() - 1;
    }

    /** Goes through the bytes with the row of what is open: each of ( - ? and : (a ? behind its colon). */
    static int lawFault(String text) {
        StringBuilder open = new StringBuilder();
        StringBuilder compared = new StringBuilder("n");
        boolean wantsOperand = true;
        int digits = 0;
        for (int i = 0; i < text.length(); i++) {
            char b = text.charAt(i);
            boolean digit = b >= '0' && b <= '9';
            if (!wantsOperand && digit && digits > 0 && digits < 5) {
                digits++;
                continue;
            }
            if (wantsOperand) {
                digits = digit ? 1 : 0;
                if (digit || "dhlwkn".indexOf(b) >= 0) {
                    wantsOperand = false;
                    closeMinuses(open, compared);
                } else if ((b == '-' || b == '(') && open.length() < 8) {
                    open.append(b);
                    compared.append('n');
                } else {
                    return i;
                }
                continue;
            }
            digits = 0;
            int last = compared.length() - 1;
            if ("+-*/".indexOf(b) >= 0) {
                wantsOperand = true;
            } else if ("<=>".indexOf(b) >= 0 && compared.charAt(last) == 'n') {
                compared.setCharAt(last, 'y');
                wantsOperand = true;
            } else if (b == '?' && open.length() < 8) {
                open.append('?');
                compared.append('n');
                wantsOperand = true;
            } else if (b == ':' || b == ')') {
                closeColons(open, compared);
                char wanted = b == ':' ? '?' : '(';
                if (open.length() == 0 || open.charAt(open.length() - 1) != wanted) {
                    return i;
                }
                open.setLength(open.length() - 1);
                compared.setLength(compared.length() - 1);
                if (b == ':') {
                    open.append(':');
                    compared.append('n');
                    wantsOperand = true;
                } else {
                    closeMinuses(open, compared);
                }
            } else {
                return i;
            }
        }
        closeColons(open, compared);
        return wantsOperand || open.length() > 0 ? text.length() : -1;
    }

    private static void closeMinuses(StringBuilder open, StringBuilder compared) {
        closeAll(open, compared, '-');
    }

    private static void closeColons(StringBuilder open, StringBuilder compared) {
        closeAll(open, compared, ':');
    }

    private static void closeAll(StringBuilder open, StringBuilder compared, char what) {
        while (open.length() > 0 && open.charAt(open.length() - 1) == what) {
            open.setLength(open.length() - 1);
            compared.setLength(compared.length() - 1);
        }
    }

    /** Works a text out by cutting it where it binds least. */
    static int worth(String e, IntUnaryOperator name) {
        int mark = firstOutside(e, "?");
        if (mark >= 0) {
            int colon = mark + 1;
            for (int deep = 0, round = 0; round > 0 || deep > 0 || e.charAt(colon) != ':'; colon++) {
                char b = e.charAt(colon);
                round += b == '(' ? 1 : b == ')' ? -1 : 0;
                deep += round > 0 ? 0 : b == '?' ? 1 : b == ':' ? -1 : 0;
            }
            boolean first = worth(e.substring(0, mark), name) != 0;
            return worth(first ? e.substring(mark + 1, colon) : e.substring(colon + 1), name);
        }
        int sign = firstOutside(e, "<=>");
        if (sign >= 0) {
            int a = worth(e.substring(0, sign), name), b = worth(e.substring(sign + 1), name);
            return (e.charAt(sign) == '<' ? a < b : e.charAt(sign) == '=' ? a == b : a > b) ? 1 : 0;
        }
        int cut = lastOutside(e, "+-");
        cut = cut < 0 ? lastOutside(e, "*/") : cut;
        if (cut >= 0) {
            int a = worth(e.substring(0, cut), name), b = worth(e.substring(cut + 1), name);
            char by = e.charAt(cut);
            return by == '+' ? a + b : by == '-' ? a - b : by == '*' ? a * b : b == 0 ? 0 : a / b;
        }
        if (e.charAt(0) == '-') {
            return -worth(e.substring(1), name);
        }
        if (e.charAt(0) == '(') {
            return worth(e.substring(1, e.length() - 1), name);
        }
        return e.charAt(0) <= '9' ? Integer.parseInt(e) : name.applyAsInt(e.charAt(0));
    }

    private static int firstOutside(String e, String signs) {
        for (int i = 0, round = 0; i < e.length(); i++) {
            round += e.charAt(i) == '(' ? 1 : e.charAt(i) == ')' ? -1 : 0;
            if (round == 0 && signs.indexOf(e.charAt(i)) >= 0) {
                return i;
            }
        }
        return -1;
    }

    private static int lastOutside(String e, String signs) {
        for (int i = e.length() - 1, round = 0; i > 0; i--) {
            round += e.charAt(i) == ')' ? 1 : e.charAt(i) == '(' ? -1 : 0;
            boolean betweenTwo = "+-*/(".indexOf(e.charAt(i - 1)) < 0;
            if (round == 0 && betweenTwo && signs.indexOf(e.charAt(i)) >= 0) {
                return i;
            }
        }
        return -1;
    }

    private int hundredths(Part p, Stay s, int k) {
        Law inForce = null;
        for (Law law : laws) {
            inForce = law.made <= k && law.from <= s.to ? law : inForce;
        }
        if (inForce == null) {
            return 0;
        }
        List<Stay> order = p.inOrder();
        int n = 0;
        for (Stay t : order) {
            boolean ahead = t.gap() && (t.to < s.to || t.to.equals(s.to) && order.indexOf(t) < order.indexOf(s));
            n += ahead ? 1 : 0;
        }
        int ahead = n;
        int value = worth(inForce.text, name -> {
            switch (name) {
                case 'd': return s.to - s.from;
                case 'h': return s.end[0] - s.start[0];
                case 'l': return s.end[1] - s.start[1];
                case 'w': return s.where;
                case 'k': return p.kind;
                default: return ahead;
            }
        });
        return value < 0 ? 0 : value > 100 ? 100 : value;
    }

    int lost(int part, int i, int k) {
        Stay s = stayOf(part, i);
        if (s == null || !isDay(k)) {
            return BAD;
        }
        return s.gap() ? hundredths(parts.get(part), s, k) : NOT;
    }

    int order(int kind, int day) {
        if (!in(kinds, kind) || !isDay(day)) {
            return BAD;
        }
        if (orders.size() == 20) {
            return FULL;
        }
        Order o = new Order();
        o.kind = kind;
        o.day = day;
        orders.add(o);
        return orders.size() - 1;
    }

    int done(int order, int plane) {
        if (!in(orders, order) || !in(planes, plane)) {
            return BAD;
        }
        Order o = orders.get(order);
        if (o.done[plane] || planes.get(plane).need[o.kind] == 0) {
            return NOT;
        }
        o.done[plane] = true;
        return 1;
    }

    static int contractFault(String text) {
        for (int i = 0; i < text.length(); i++) {
            Matcher m = CONTRACT.matcher(text.substring(0, i + 1));
            if (!m.matches() && !m.hitEnd()) {
                return i;
            }
        }
        return CONTRACT.matcher(text).matches() ? -1 : text.length();
    }

    int contract(int plane, int day, int rent) {
        if (!in(planes, plane) || !isDay(day) || !to99999(rent)) {
            return BAD;
        }
        Plane p = planes.get(plane);
        if (p.returned()) {
            return NOT;
        }
        String text = tape;
        tape = "";
        int fault = contractFault(text);
        if (fault >= 0) {
            return -100 - fault;
        }
        p.lines = new ArrayList<>();
        for (String line : text.split(";")) {
            p.lines.add(line.split(" "));
        }
        p.returnDay = day;
        p.rent = rent;
        return p.lines.size();
    }

    private long units(int plane, String[] line, int onDay, int k) {
        Plane p = planes.get(plane);
        long sum = 0;
        switch (line[0]) {
            case "g":
                return at(plane).stream().mapToInt(PlainModel::gaps).sum();
            case "o":
                return orders.stream().filter(o -> p.need[o.kind] > 0 && !o.done[plane]).count();
            case "m":
                for (int kind = 0; kind < kinds.size(); kind++) {
                    sum += Math.max(0, p.need[kind] - ofKindAt(kind, plane));
                }
                return sum;
            case "t":
                return Math.max(0, onDay - p.returnDay);
            default:
                int m = "hld".indexOf(line[0]), kind = Integer.parseInt(line[1]), n = Integer.parseInt(line[2]);
                for (Part q : at(plane)) {
                    if (q.kind == kind && kinds.get(kind).limit[m] > 0) {
                        sum += Math.max(0, n - leftOf(q, m, k));
                    }
                }
                return sum;
        }
    }

    private int cost(int plane, String[] line, int onDay, int k) {
        long units = units(plane, line, onDay, k), sum = 0;
        if (line[0].equals("t")) {
            long rent = planes.get(plane).rent;
            for (int late = 1; late <= units; late++) {
                sum += late <= Integer.parseInt(line[1]) ? rent : rent * Integer.parseInt(line[2]) / 100;
            }
        } else {
            sum = units * Integer.parseInt(line[line.length - 1]);
        }
        return (int) Math.min(sum, 2000000000);
    }

    private int costOfAll(int plane, int onDay, int k) {
        long sum = 0;
        for (String[] line : planes.get(plane).lines) {
            sum += cost(plane, line, onDay, k);
        }
        return (int) Math.min(sum, 2000000000);
    }

    int lacks(int plane, int i, int onDay, int k) {
        if (!in(planes, plane) || planes.get(plane).lines == null || !isDay(onDay) || !isDay(k)) {
            return BAD;
        }
        List<String[]> lines = planes.get(plane).lines;
        return in(lines, i) ? (int) units(plane, lines.get(i), onDay, k) : BAD;
    }

    int costs(int plane, int i, int onDay, int k) {
        if (!in(planes, plane) || planes.get(plane).lines == null || !isDay(onDay) || !isDay(k)) {
            return VOID;
        }
        List<String[]> lines = planes.get(plane).lines;
        if (i == -1) {
            return costOfAll(plane, onDay, k);
        }
        return in(lines, i) ? cost(plane, lines.get(i), onDay, k) : VOID;
    }

    int giveBack(int plane) {
        if (!in(planes, plane)) {
            return BAD;
        }
        Plane p = planes.get(plane);
        if (p.returned() || p.lines == null) {
            return NOT;
        }
        p.cost = costOfAll(plane, day, day);
        p.costDay = day;
        for (Part q : at(plane)) {
            q.close(day);
            q.place = 12;
        }
        return p.cost;
    }

    int best(int plane, int kind) {
        if (!in(planes, plane) || !in(kinds, kind)) {
            return BAD;
        }
        Plane p = planes.get(plane);
        if (p.lines == null || p.returned() || p.need[kind] == 0) {
            return NOT;
        }
        List<Part> row = parts.stream()
            .filter(q -> q.kind == kind && (q.place == plane || q.place == 11)).toList();
        if (row.size() > 8) {
            return BIG;
        }
        if (row.isEmpty()) {
            return 0;
        }
        List<int[]> sets = new ArrayList<>();
        listSets(row.size(), Math.min(p.need[kind], row.size()), 0, new int[0], sets);
        int found = 0, foundCost = 0, foundNew = 0;
        for (int[] set : sets) {
            int bits = 0, fresh = 0;
            for (int i : set) {
                bits |= 1 << i;
                fresh += row.get(i).place != plane ? 1 : 0;
            }
            int cost = costWith(plane, row, bits);
            if (found == 0 || cost < foundCost || cost == foundCost && fresh < foundNew) {
                found = bits;
                foundCost = cost;
                foundNew = fresh;
            }
        }
        lastBest = foundCost;
        return found;
    }

    /** All sets of so many of n places, in the order of a dictionary. */
    private static void listSets(int n, int size, int from, int[] head, List<int[]> sets) {
        if (head.length == size) {
            sets.add(head);
            return;
        }
        for (int i = from; i < n; i++) {
            int[] longer = java.util.Arrays.copyOf(head, head.length + 1);
            longer[head.length] = i;
            listSets(n, size, i + 1, longer, sets);
        }
    }

    private int costWith(int plane, List<Part> row, int bits) {
        int[] places = row.stream().mapToInt(q -> q.place).toArray();
        for (int i = 0; i < row.size(); i++) {
            row.get(i).place = (bits >> i & 1) == 1 ? plane : 11;
        }
        int cost = costOfAll(plane, day, day);
        for (int i = 0; i < row.size(); i++) {
            row.get(i).place = places[i];
        }
        return cost;
    }

    int bestCost() {
        return lastBest;
    }

    int reserve(int plane, int kind) {
        return in(planes, plane) && in(kinds, kind) ? planes.get(plane).saved[kind] : BAD;
    }

    int claim(int part, int coins) {
        if (!in(parts, part) || coins < 1 || coins > 999999) {
            return BAD;
        }
        Part p = parts.get(part);
        List<Stay> order = p.inOrder();
        int at = 0;
        while (at < order.size() && order.get(at).to != null) {
            at++;
        }
        if (p.place != 10 || at == 0 || order.get(at - 1).where > 9) {
            return NOT;
        }
        Plane from = planes.get(order.get(at - 1).where);
        int out = Math.min(coins, from.saved[p.kind]);
        from.saved[p.kind] -= out;
        paid += out;
        return out;
    }

    int half(int plane, int k) {
        if (!in(planes, plane) || !isDay(k)) {
            return VOID;
        }
        long sum = 0;
        for (Part p : at(plane)) {
            Kind kind = kinds.get(p.kind);
            for (int m = 0; m < 3; m++) {
                sum += kind.limit[m] == 0 ? 0 : (long) (leftOf(p, m, k) - kind.limit[m] / 2) * kind.rate / 100;
            }
        }
        return (int) Math.min(1999999999, Math.max(-1999999999, sum));
    }

    int insure(int plane) {
        if (!in(planes, plane)) {
            return BAD;
        }
        long half = half(plane, day), sum = planes.get(plane).worth + (half < 0 ? 0 : half);
        return grounded(plane, day) != 0 ? 0 : (int) (sum / 1000 + (sum % 1000 > 0 ? 1 : 0));
    }

    int link(int plane, int lessor, int rent) {
        if (!in(planes, plane) || lessor < 0 || lessor > 9 || !to99999(rent)) {
            return BAD;
        }
        List<Integer> chain = planes.get(plane).chain;
        if (chain.size() == 4) {
            return FULL;
        }
        chain.add(rent);
        return chain.size();
    }

    int net(int plane, int i, int days) {
        if (!in(planes, plane) || !in(planes.get(plane).chain, i) || days < 1 || days > 999) {
            return VOID;
        }
        List<Integer> chain = planes.get(plane).chain;
        return days * (chain.get(i) - (i + 1 < chain.size() ? chain.get(i + 1) : 0));
    }

    int count(int what) {
        if (what < 0 || what > 12) {
            return BAD;
        }
        return new int[] {kinds.size(), planes.size(), parts.size(), day, laws.size(), orders.size(), allStays(),
            tape.length(), at(12).size(), at(11).size(), at(10).size(),
            (int) planes.stream().filter(Plane::returned).count(), paid}[what];
    }
}
