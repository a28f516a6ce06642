import java.util.ArrayList;
import java.util.LinkedHashMap;
import java.util.List;
import java.util.Map;

/** Every question that can be asked of a state, and some calls that could come next, by their names. */
final class View {
    private static final int LAST_DAY = 9999;

    private final Map<String, Call> questions = new LinkedHashMap<>();
    private final Map<String, Call> nexts = new LinkedHashMap<>();

    /** The questions there are in one of these states; they are asked of the others too. */
    View(Scene... scenes) {
        for (int what = 0; what <= 12; what++) {
            ask("count", what);
        }
        questions.put("bestCost()", y -> y.bestCost());
        next("law", 0);
        for (Scene scene : scenes) {
            PlanesBack x = scene.made();
            for (int plane = 0; plane < x.count(1); plane++) {
                askOfPlane(plane, x);
            }
            for (int part = 0; part < x.count(2); part++) {
                askOfPart(part, x);
            }
        }
    }

    /** What is answered otherwise, as "question before>after". */
    List<String> changes(Scene before, Scene after) {
        List<String> all = new ArrayList<>();
        Map<String, Integer> first = answers(before), then = answers(after);
        for (String name : first.keySet()) {
            if (!first.get(name).equals(then.get(name))) {
                all.add(name + " " + shown(first.get(name)) + ">" + shown(then.get(name)));
            }
        }
        return all;
    }

    private static String shown(int answer) {
        return answer == Check.VOID ? "VOID" : "" + answer;
    }

    private Map<String, Integer> answers(Scene scene) {
        Map<String, Integer> all = new LinkedHashMap<>();
        PlanesBack x = scene.made();
        int calls = scene.size();
        for (String name : questions.keySet()) {
            if (calls == Sentences.MOST_CALLS) {
                x = scene.made();
                calls = scene.size();
            }
            all.put(name, questions.get(name).on(x));
            calls++;
        }
        for (String name : nexts.keySet()) {
            all.put("next " + name, nexts.get(name).on(scene.made()));
        }
        return all;
    }

    private void ask(String name, int... arguments) {
        questions.put(name + listed(arguments), y -> asked(y, name, arguments));
    }

    private void next(String name, int... arguments) {
        nexts.put(name + listed(arguments), y -> asked(y, name, arguments));
    }

    private static String listed(int[] arguments) {
        StringBuilder all = new StringBuilder("(");
        for (int argument : arguments) {
            all.append(all.length() > 1 ? "," : "").append(argument);
        }
        return all.append(")").toString();
    }

    private static int asked(PlanesBack x, String name, int[] a) {
        switch (name) {
            case "count": return x.count(a[0]);
            case "ofPlane": return x.ofPlane(a[0], a[1]);
            case "grounded": return x.grounded(a[0], a[1]);
            case "half": return x.half(a[0], a[1]);
            case "insure": return x.insure(a[0]);
            case "reserve": return x.reserve(a[0], a[1]);
            case "net": return x.net(a[0], a[1], a[2]);
            case "lacks": return x.lacks(a[0], a[1], a[2], a[3]);
            case "costs": return x.costs(a[0], a[1], a[2], a[3]);
            case "ofPart": return x.ofPart(a[0], a[1]);
            case "left": return x.left(a[0], a[1], a[2]);
            case "least": return x.least(a[0], a[1]);
            case "stay": return x.stay(a[0], a[1], a[2]);
            case "lost": return x.lost(a[0], a[1], a[2]);
            case "need": return x.need(a[0], a[1], a[2]);
            case "done": return x.done(a[0], a[1]);
            case "fly": return x.fly(a[0], a[1], a[2]);
            case "best": return x.best(a[0], a[1]);
            case "law": return x.law(a[0]);
            case "claim": return x.claim(a[0], a[1]);
            case "repair": return x.repair(a[0], a[1]);
            default: throw new IllegalStateException(name);
        }
    }

    private void askOfPlane(int plane, PlanesBack x) {
        for (int what = 0; what <= 8; what++) {
            ask("ofPlane", plane, what);
        }
        for (int k = 0; k <= LAST_DAY; k += LAST_DAY) {
            ask("grounded", plane, k);
            ask("half", plane, k);
        }
        ask("insure", plane);
        for (int kind = 0; kind < x.count(0); kind++) {
            ask("reserve", plane, kind);
            next("need", plane, kind, 3);
            next("best", plane, kind);
        }
        for (int link = 0; link < 4; link++) {
            ask("net", plane, link, 1);
        }
        for (int order = 0; order < x.count(5); order++) {
            next("done", order, plane);
        }
        next("fly", plane, 1, 1);
        for (int line = -1; line == -1 || line < 30 && x.lacks(plane, line, 0, 0) >= 0; line++) {
            ask("lacks", plane, line, x.count(3), LAST_DAY);
            ask("costs", plane, line, x.count(3), LAST_DAY);
        }
    }

    private void askOfPart(int part, PlanesBack x) {
        for (int what = 0; what <= 8; what++) {
            ask("ofPart", part, what);
        }
        for (int k = 0; k <= LAST_DAY; k += LAST_DAY) {
            for (int measure = 0; measure < 3; measure++) {
                ask("left", part, measure, k);
            }
            ask("least", part, k);
        }
        for (int stay = 0; stay < x.ofPart(part, 6); stay++) {
            for (int what = 0; what <= 7; what++) {
                ask("stay", part, stay, what);
            }
            ask("lost", part, stay, LAST_DAY);
        }
        next("claim", part, 999999);
        next("repair", part, 7);
    }
}
