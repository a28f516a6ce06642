import java.util.ArrayList;
import java.util.List;

/** All that can be asked of a state, and what further calls would make of it. */
final class Look {
    private static final int MOST_PARTS_TO_TRY = 6;

    private final Scene scene;
    private final List<Call> questions = new ArrayList<>();
    private final List<Call> nexts = new ArrayList<>();
    private final List<Integer> answers;
    private final List<Integer> nextAnswers;

    Look(Scene scene) {
        this.scene = scene;
        PlanesBack x = scene.made();
        askOfAll(x);
        askOfPlanes(x);
        askOfParts(x);
        goOn(x);
        answers = answersOf(scene, questions);
        nextAnswers = nextAnswersOf(scene);
    }

    /** What is not the same if this call is made as well; null, if the call changes nothing. */
    String changedBy(Call call) {
        Scene with = scene.then(call);
        List<Integer> then = answersOf(with, questions);
        for (int i = 0; i < then.size(); i++) {
            if (!then.get(i).equals(answers.get(i))) {
                return "question " + i + " of its state: " + answers.get(i) + ", then " + then.get(i);
            }
        }
        List<Integer> next = nextAnswersOf(with);
        for (int i = 0; i < next.size(); i++) {
            if (!next.get(i).equals(nextAnswers.get(i))) {
                return "answer " + i + " of further calls: " + nextAnswers.get(i) + ", then " + next.get(i);
            }
        }
        return null;
    }

    /** No object is asked more than the document lets it be: so many objects are made. */
    private static List<Integer> answersOf(Scene scene, List<Call> calls) {
        List<Integer> all = new ArrayList<>();
        int room = Math.max(1, Sentences.MOST_CALLS - scene.size());
        for (int at = 0; at < calls.size(); at += room) {
            PlanesBack x = scene.made();
            for (Call call : calls.subList(at, Math.min(at + room, calls.size()))) {
                all.add(call.on(x));
            }
        }
        return all;
    }

    private List<Integer> nextAnswersOf(Scene start) {
        List<Integer> all = new ArrayList<>();
        for (Call next : nexts) {
            PlanesBack x = start.made();
            all.add(next.on(x));
            for (int what = 0; what <= 12; what++) {
                all.add(x.count(what));
            }
        }
        return all;
    }

    private void askOfAll(PlanesBack x) {
        for (int what = -1; what <= 13; what++) {
            int asked = what;
            questions.add(y -> y.count(asked));
        }
        questions.add(y -> y.bestCost());
    }

    // One plane, part and stay beyond those there are is asked for too: there must be none afterwards either.
    private void askOfPlanes(PlanesBack x) {
        for (int plane = 0; plane <= x.count(1); plane++) {
            int p = plane;
            for (int what = 0; what <= 8; what++) {
                int asked = what;
                questions.add(y -> y.ofPlane(p, asked));
            }
            for (int k : days(x)) {
                questions.add(y -> y.grounded(p, k));
                questions.add(y -> y.half(p, k));
                questions.add(y -> y.costs(p, -1, 9999, k));
            }
            questions.add(y -> y.insure(p));
            for (int kind = 0; kind <= x.count(0); kind++) {
                int asked = kind;
                questions.add(y -> y.reserve(p, asked));
            }
            for (int link = 0; link <= 4; link++) {
                int asked = link;
                questions.add(y -> y.net(p, asked, 1));
            }
            askOfLines(x, p);
        }
    }

    private void askOfLines(PlanesBack x, int p) {
        for (int line = 0; line <= 30 && (line == 0 || x.lacks(p, line - 1, 0, 0) >= 0); line++) {
            int i = line;
            questions.add(y -> y.lacks(p, i, 9999, 9999));
            questions.add(y -> y.costs(p, i, 9999, 9999));
        }
    }

    private void askOfParts(PlanesBack x) {
        for (int part = 0; part <= x.count(2); part++) {
            int p = part;
            for (int what = 0; what <= 8; what++) {
                int asked = what;
                questions.add(y -> y.ofPart(p, asked));
            }
            for (int k : days(x)) {
                for (int measure = 0; measure < 3; measure++) {
                    int asked = measure;
                    questions.add(y -> y.left(p, asked, k));
                }
                questions.add(y -> y.least(p, k));
            }
            askOfStays(x, p);
        }
    }

    private void askOfStays(PlanesBack x, int p) {
        for (int stay = 0; stay <= Math.max(0, x.ofPart(p, 6)); stay++) {
            int i = stay;
            for (int what = 0; what <= 7; what++) {
                int asked = what;
                questions.add(y -> y.stay(p, i, asked));
            }
            questions.add(y -> y.lost(p, i, 9999));
        }
    }

    private static int[] days(PlanesBack x) {
        return new int[] {0, x.count(3), 9999};
    }

    private void goOn(PlanesBack x) {
        int kinds = x.count(0), planes = x.count(1), parts = Math.min(MOST_PARTS_TO_TRY, x.count(2));
        nexts.add(y -> y.law(0));
        nexts.add(y -> y.feed(1, '1'));
        nexts.add(y -> y.kind(1, 2, 3, 4));
        nexts.add(y -> y.plane(5));
        nexts.add(y -> y.days(1));
        for (int kind = 0; kind < kinds; kind++) {
            int k = kind;
            nexts.add(y -> y.order(k, 6));
            nexts.add(y -> y.part(k, 7, 1, 2, 3));
        }
        for (int plane = 0; plane < planes; plane++) {
            goOnWithPlane(plane, kinds, x.count(5));
        }
        for (int part = 0; part < parts; part++) {
            goOnWithPart(part, parts);
        }
    }

    private void goOnWithPlane(int p, int kinds, int orders) {
        nexts.add(y -> y.fly(p, 5, 2));
        nexts.add(y -> y.giveBack(p));
        nexts.add(y -> y.link(p, 1, 2));
        nexts.add(y -> y.contract(p, 3, 4));
        for (int kind = 0; kind < kinds; kind++) {
            int k = kind;
            nexts.add(y -> y.need(p, k, 3));
            nexts.add(y -> y.best(p, k));
        }
        for (int order = 0; order < orders; order++) {
            int o = order;
            nexts.add(y -> y.done(o, p));
        }
    }

    private void goOnWithPart(int p, int parts) {
        for (int place : new int[] {0, 1, 10, 11}) {
            nexts.add(y -> y.move(p, place));
        }
        nexts.add(y -> y.repair(p, 7));
        nexts.add(y -> y.claim(p, 999999));
        nexts.add(y -> y.paper(p, 0, 1));
        nexts.add(y -> y.past(p, 11, 0, 0, 0, 50000000));
        for (int part = 0; part < parts; part++) {
            int other = part;
            nexts.add(y -> y.swap(p, other));
        }
    }
}
