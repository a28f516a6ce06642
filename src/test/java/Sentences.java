import java.io.IOException;
import java.util.ArrayList;
import java.util.IdentityHashMap;
import java.util.List;
import java.util.Map;
import java.util.TreeSet;
import java.util.function.IntFunction;
import java.util.function.IntUnaryOperator;

/**
 * Tests of sentences that name a boundary case. Each sentence is quoted from the document, and is tested at the
 * boundary and one beyond it; what is refused must change nothing that can be asked, now or by a further call.
 */
abstract class Sentences {
    static final int BAD = Check.BAD, NOT = Check.NOT, FULL = Check.FULL, BIG = Check.BIG, VOID = Check.VOID;
    static final int MIN = Integer.MIN_VALUE, MAX = Integer.MAX_VALUE, MOST_CALLS = 512;

    private final Check c;
    private final Document document;
    private final Map<Scene, Look> looks = new IdentityHashMap<>();
    private final TreeSet<Integer> promises = new TreeSet<>();
    private String label = "";
    private int sentences;

    Sentences(String test) throws IOException {
        c = new Check(test);
        document = new Document();
    }

    /** What follows tests this sentence of a promise. */
    final void promise(int number, String sentence) {
        c.is("promise " + number + " says: " + sentence,
            !document.isHere() || document.promise(number).contains(sentence));
        promises.add(number);
        label = "promise " + number + ", '" + sentence + "': ";
        sentences++;
    }

    /** What follows tests this sentence of the terms, ahead of the promises. */
    final void terms(String sentence) {
        c.is("the terms say: " + sentence, !document.isHere() || document.terms().contains(sentence));
        label = "terms, '" + sentence + "': ";
        sentences++;
    }

    final void due(String what, Scene scene, Call call, long want) {
        if (scene.size() >= MOST_CALLS) {
            c.is(label + what + " is asked within " + MOST_CALLS + " calls", false);
        }
        c.due(label + what, call.on(scene.made()), want);
    }

    final void refused(String what, Scene scene, Call call, long want) {
        due(what, scene, call, want);
        String changed = looks.computeIfAbsent(scene, Look::new).changedBy(call);
        c.is(label + what + " changes nothing" + (changed == null ? "" : " (" + changed + ")"), changed == null);
    }

    /** A number may be low to high: what is answered there, and that the call is refused on both sides. */
    final void within(String what, Scene scene, IntFunction<Call> call, int low, int high, IntUnaryOperator good,
            int refusal) {
        TreeSet<Integer> inside = new TreeSet<>();
        for (int value : new int[] {low, low + 1, high - 1, high}) {
            if (value >= low && value <= high) {
                inside.add(value);
            }
        }
        for (int value : inside) {
            due(what + " " + value, scene, call.apply(value), good.applyAsInt(value));
        }
        for (int value : new int[] {MIN, low - 1, high + 1, MAX}) {
            refused(what + " " + value, scene, call.apply(value), refusal);
        }
    }

    final void within(String what, Scene scene, IntFunction<Call> call, int low, int high, int good, int refusal) {
        within(what, scene, call, low, high, value -> good, refusal);
    }

    /**
     * What the call answers, and all that it changes: the questions whose answers are others behind it, as
     * "question before>after", one or more to a text, parted by "; ".
     */
    final void changes(String what, Scene scene, Call call, long want, String... changes) {
        due(what, scene, call, want);
        Scene after = scene.then(call);
        List<String> due = new ArrayList<>();
        for (String some : changes) {
            due.addAll(List.of(some.split("; ")));
        }
        List<String> seen = new View(scene, after).changes(scene, after);
        for (String change : seen) {
            c.is(label + what + " does not change " + change, due.contains(change));
        }
        for (String change : due) {
            c.is(label + what + " changes " + change, seen.contains(change));
        }
    }

    static Scene start() {
        return new Scene();
    }

    /**
     * Something of everything: part 0 and 2 on plane 0, part 1 in a shop from plane 0, part 3 in store, part 4 gone
     * with plane 2; plane 1 has no contract; gaps, papers, laws, orders, reserves, a chain, and an unfinished text.
     */
    static Scene rich() {
        return start()
            .then(x -> x.kind(1000, 500, 400, 5010), x -> x.kind(2000, 0, 0, 1002), x -> x.kind(0, 0, 0, 0))
            .then(x -> x.plane(90000), x -> x.plane(500), x -> x.plane(7))
            .then(x -> x.need(0, 0, 2), x -> x.need(0, 1, 1), x -> x.need(1, 0, 1), x -> x.need(2, 2, 1))
            .then(x -> x.part(0, 11, 100, 40, 30), x -> x.part(0, 12, 300, 90, 10), x -> x.part(1, 21, 500, 0, 0),
                x -> x.part(0, 13, 10, 5, 5), x -> x.part(2, 5, 1, 2, 3))
            .then(x -> x.move(0, 0), x -> x.move(1, 0), x -> x.move(2, 0), x -> x.move(4, 2))
            .then(x -> x.fly(0, 50, 10), x -> x.days(3))
            .past(3, 11, -20, -10, 0, 5, 0, 3).past(0, 1, -5, 0, 80, 100, 30, 40)
            .law("d+10", 0).law("20", 2)
            .then(x -> x.order(0, 10), x -> x.order(1, 9999), x -> x.done(1, 0), x -> x.paper(2, 0, 1))
            .contract("h 0 900 5;g 3;t 2 50;", 0, 2, 100).contract("g 7;", 2, 1, 9)
            .then(x -> x.giveBack(2), x -> x.best(0, 0), x -> x.move(1, 10), x -> x.days(1))
            .then(x -> x.link(0, 1, 500), x -> x.link(0, 2, 400))
            .feed("12+");
    }

    /** Two parts of one kind change places on a plane as often as makes so many stays (5 at least, odd). */
    static Scene oddStays(int stays) {
        return start()
            .then(x -> x.kind(1000, 0, 0, 0), x -> x.kind(0, 0, 0, 0), x -> x.plane(0), x -> x.need(0, 0, 1))
            .then(x -> x.part(0, 1, 0, 0, 0), x -> x.part(0, 2, 0, 0, 0), x -> x.move(0, 0))
            .times((stays - 3) / 2, i -> x -> x.swap(i % 2, 1 - i % 2));
    }

    final void end(int first, int last) {
        for (int number = first; number <= last; number++) {
            c.is("promise " + number + " has a sentence that is tested", promises.contains(number));
        }
        System.out.println("sentences tested: " + sentences);
        c.end();
    }
}
