import java.util.ArrayList;
import java.util.List;
import java.util.function.IntFunction;

/** Calls that lead to a state. They can be made anew on as many objects as a test asks for. */
final class Scene {
    private final List<Call> calls = new ArrayList<>();

    /** A scene that goes on from this one, which stays as it is. */
    Scene then(Call... more) {
        Scene next = new Scene();
        next.calls.addAll(calls);
        next.calls.addAll(List.of(more));
        return next;
    }

    Scene times(int n, IntFunction<Call> call) {
        Call[] more = new Call[n];
        for (int i = 0; i < n; i++) {
            more[i] = call.apply(i);
        }
        return then(more);
    }

    Scene feed(String text) {
        return times((text.length() + 3) / 4, i -> bytes(text.substring(4 * i, Math.min(4 * i + 4, text.length()))));
    }

    private static Call bytes(String few) {
        int v = 0;
        for (int i = 0; i < few.length(); i++) {
            v |= (few.charAt(i) & 255) << 8 * i;
        }
        int all = v;
        return x -> x.feed(few.length(), all);
    }

    Scene law(String text, int from) {
        return feed(text).then(x -> x.law(from));
    }

    Scene contract(String text, int plane, int day, int rent) {
        return feed(text).then(x -> x.contract(plane, day, rent));
    }

    /** used: hours at the beginning and the end, landings at the beginning and the end. */
    Scene past(int part, int where, int first, int last, int... used) {
        return then(x -> Check.past(x, part, where, first, last, used));
    }

    int size() {
        return calls.size();
    }

    PlanesBack made() {
        PlanesBack x = new PlanesBack();
        for (Call call : calls) {
            call.on(x);
        }
        return x;
    }
}
