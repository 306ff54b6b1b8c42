import java.util.ArrayList;
import java.util.List;

/**
 * Reads off a works all that its face can tell of its state, in at most 400 calls; as this takes measures, rows and
 * digits along, the works is spent then. Two works of the same state have the same transcript.
 */
final class Probe {
    private static final int MOST_CALLS = 400;
    private static final int LONGEST_RING = 8;

    private final Butterflyworks works;
    private final List<String> lines = new ArrayList<>();
    private int calls;

    private Probe(Butterflyworks works) {
        this.works = works;
    }

    static List<String> transcript(Butterflyworks works) {
        Probe probe = new Probe(works);
        probe.result();
        probe.plans();
        probe.madeOfPairsAndDigits();
        probe.measures();
        probe.typedRow();
        probe.ring();
        probe.digits();
        if (probe.calls > MOST_CALLS) {
            throw new IllegalStateException("the probe took " + probe.calls + " calls");
        }
        return probe.lines;
    }

    /** Whether the call answered; what it answered, or threw, is noted. */
    private boolean note(String name, Check.Call call) {
        calls++;
        Object answer = Check.outcome(call);
        lines.add(name + " " + answer);
        return !(answer instanceof String);
    }

    private void result() {
        note("checksum", works::checksum);
        note("zeroShare", works::zeroShare);
        note("results", works::results);
        for (int i = 0; i < 4; i++) {
            int place = i;
            note("result", () -> works.result(place));
        }
    }

    private void plans() {
        note("kept", works::kept);
        note("meanCost", works::meanCost);
        note("isSound", works::isSound);
        for (int i = 1; i <= 64; i++) {
            int length = i;
            if (note("figure of " + length, () -> works.figure(length, 'c'))) {
                nodes(length);
            }
        }
    }

    private void nodes(int length) {
        boolean isThere = true;
        for (int i = 0; i < 12 && isThere; i++) {
            int index = i;
            isThere = note("length", () -> works.node(length, index, 'n'))
                && note("rule", () -> works.node(length, index, 'r')) && note("a", () -> works.node(length, index, 'a'));
        }
    }

    private void madeOfPairsAndDigits() {
        boolean isThere = true;
        for (int i = 0; i < 32 && isThere; i++) {
            int place = i;
            isThere = note("real", () -> works.fixedAt(place, false)) && note("imaginary", () -> works.fixedAt(place, true));
        }
        product();
    }

    private void product() {
        note("joined", works::joined);
        boolean isThere = true;
        for (int i = 0; i < 48 && isThere; i++) {
            int place = i;
            isThere = note("product", () -> works.product(place));
        }
    }

    private void measures() {
        for (int i = 0; i < 5; i++) {
            note("fresh", works::fresh);
            note("searchMeasured", () -> works.searchMeasured(1, 12));
        }
        note("measures", () -> works.measure(11, 'd', 0, 1));
    }

    /** What the typed numbers are modulo all five primes tells them whole. */
    private void typedRow() {
        for (int i = 0; i < 5; i++) {
            int ground = i;
            note("plain", () -> works.plain(ground, false));
            note("checksum", works::checksum);
        }
        note("wipe", works::wipe);
    }

    private void ring() {
        boolean isRing = false;
        for (int i = 0; i < LONGEST_RING && !isRing; i++) {
            int first = i == 0 ? 1 : 0;
            note("type", () -> works.type(first));
            isRing = note("around", () -> works.around(4));
        }
        for (int i = 0; i < 5; i++) {
            int ground = i;
            note("around", () -> works.around(ground));
            note("checksum", works::checksum);
        }
    }

    private void digits() {
        note("multiply", works::multiply);
        product();
        note("wipeDigits", works::wipeDigits);
    }
}
