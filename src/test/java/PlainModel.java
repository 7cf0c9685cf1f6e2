import java.util.ArrayDeque;
import java.util.ArrayList;
import java.util.Deque;
import java.util.List;
import java.util.function.IntPredicate;
import java.util.regex.Matcher;
import java.util.regex.Pattern;

/**
 * The document said once more, as plainly as the Java library allows: all steps are kept for ever,
 * what is live is walked for at each question, and what would be is tried on a whole copy.
 */
final class PlainModel {
    private static final int INVALID = -1;
    private static final int NOT_POSSIBLE = -2;
    private static final int LIMIT = -3;
    private static final int NOT_FOUND = -4;
    private static final String LETTERS = "btocfneu";
    private static final Pattern STEP = Pattern.compile("([btocfneu])([0-9]{1,2});");

    private static final class Section {
        int needs;
        boolean hasFeeder;
        boolean feederOn;
        boolean bridged;
        boolean earth;
        boolean gang;
        int brought;
        int until;
        int left;

        Section copy() {
            Section c = new Section();
            c.needs = needs;
            c.hasFeeder = hasFeeder;
            c.feederOn = feederOn;
            c.bridged = bridged;
            c.earth = earth;
            c.gang = gang;
            c.brought = brought;
            c.until = until;
            c.left = left;
            return c;
        }
    }

    private record Isolator(int one, int other, boolean closed) {
    }

    private record Step(int kind, int at, int time) {
    }

    private static final class State {
        List<Section> sections = new ArrayList<>();
        List<Isolator> isolators = new ArrayList<>();
        List<Step> steps = new ArrayList<>();
        int pool = 12;
        int time;
        int late;

        State copy() {
            State c = new State();
            for (Section s : sections) {
                c.sections.add(s.copy());
            }
            c.isolators.addAll(isolators);
            c.steps.addAll(steps);
            c.pool = pool;
            c.time = time;
            c.late = late;
            return c;
        }

        /** Sections that one comes to from these over isolators that are closed. */
        boolean[] reach(IntPredicate from, IntPredicate closed) {
            boolean[] seen = new boolean[sections.size()];
            Deque<Integer> open = new ArrayDeque<>();
            for (int i = 0; i < seen.length; i++) {
                if (from.test(i)) {
                    seen[i] = true;
                    open.add(i);
                }
            }
            while (!open.isEmpty()) {
                int s = open.poll();
                for (int i = 0; i < isolators.size(); i++) {
                    Isolator k = isolators.get(i);
                    if (closed.test(i) && (k.one == s || k.other == s)) {
                        int t = k.one == s ? k.other : k.one;
                        if (!seen[t]) {
                            seen[t] = true;
                            open.add(t);
                        }
                    }
                }
            }
            return seen;
        }

        boolean[] group(int section) {
            return reach(s -> s == section, i -> isolators.get(i).closed);
        }

        boolean[] live() {
            boolean[] live = new boolean[sections.size()];
            for (int s = 0; s < live.length; s++) {
                boolean[] group = group(s);
                for (int t = 0; t < live.length; t++) {
                    live[s] |= group[t] && sections.get(t).feederOn;
                }
            }
            return live;
        }

        /** The kind that set it last among the steps from one to another index, or -1. */
        int lastThatSet(int from, int to, int kind, int otherKind, int at) {
            for (int i = to - 1; i >= from; i--) {
                Step s = steps.get(i);
                if ((s.kind == kind || s.kind == otherKind) && s.at == at) {
                    return s.kind;
                }
            }
            return -1;
        }

        boolean closedByLog(int isolator) {
            int first = Math.max(0, steps.size() - 24);
            int set = lastThatSet(first, steps.size(), 2, 3, isolator);
            if (set < 0) {
                set = lastThatSet(0, first, 2, 3, isolator);
            }
            return set != 2;
        }

        boolean feederByLog(int section) {
            int first = Math.max(0, steps.size() - 24);
            int set = lastThatSet(first, steps.size(), 4, 5, section);
            if (set < 0) {
                set = lastThatSet(0, first, 4, 5, section);
            }
            return set < 0 ? sections.get(section).hasFeeder : set == 5;
        }

        int used() {
            return sections.stream().filter(s -> s.bridged).mapToInt(s -> s.needs).sum();
        }

        boolean has(int kind, int at) {
            return at >= 0 && at < (kind == 2 || kind == 3 ? isolators.size() : sections.size());
        }

        void make(int kind, int at) {
            if (kind == 2 || kind == 3) {
                Isolator k = isolators.get(at);
                isolators.set(at, new Isolator(k.one, k.other, kind == 3));
            } else {
                Section s = sections.get(at);
                switch (kind) {
                    case 0 -> s.bridged = true;
                    case 1 -> s.bridged = false;
                    case 4 -> s.feederOn = false;
                    case 5 -> s.feederOn = true;
                    case 6 -> s.earth = true;
                    default -> s.earth = false;
                }
            }
            steps.add(new Step(kind, at, time));
        }

        int refusal(int kind, int at) {
            boolean[] live = live();
            State then = copy();
            then.make(kind, at);
            boolean[] liveThen = then.live();
            boolean trams = false;
            boolean earth = false;
            boolean tools = false;
            for (int s = 0; s < live.length; s++) {
                trams |= live[s] && !liveThen[s] && !sections.get(s).bridged;
                earth |= !live[s] && liveThen[s] && sections.get(s).earth;
                tools |= !live[s] && liveThen[s] && sections.get(s).left > 0;
            }
            if (kind == 2 || kind == 3) {
                boolean closed = isolators.get(at).closed;
                return kind == 2 ? first(!closed, 31, trams, 32, false, 0)
                    : first(closed, 41, earth, 42, tools, 43);
            }
            Section s = sections.get(at);
            return switch (kind) {
                case 0 -> first(s.bridged, 11, pool - used() < s.needs, 12, false, 0);
                case 1 -> first(!s.bridged, 21, !live[at], 22, s.left > 0, 23);
                case 4 -> first(!s.feederOn, 51, trams, 52, false, 0);
                case 5 -> first(!s.hasFeeder || s.feederOn, 61, earth, 62, tools, 63);
                case 6 -> first(s.earth, 71, live[at], 72, !s.bridged, 73);
                default -> first(!s.earth, 81, s.gang, 82, false, 0);
            };
        }

        private static int first(boolean a, int ra, boolean b, int rb, boolean c, int rc) {
            return a ? ra : b ? rb : c ? rc : 0;
        }
    }

    private State now = new State();
    private final Deque<State> history = new ArrayDeque<>();
    private String text = "";

    private void change() {
        history.addLast(now.copy());
        if (history.size() > 5) {
            history.removeFirst();
        }
    }

    private boolean no(int section) {
        return section < 0 || section >= now.sections.size();
    }

    private static int trues(boolean[] row) {
        int n = 0;
        for (boolean b : row) {
            n += b ? 1 : 0;
        }
        return n;
    }

    private static int one(boolean b) {
        return b ? 1 : 0;
    }

    int section(int buses, int feeder) {
        if (buses < 1 || buses > 9 || feeder < 0 || feeder > 1) {
            return INVALID;
        }
        if (now.sections.size() == 10) {
            return LIMIT;
        }
        change();
        Section s = new Section();
        s.needs = buses;
        s.hasFeeder = feeder == 1;
        s.feederOn = s.hasFeeder;
        now.sections.add(s);
        return now.sections.size() - 1;
    }

    int isolator(int one, int other) {
        if (no(one) || no(other) || one == other) {
            return INVALID;
        }
        State then = now.copy();
        then.isolators.add(new Isolator(one, other, true));
        boolean[] live = now.live();
        boolean[] liveThen = then.live();
        for (int s = 0; s < live.length; s++) {
            Section it = now.sections.get(s);
            if (!live[s] && liveThen[s] && (it.earth || it.left > 0)) {
                return NOT_POSSIBLE;
            }
        }
        if (now.isolators.size() == 16) {
            return LIMIT;
        }
        change();
        now = then;
        return now.isolators.size() - 1;
    }

    int pool(int buses) {
        if (buses < 0 || buses > 40) {
            return INVALID;
        }
        if (now.used() > buses) {
            return NOT_POSSIBLE;
        }
        change();
        now.pool = buses;
        return buses - now.used();
    }

    int sectionOf(int section, int what) {
        if (no(section) || what < 0 || what > 10) {
            return INVALID;
        }
        Section s = now.sections.get(section);
        return switch (what) {
            case 0 -> s.needs;
            case 1 -> s.hasFeeder ? (s.feederOn ? 2 : 1) : 0;
            case 2 -> one(now.live()[section]);
            case 3 -> one(now.reach(now::feederByLog, now::closedByLog)[section]);
            case 4 -> one(s.bridged);
            case 5 -> one(s.earth);
            case 6 -> one(s.gang);
            case 7 -> s.left;
            case 8 -> trues(now.group(section));
            case 9 -> (int) now.isolators.stream()
                .filter(k -> k.closed && (k.one == section || k.other == section)).count();
            default -> s.gang ? s.until : NOT_FOUND;
        };
    }

    int isolatorOf(int isolator, int what) {
        if (isolator < 0 || isolator >= now.isolators.size() || what < 0 || what > 5) {
            return INVALID;
        }
        Isolator k = now.isolators.get(isolator);
        return switch (what) {
            case 0 -> k.one;
            case 1 -> k.other;
            case 2 -> one(k.closed);
            case 3 -> one(now.closedByLog(isolator));
            case 4 -> k.closed ? trues(now.live()) - trues(with(isolator, 2).live()) : 0;
            default -> k.closed ? 0 : trues(with(isolator, 3).live()) - trues(now.live());
        };
    }

    private State with(int isolator, int kind) {
        State then = now.copy();
        then.make(kind, isolator);
        return then;
    }

    int count(int what) {
        return switch (what) {
            case 0 -> now.sections.size();
            case 1 -> now.isolators.size();
            case 2 -> now.pool;
            case 3 -> now.pool - now.used();
            case 4 -> trues(now.live());
            case 5 -> (int) now.sections.stream().filter(s -> s.bridged).count();
            case 6 -> (int) now.sections.stream().filter(s -> s.gang).count();
            case 7 -> now.sections.stream().mapToInt(s -> s.left).sum();
            case 8 -> now.time;
            case 9 -> now.steps.size();
            case 10 -> Math.min(24, now.steps.size());
            case 11 -> now.late;
            case 12 -> (int) now.sections.stream().filter(s -> s.gang && s.until < now.time).count();
            case 13 -> groups();
            case 14 -> history.size();
            case 15 -> text.length();
            default -> INVALID;
        };
    }

    private int groups() {
        int found = 0;
        boolean[] seen = new boolean[now.sections.size()];
        for (int s = 0; s < seen.length; s++) {
            if (!seen[s]) {
                found++;
                boolean[] group = now.group(s);
                for (int t = 0; t < seen.length; t++) {
                    seen[t] |= group[t];
                }
            }
        }
        return found;
    }

    int undo() {
        if (history.isEmpty()) {
            return NOT_POSSIBLE;
        }
        now = history.removeLast();
        return history.size();
    }

    int refusal(int kind, int at) {
        return kind < 0 || kind > 7 || !now.has(kind, at) ? INVALID : now.refusal(kind, at);
    }

    int step(int kind, int at) {
        int refusal = refusal(kind, at);
        if (refusal != 0) {
            return refusal == INVALID ? INVALID : NOT_POSSIBLE;
        }
        change();
        now.make(kind, at);
        return trues(now.live());
    }

    int log(int back, int what) {
        if (back < 0 || what < 0 || what > 2) {
            return INVALID;
        }
        if (back >= 24 || back >= now.steps.size()) {
            return NOT_FOUND;
        }
        Step s = now.steps.get(now.steps.size() - 1 - back);
        return what == 0 ? s.kind : what == 1 ? s.at : s.time;
    }

    private List<int[]> planOf(int section) {
        List<int[]> plan = new ArrayList<>();
        Section s = now.sections.get(section);
        if (!s.bridged) {
            plan.add(new int[] {0, section});
        }
        if (s.feederOn) {
            plan.add(new int[] {4, section});
        }
        for (int i = 0; i < now.isolators.size(); i++) {
            Isolator k = now.isolators.get(i);
            if (k.closed && (k.one == section || k.other == section)) {
                plan.add(new int[] {2, i});
            }
        }
        if (!s.earth) {
            plan.add(new int[] {6, section});
        }
        return plan;
    }

    int plan(int section, int index) {
        if (no(section) || index < 0) {
            return INVALID;
        }
        List<int[]> plan = planOf(section);
        return index >= plan.size() ? NOT_FOUND : 100 * plan.get(index)[0] + plan.get(index)[1];
    }

    int canPlan(int section) {
        if (no(section)) {
            return INVALID;
        }
        State then = now.copy();
        int made = 0;
        for (int[] step : planOf(section)) {
            if (then.refusal(step[0], step[1]) != 0) {
                break;
            }
            then.make(step[0], step[1]);
            made++;
        }
        return made;
    }

    int enter(int section, int tools, int until) {
        if (no(section) || tools < 0 || tools > 50 || until < now.time || until > 100000) {
            return INVALID;
        }
        Section s = now.sections.get(section);
        if (!s.earth || s.gang) {
            return NOT_POSSIBLE;
        }
        change();
        s.gang = true;
        s.brought = tools;
        s.until = until;
        return count(6);
    }

    int leave(int section, int tools) {
        if (no(section) || tools < 0 || tools > 50) {
            return INVALID;
        }
        Section s = now.sections.get(section);
        if (!s.gang || s.brought < tools) {
            return NOT_POSSIBLE;
        }
        change();
        s.gang = false;
        s.left += s.brought - tools;
        int late = now.time > s.until ? now.time - s.until : 0;
        now.late += late;
        return late;
    }

    int fetch(int section) {
        if (no(section)) {
            return INVALID;
        }
        Section s = now.sections.get(section);
        if (s.left == 0 || s.gang || now.live()[section]) {
            return NOT_POSSIBLE;
        }
        change();
        int left = s.left;
        s.left = 0;
        return left;
    }

    int pass(int minutes) {
        if (minutes < 1 || minutes > 10000) {
            return INVALID;
        }
        if (now.time + minutes > 100000) {
            return LIMIT;
        }
        change();
        now.time += minutes;
        return now.time;
    }

    int type(int character) {
        if (character < 32 || character > 126) {
            return INVALID;
        }
        if (text.length() == 60) {
            return LIMIT;
        }
        text += (char) character;
        return text.length();
    }

    int clearText() {
        int had = text.length();
        text = "";
        return had;
    }

    /** Makes the steps of the text on a state; position and reason of the fault, or null. */
    private int[] faultOn(State then) {
        Matcher m = STEP.matcher(text);
        int at = 0;
        while (at < text.length()) {
            m.region(at, text.length());
            if (!m.lookingAt()) {
                return new int[] {at, 1};
            }
            int kind = LETTERS.indexOf(m.group(1));
            int where = Integer.parseInt(m.group(2));
            int reason = then.has(kind, where) ? then.refusal(kind, where) : 2;
            if (reason != 0) {
                return new int[] {at, reason};
            }
            then.make(kind, where);
            at = m.end();
        }
        return null;
    }

    int fault(int what) {
        if (what < 0 || what > 1) {
            return INVALID;
        }
        int[] fault = faultOn(now.copy());
        return fault == null ? NOT_FOUND : fault[what];
    }

    int play() {
        State then = now.copy();
        if (faultOn(then) != null) {
            return NOT_POSSIBLE;
        }
        change();
        int steps = then.steps.size() - now.steps.size();
        now = then;
        return steps;
    }
}
