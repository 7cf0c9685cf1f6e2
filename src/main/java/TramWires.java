/** Tram wires taken out of service, as ../shared/DOC.md promises it. */
public final class TramWires {
    public static final int INVALID_ARGUMENT = -1;
    public static final int NOT_POSSIBLE = -2;
    public static final int LIMIT_REACHED = -3;
    public static final int NOT_FOUND = -4;

    private static final int MOST_SECTIONS = 10;
    private static final int MOST_ISOLATORS = 16;
    private static final int MOST_LOGGED = 24;
    private static final int MOST_STATES = 5;
    private static final int MOST_CHARACTERS = 60;
    private static final int MOST_NEEDED = 9;
    private static final int MOST_BUSES = 40;
    private static final int FIRST_BUSES = 12;
    private static final int MOST_TOOLS = 50;
    private static final int MOST_MINUTES = 10000;
    private static final int LAST_TIME = 100000;
    private static final int PLAN_BASE = 100;

    private static final int BRIDGE = 0;
    private static final int RUN_TRAMS = 1;
    private static final int OPEN = 2;
    private static final int CLOSE = 3;
    private static final int TURN_OFF = 4;
    private static final int TURN_ON = 5;
    private static final int PUT_EARTH = 6;
    private static final int TAKE_EARTH = 7;
    private static final int NO_STEP = -1;

    private static final int NO_FEEDER = 0;
    private static final int FEEDER_OFF = 1;
    private static final int FEEDER_ON = 2;

    private static final int NOT_REFUSED = 0;
    private static final int WRONG_FORM = 1;
    private static final int NO_SUCH_PLACE = 2;

    private final Wires now = new Wires();
    private final History history = new History();
    private final Text text = new Text();
    private final Plan outPlan = new Plan();
    private final Rehearsal rehearsal = new Rehearsal();

    public TramWires() {
    }

    public int section(int buses, int feeder) {
        if (isOutside(buses, 1, MOST_NEEDED) || isOutside(feeder, 0, 1)) {
            return INVALID_ARGUMENT;
        }
        if (now.net.sections >= MOST_SECTIONS) {
            return LIMIT_REACHED;
        }
        history.keep(now);
        return now.addSection(buses, feeder == 1 ? FEEDER_ON : NO_FEEDER);
    }

    public int isolator(int one, int other) {
        if (!now.hasSection(one) || !now.hasSection(other) || one == other) {
            return INVALID_ARGUMENT;
        }
        if (now.joiningEndangers(one, other)) {
            return NOT_POSSIBLE;
        }
        if (now.net.isolators >= MOST_ISOLATORS) {
            return LIMIT_REACHED;
        }
        history.keep(now);
        return now.addIsolator(one, other);
    }

    public int pool(int buses) {
        if (isOutside(buses, 0, MOST_BUSES)) {
            return INVALID_ARGUMENT;
        }
        if (now.service.bridgingBuses() > buses) {
            return NOT_POSSIBLE;
        }
        history.keep(now);
        now.service.buses = buses;
        return now.service.freeBuses();
    }

    public int sectionOf(int section, int what) {
        if (!now.hasSection(section)) {
            return INVALID_ARGUMENT;
        }
        Net net = now.net;
        Service service = now.service;
        switch (what) {
            case 0: return service.needed[section];
            case 1: return net.feeder[section];
            case 2: return asNumber(net.live[section]);
            case 3: return asNumber(now.isLiveByLog(section));
            case 4: return asNumber(service.bridged[section]);
            case 5: return asNumber(service.earthed[section]);
            case 6: return asNumber(service.gang[section]);
            case 7: return service.tools[section];
            case 8: return net.groupSize(section);
            case 9: return net.closedAt(section);
            case 10: return service.gang[section] ? service.until[section] : NOT_FOUND;
            default: return INVALID_ARGUMENT;
        }
    }

    public int isolatorOf(int isolator, int what) {
        if (!now.hasIsolator(isolator)) {
            return INVALID_ARGUMENT;
        }
        Net net = now.net;
        switch (what) {
            case 0: return net.one[isolator];
            case 1: return net.other[isolator];
            case 2: return asNumber(net.closed[isolator]);
            case 3: return asNumber(now.isClosedByLog(isolator));
            case 4: return now.darkenedByOpening(isolator);
            case 5: return now.litByClosing(isolator);
            default: return INVALID_ARGUMENT;
        }
    }

    public int count(int what) {
        Service service = now.service;
        switch (what) {
            case 0: return now.net.sections;
            case 1: return now.net.isolators;
            case 2: return service.buses;
            case 3: return service.freeBuses();
            case 4: return countTrue(now.net.live);
            case 5: return countTrue(service.bridged);
            case 6: return countTrue(service.gang);
            case 7: return service.allTools();
            case 8: return service.time;
            case 9: return now.log.made;
            case 10: return now.log.length;
            case 11: return service.lateMinutes;
            case 12: return service.lateGangs();
            case 13: return now.net.groups();
            case 14: return history.size;
            case 15: return text.length;
            default: return INVALID_ARGUMENT;
        }
    }

    public int undo() {
        if (history.size <= 0) {
            return NOT_POSSIBLE;
        }
        history.restore(now);
        return history.size;
    }

    public int refusal(int kind, int at) {
        return now.hasPlace(kind, at) ? now.reasonAgainst(kind, at) : INVALID_ARGUMENT;
    }

    public int step(int kind, int at) {
        if (!now.hasPlace(kind, at)) {
            return INVALID_ARGUMENT;
        }
        if (now.reasonAgainst(kind, at) != NOT_REFUSED) {
            return NOT_POSSIBLE;
        }
        history.keep(now);
        now.make(kind, at);
        return countTrue(now.net.live);
    }

    public int log(int back, int what) {
        if (back < 0 || isOutside(what, 0, 2)) {
            return INVALID_ARGUMENT;
        }
        Log log = now.log;
        if (back >= log.length) {
            return NOT_FOUND;
        }
        int index = log.length - 1 - back;
        switch (what) {
            case 0: return log.kinds[index];
            case 1: return log.places[index];
            default: return log.times[index];
        }
    }

    public int plan(int section, int index) {
        if (!now.hasSection(section) || index < 0) {
            return INVALID_ARGUMENT;
        }
        outPlan.drawUp(now, section);
        if (index >= outPlan.size) {
            return NOT_FOUND;
        }
        return PLAN_BASE * outPlan.kinds[index] + outPlan.places[index];
    }

    public int canPlan(int section) {
        if (!now.hasSection(section)) {
            return INVALID_ARGUMENT;
        }
        outPlan.drawUp(now, section);
        rehearsal.tryPlan(now, outPlan);
        return rehearsal.steps;
    }

    public int enter(int section, int tools, int until) {
        if (!now.hasSection(section) || isOutside(tools, 0, MOST_TOOLS)
                || isOutside(until, now.service.time, LAST_TIME)) {
            return INVALID_ARGUMENT;
        }
        if (!now.service.earthed[section] || now.service.gang[section]) {
            return NOT_POSSIBLE;
        }
        history.keep(now);
        now.service.bringGang(section, tools, until);
        return countTrue(now.service.gang);
    }

    public int leave(int section, int tools) {
        if (!now.hasSection(section) || isOutside(tools, 0, MOST_TOOLS)) {
            return INVALID_ARGUMENT;
        }
        if (!now.service.gang[section] || now.service.brought[section] < tools) {
            return NOT_POSSIBLE;
        }
        history.keep(now);
        return now.service.sendGangOff(section, tools);
    }

    public int fetch(int section) {
        if (!now.hasSection(section)) {
            return INVALID_ARGUMENT;
        }
        int left = now.service.tools[section];
        if (left == 0 || now.net.live[section] || now.service.gang[section]) {
            return NOT_POSSIBLE;
        }
        history.keep(now);
        now.service.tools[section] = 0;
        return left;
    }

    public int pass(int minutes) {
        if (isOutside(minutes, 1, MOST_MINUTES)) {
            return INVALID_ARGUMENT;
        }
        if (now.service.time + minutes > LAST_TIME) {
            return LIMIT_REACHED;
        }
        history.keep(now);
        now.service.time += minutes;
        return now.service.time;
    }

    public int type(int character) {
        if (isOutside(character, 32, 126)) {
            return INVALID_ARGUMENT;
        }
        if (text.length >= MOST_CHARACTERS) {
            return LIMIT_REACHED;
        }
        text.characters[text.length] = character;
        text.length++;
        return text.length;
    }

    public int clearText() {
        int had = text.length;
        text.length = 0;
        return had;
    }

    public int fault(int what) {
        if (isOutside(what, 0, 1)) {
            return INVALID_ARGUMENT;
        }
        rehearsal.tryText(now, text);
        if (rehearsal.reason == NOT_REFUSED) {
            return NOT_FOUND;
        }
        return what == 0 ? rehearsal.position : rehearsal.reason;
    }

    public int play() {
        rehearsal.tryText(now, text);
        if (rehearsal.reason != NOT_REFUSED) {
            return NOT_POSSIBLE;
        }
        history.keep(now);
        // The rehearsal made every step of the text, so its wires are what is asked for.
        now.copyFrom(rehearsal.wires);
        return rehearsal.steps;
    }

    private static boolean isOutside(int value, int least, int most) {
        return value < least || value > most;
    }

    private static int asNumber(boolean is) {
        return is ? 1 : 0;
    }

    private static int countTrue(boolean[] row) {
        int found = 0;
        for (int i = 0; i < row.length; i++) {
            if (row[i]) {
                found++;
            }
        }
        return found;
    }

    /**
     * Sections, feeders and isolators, and what follows from them: groups and live sections.
     * Rows of numbers that are not in use keep what a new object has, since copies are whole.
     */
    private static final class Net {
        int sections;
        int isolators;
        final int[] feeder = new int[MOST_SECTIONS];
        final int[] one = new int[MOST_ISOLATORS];
        final int[] other = new int[MOST_ISOLATORS];
        final boolean[] closed = new boolean[MOST_ISOLATORS];
        /** The lowest section that hangs together with each one. */
        final int[] lowest = new int[MOST_SECTIONS];
        final boolean[] live = new boolean[MOST_SECTIONS];

        void copyFrom(Net from) {
            sections = from.sections;
            isolators = from.isolators;
            System.arraycopy(from.feeder, 0, feeder, 0, MOST_SECTIONS);
            System.arraycopy(from.one, 0, one, 0, MOST_ISOLATORS);
            System.arraycopy(from.other, 0, other, 0, MOST_ISOLATORS);
            System.arraycopy(from.closed, 0, closed, 0, MOST_ISOLATORS);
            System.arraycopy(from.lowest, 0, lowest, 0, MOST_SECTIONS);
            System.arraycopy(from.live, 0, live, 0, MOST_SECTIONS);
        }

        void setFeeder(int section, int state) {
            feeder[section] = state;
            feed();
        }

        void setIsolator(int isolator, boolean isClosed) {
            closed[isolator] = isClosed;
            for (int i = 0; i < sections; i++) {
                lowest[i] = i;
            }
            // No way between two sections is longer than the other sections are many.
            for (int round = 1; round < sections; round++) {
                shareLowest();
            }
            feed();
        }

        private void shareLowest() {
            for (int i = 0; i < isolators; i++) {
                if (closed[i]) {
                    int ofOne = lowest[one[i]];
                    int ofOther = lowest[other[i]];
                    lowest[one[i]] = ofOne < ofOther ? ofOne : ofOther;
                    lowest[other[i]] = lowest[one[i]];
                }
            }
        }

        private void feed() {
            for (int i = 0; i < sections; i++) {
                live[i] = false;
            }
            for (int i = 0; i < sections; i++) {
                if (feeder[i] == FEEDER_ON) {
                    live[lowest[i]] = true;
                }
            }
            for (int i = 0; i < sections; i++) {
                live[i] = live[lowest[i]];
            }
        }

        boolean areTogether(int first, int second) {
            return lowest[first] == lowest[second];
        }

        int groupSize(int section) {
            int size = 0;
            for (int i = 0; i < sections; i++) {
                if (areTogether(i, section)) {
                    size++;
                }
            }
            return size;
        }

        int groups() {
            int found = 0;
            for (int i = 0; i < sections; i++) {
                if (lowest[i] == i) {
                    found++;
                }
            }
            return found;
        }

        boolean isClosedAt(int isolator, int section) {
            return closed[isolator] && (one[isolator] == section || other[isolator] == section);
        }

        int closedAt(int section) {
            int found = 0;
            for (int i = 0; i < isolators; i++) {
                if (isClosedAt(i, section)) {
                    found++;
                }
            }
            return found;
        }
    }

    /** Buses, earths, gangs and tools of the sections, and the time. */
    private static final class Service {
        int time;
        int buses = FIRST_BUSES;
        int lateMinutes;
        final int[] needed = new int[MOST_SECTIONS];
        final boolean[] bridged = new boolean[MOST_SECTIONS];
        final boolean[] earthed = new boolean[MOST_SECTIONS];
        final boolean[] gang = new boolean[MOST_SECTIONS];
        final int[] brought = new int[MOST_SECTIONS];
        final int[] until = new int[MOST_SECTIONS];
        final int[] tools = new int[MOST_SECTIONS];

        void copyFrom(Service from) {
            time = from.time;
            buses = from.buses;
            lateMinutes = from.lateMinutes;
            System.arraycopy(from.needed, 0, needed, 0, MOST_SECTIONS);
            System.arraycopy(from.bridged, 0, bridged, 0, MOST_SECTIONS);
            System.arraycopy(from.earthed, 0, earthed, 0, MOST_SECTIONS);
            System.arraycopy(from.gang, 0, gang, 0, MOST_SECTIONS);
            System.arraycopy(from.brought, 0, brought, 0, MOST_SECTIONS);
            System.arraycopy(from.until, 0, until, 0, MOST_SECTIONS);
            System.arraycopy(from.tools, 0, tools, 0, MOST_SECTIONS);
        }

        int bridgingBuses() {
            int sum = 0;
            for (int i = 0; i < MOST_SECTIONS; i++) {
                if (bridged[i]) {
                    sum += needed[i];
                }
            }
            return sum;
        }

        int freeBuses() {
            return buses - bridgingBuses();
        }

        int allTools() {
            int sum = 0;
            for (int i = 0; i < MOST_SECTIONS; i++) {
                sum += tools[i];
            }
            return sum;
        }

        int lateGangs() {
            int found = 0;
            for (int i = 0; i < MOST_SECTIONS; i++) {
                if (gang[i] && time > until[i]) {
                    found++;
                }
            }
            return found;
        }

        void bringGang(int section, int toolsBrought, int toldTime) {
            gang[section] = true;
            brought[section] = toolsBrought;
            until[section] = toldTime;
        }

        /** Returns by how many minutes the gang is late. */
        int sendGangOff(int section, int toolsTaken) {
            int late = Math.max(0, time - until[section]);
            gang[section] = false;
            tools[section] += brought[section] - toolsTaken;
            lateMinutes += late;
            return late;
        }
    }

    /** The latest steps, the oldest one first, and the settings as they were ahead of them. */
    private static final class Log {
        int made;
        int length;
        final int[] kinds = new int[MOST_LOGGED];
        final int[] places = new int[MOST_LOGGED];
        final int[] times = new int[MOST_LOGGED];
        final int[] feederAhead = new int[MOST_SECTIONS];
        final boolean[] closedAhead = new boolean[MOST_ISOLATORS];
        final int[] feederTold = new int[MOST_SECTIONS];
        final boolean[] closedTold = new boolean[MOST_ISOLATORS];

        void copyFrom(Log from) {
            made = from.made;
            length = from.length;
            System.arraycopy(from.kinds, 0, kinds, 0, MOST_LOGGED);
            System.arraycopy(from.places, 0, places, 0, MOST_LOGGED);
            System.arraycopy(from.times, 0, times, 0, MOST_LOGGED);
            System.arraycopy(from.feederAhead, 0, feederAhead, 0, MOST_SECTIONS);
            System.arraycopy(from.closedAhead, 0, closedAhead, 0, MOST_ISOLATORS);
        }

        void write(int kind, int at, int time) {
            if (length >= MOST_LOGGED) {
                dropOldest();
            }
            kinds[length] = kind;
            places[length] = at;
            times[length] = time;
            length++;
            made++;
        }

        private void dropOldest() {
            setBy(0, feederAhead, closedAhead);
            length = MOST_LOGGED - 1;
            System.arraycopy(kinds, 1, kinds, 0, length);
            System.arraycopy(places, 1, places, 0, length);
            System.arraycopy(times, 1, times, 0, length);
        }

        /** Goes through the log from its oldest step, so that the latest one that set something tells it. */
        void tell() {
            System.arraycopy(feederAhead, 0, feederTold, 0, MOST_SECTIONS);
            System.arraycopy(closedAhead, 0, closedTold, 0, MOST_ISOLATORS);
            for (int i = 0; i < length; i++) {
                setBy(i, feederTold, closedTold);
            }
        }

        private void setBy(int index, int[] feeders, boolean[] isolators) {
            int at = places[index];
            switch (kinds[index]) {
                case OPEN:
                    isolators[at] = false;
                    break;
                case CLOSE:
                    isolators[at] = true;
                    break;
                case TURN_OFF:
                    feeders[at] = FEEDER_OFF;
                    break;
                case TURN_ON:
                    feeders[at] = FEEDER_ON;
                    break;
                default:
                    break;
            }
        }
    }

    /** All that the history records. */
    private static final class Wires {
        final Net net = new Net();
        final Service service = new Service();
        final Log log = new Log();
        /** The net as it would be; only for the call that asks. */
        private final Net supposed = new Net();
        private final boolean[] reached = new boolean[MOST_SECTIONS];

        void copyFrom(Wires from) {
            net.copyFrom(from.net);
            service.copyFrom(from.service);
            log.copyFrom(from.log);
        }

        boolean hasSection(int section) {
            return !isOutside(section, 0, net.sections - 1);
        }

        boolean hasIsolator(int isolator) {
            return !isOutside(isolator, 0, net.isolators - 1);
        }

        boolean hasPlace(int kind, int at) {
            if (isOutside(kind, BRIDGE, TAKE_EARTH)) {
                return false;
            }
            return kind == OPEN || kind == CLOSE ? hasIsolator(at) : hasSection(at);
        }

        int addSection(int buses, int feeder) {
            int section = net.sections;
            net.sections++;
            service.needed[section] = buses;
            log.feederAhead[section] = feeder;
            net.lowest[section] = section;
            net.setFeeder(section, feeder);
            return section;
        }

        int addIsolator(int one, int other) {
            int isolator = net.isolators;
            net.isolators++;
            net.one[isolator] = one;
            net.other[isolator] = other;
            log.closedAhead[isolator] = true;
            net.setIsolator(isolator, true);
            return isolator;
        }

        boolean joiningEndangers(int one, int other) {
            for (int i = 0; i < net.sections; i++) {
                boolean mustStayDead = service.earthed[i] || service.tools[i] > 0;
                boolean feedsOne = net.live[other] && net.areTogether(i, one);
                boolean feedsOther = net.live[one] && net.areTogether(i, other);
                if (mustStayDead && !net.live[i] && (feedsOne || feedsOther)) {
                    return true;
                }
            }
            return false;
        }

        int darkenedByOpening(int isolator) {
            supposeIsolator(isolator, false);
            int found = 0;
            for (int i = 0; i < net.sections; i++) {
                if (wouldDarken(i)) {
                    found++;
                }
            }
            return found;
        }

        int litByClosing(int isolator) {
            supposeIsolator(isolator, true);
            int found = 0;
            for (int i = 0; i < net.sections; i++) {
                if (wouldLight(i)) {
                    found++;
                }
            }
            return found;
        }

        boolean isClosedByLog(int isolator) {
            log.tell();
            return log.closedTold[isolator];
        }

        boolean isLiveByLog(int section) {
            log.tell();
            for (int i = 0; i < net.sections; i++) {
                reached[i] = log.feederTold[i] == FEEDER_ON;
            }
            // No way outward is longer than the other sections are many.
            for (int round = 1; round < net.sections; round++) {
                goOutward();
            }
            return reached[section];
        }

        private void goOutward() {
            for (int i = 0; i < net.isolators; i++) {
                int one = net.one[i];
                int other = net.other[i];
                if (log.closedTold[i] && (reached[one] || reached[other])) {
                    reached[one] = true;
                    reached[other] = true;
                }
            }
        }

        /** The reason's number from the document's table of steps; the place is known to be there. */
        int reasonAgainst(int kind, int at) {
            switch (kind) {
                case BRIDGE: return againstBridging(at);
                case RUN_TRAMS: return againstTrams(at);
                case OPEN: return againstOpening(at);
                case CLOSE: return againstClosing(at);
                case TURN_OFF: return againstTurningOff(at);
                case TURN_ON: return againstTurningOn(at);
                case PUT_EARTH: return againstEarthing(at);
                default: return againstTakingEarth(at);
            }
        }

        private int againstBridging(int section) {
            if (service.bridged[section]) {
                return 11;
            }
            return service.freeBuses() < service.needed[section] ? 12 : NOT_REFUSED;
        }

        private int againstTrams(int section) {
            if (!service.bridged[section]) {
                return 21;
            }
            if (!net.live[section]) {
                return 22;
            }
            return service.tools[section] > 0 ? 23 : NOT_REFUSED;
        }

        private int againstOpening(int isolator) {
            if (!net.closed[isolator]) {
                return 31;
            }
            supposeIsolator(isolator, false);
            return wouldDarkenTrams() ? 32 : NOT_REFUSED;
        }

        private int againstClosing(int isolator) {
            if (net.closed[isolator]) {
                return 41;
            }
            supposeIsolator(isolator, true);
            if (wouldLightEarth()) {
                return 42;
            }
            return wouldLightTools() ? 43 : NOT_REFUSED;
        }

        private int againstTurningOff(int section) {
            if (net.feeder[section] != FEEDER_ON) {
                return 51;
            }
            supposeFeeder(section, FEEDER_OFF);
            return wouldDarkenTrams() ? 52 : NOT_REFUSED;
        }

        private int againstTurningOn(int section) {
            if (net.feeder[section] != FEEDER_OFF) {
                return 61;
            }
            supposeFeeder(section, FEEDER_ON);
            if (wouldLightEarth()) {
                return 62;
            }
            return wouldLightTools() ? 63 : NOT_REFUSED;
        }

        private int againstEarthing(int section) {
            if (service.earthed[section]) {
                return 71;
            }
            if (net.live[section]) {
                return 72;
            }
            return service.bridged[section] ? NOT_REFUSED : 73;
        }

        private int againstTakingEarth(int section) {
            if (!service.earthed[section]) {
                return 81;
            }
            return service.gang[section] ? 82 : NOT_REFUSED;
        }

        private void supposeIsolator(int isolator, boolean isClosed) {
            supposed.copyFrom(net);
            supposed.setIsolator(isolator, isClosed);
        }

        private void supposeFeeder(int section, int state) {
            supposed.copyFrom(net);
            supposed.setFeeder(section, state);
        }

        private boolean wouldDarken(int section) {
            return net.live[section] && !supposed.live[section];
        }

        private boolean wouldLight(int section) {
            return !net.live[section] && supposed.live[section];
        }

        private boolean wouldDarkenTrams() {
            for (int i = 0; i < net.sections; i++) {
                if (!service.bridged[i] && wouldDarken(i)) {
                    return true;
                }
            }
            return false;
        }

        private boolean wouldLightEarth() {
            for (int i = 0; i < net.sections; i++) {
                if (service.earthed[i] && wouldLight(i)) {
                    return true;
                }
            }
            return false;
        }

        private boolean wouldLightTools() {
            for (int i = 0; i < net.sections; i++) {
                if (service.tools[i] > 0 && wouldLight(i)) {
                    return true;
                }
            }
            return false;
        }

        /** Makes a step that is not refused. */
        void make(int kind, int at) {
            switch (kind) {
                case BRIDGE:
                    service.bridged[at] = true;
                    break;
                case RUN_TRAMS:
                    service.bridged[at] = false;
                    break;
                case OPEN:
                    net.setIsolator(at, false);
                    break;
                case CLOSE:
                    net.setIsolator(at, true);
                    break;
                case TURN_OFF:
                    net.setFeeder(at, FEEDER_OFF);
                    break;
                case TURN_ON:
                    net.setFeeder(at, FEEDER_ON);
                    break;
                case PUT_EARTH:
                    service.earthed[at] = true;
                    break;
                default:
                    service.earthed[at] = false;
                    break;
            }
            log.write(kind, at, service.time);
        }
    }

    /** The states ahead of the latest changes, the oldest one first. */
    private static final class History {
        int size;
        private final Wires[] states = new Wires[MOST_STATES];

        History() {
            for (int i = 0; i < MOST_STATES; i++) {
                states[i] = new Wires();
            }
        }

        void keep(Wires now) {
            if (size >= MOST_STATES) {
                dropOldest();
            }
            states[size].copyFrom(now);
            size++;
        }

        private void dropOldest() {
            Wires oldest = states[0];
            for (int i = 1; i < MOST_STATES; i++) {
                states[i - 1] = states[i];
            }
            // Its object serves for the next state, so that no call makes a new one.
            states[MOST_STATES - 1] = oldest;
            size = MOST_STATES - 1;
        }

        /** Restores the latest state; there is one. */
        void restore(Wires now) {
            size--;
            now.copyFrom(states[size]);
        }
    }

    /** The steps for taking a section out. */
    private static final class Plan {
        int size;
        // Bridging, turning off and earthing, and one step for each isolator.
        final int[] kinds = new int[MOST_ISOLATORS + 3];
        final int[] places = new int[MOST_ISOLATORS + 3];

        void drawUp(Wires wires, int section) {
            size = 0;
            if (!wires.service.bridged[section]) {
                add(BRIDGE, section);
            }
            if (wires.net.feeder[section] == FEEDER_ON) {
                add(TURN_OFF, section);
            }
            for (int i = 0; i < wires.net.isolators; i++) {
                if (wires.net.isClosedAt(i, section)) {
                    add(OPEN, i);
                }
            }
            if (!wires.service.earthed[section]) {
                add(PUT_EARTH, section);
            }
        }

        private void add(int kind, int at) {
            kinds[size] = kind;
            places[size] = at;
            size++;
        }
    }

    /** The text, and the step in it that was read last. */
    private static final class Text {
        private static final int NO_CHARACTER = 0;
        private static final int NO_DIGIT = -1;

        int length;
        final int[] characters = new int[MOST_CHARACTERS];
        int kind;
        int place;
        /** The position behind the step's ";". */
        int end;

        /** Reads the step that begins at a position; false if it is not of the form. */
        boolean readStep(int start) {
            kind = kindOf(characterAt(start));
            int first = digitAt(start + 1);
            if (kind == NO_STEP || first == NO_DIGIT) {
                return false;
            }
            int second = digitAt(start + 2);
            boolean hasTwo = second != NO_DIGIT;
            place = hasTwo ? 10 * first + second : first;
            end = start + (hasTwo ? 4 : 3);
            return characterAt(end - 1) == ';';
        }

        private int characterAt(int position) {
            return isOutside(position, 0, length - 1) ? NO_CHARACTER : characters[position];
        }

        private int digitAt(int position) {
            int character = characterAt(position);
            return isOutside(character, '0', '9') ? NO_DIGIT : character - '0';
        }

        private static int kindOf(int letter) {
            switch (letter) {
                case 'b': return BRIDGE;
                case 't': return RUN_TRAMS;
                case 'o': return OPEN;
                case 'c': return CLOSE;
                case 'f': return TURN_OFF;
                case 'n': return TURN_ON;
                case 'e': return PUT_EARTH;
                case 'u': return TAKE_EARTH;
                default: return NO_STEP;
            }
        }
    }

    /** Makes steps on a copy of the wires until one is not possible. */
    private static final class Rehearsal {
        final Wires wires = new Wires();
        /** How many steps were made. */
        int steps;
        /** Of the text, where the step begins that was tried last. */
        int position;
        /** Why the step that was tried last is not possible, or NOT_REFUSED. */
        int reason;

        void tryPlan(Wires now, Plan plan) {
            begin(now);
            for (int i = 0; i < plan.size; i++) {
                reason = wires.reasonAgainst(plan.kinds[i], plan.places[i]);
                if (reason != NOT_REFUSED) {
                    return;
                }
                wires.make(plan.kinds[i], plan.places[i]);
                steps++;
            }
        }

        void tryText(Wires now, Text text) {
            begin(now);
            // A step has more than one character, so there are fewer steps than characters.
            for (int i = 0; i < MOST_CHARACTERS && position < text.length; i++) {
                if (!text.readStep(position)) {
                    reason = WRONG_FORM;
                } else if (!wires.hasPlace(text.kind, text.place)) {
                    reason = NO_SUCH_PLACE;
                } else {
                    reason = wires.reasonAgainst(text.kind, text.place);
                }
                if (reason != NOT_REFUSED) {
                    return;
                }
                wires.make(text.kind, text.place);
                steps++;
                position = text.end;
            }
        }

        private void begin(Wires now) {
            wires.copyFrom(now);
            steps = 0;
            position = 0;
            reason = NOT_REFUSED;
        }
    }
}
