/**
 * Missions of handlers on one processor, by frames (level 0) or by priorities with ceilings
 * (level 1). The document DOC.md says what every call must answer.
 */
public final class MissionDesk {
    public static final int REFUSED = -1;
    public static final int NONE = -2;
    public static final int FULL = -3;

    private static final int HANDLERS = 8;
    private static final int STEPS = 10;
    private static final int LOCKS = 4;
    private static final int FRAMES = 4;
    private static final int PLACES = 4;
    private static final int WAITING = 4;
    private static final int REMEMBERED = 32;
    private static final int TOP_PRIORITY = 9;
    private static final int FIRST_BUDGET = 20;

    private static final int SETUP = 0;
    private static final int RUNS = 1;
    private static final int ENDING = 2;

    private static final int PERIODIC = 0;
    private static final int CALLED = 2;

    private static final int WORK = 0;
    private static final int NEW = 1;
    private static final int KEEP = 2;
    private static final int ENTER = 3;
    private static final int LEAVE = 4;
    private static final int LOCK = 5;
    private static final int UNLOCK = 6;
    private static final int CALL = 7;
    private static final int STOP = 8;
    private static final int POINT = 9;

    private static final int NO_FAULT = 0;
    private static final int MEMORY_FAULT = 1;
    private static final int SCOPE_FAULT = 2;
    private static final int LOCK_FAULT = 3;

    private static final int EVENT_CAME = 1;
    private static final int EVENT_BEGUN = 2;
    private static final int EVENT_DONE = 3;
    private static final int EVENT_FAULT = 4;
    private static final int EVENT_MISS = 5;
    private static final int EVENT_DROPPED = 6;
    private static final int EVENT_OVERRUN = 7;

    /** The counts of a handler's number lie in the order in which of() numbers them, from 8 on. */
    private static final int FIRST_COUNT = 8;
    private static final int COUNTS = 8;
    private static final int COUNT_CAME = 0;
    private static final int COUNT_DONE = 1;
    private static final int COUNT_MISSES = 2;
    private static final int COUNT_DROPPED = 3;
    private static final int COUNT_BEFORE_FAULTS = 3;
    private static final int COUNT_WORKED = 7;

    private static final int STEPS_A_TICK = 40;
    /** Far above the 40 steps and the releases without steps that one tick can choose. */
    private static final int CHOICES_A_TICK = 1000;

    /** The least and greatest a of each op; those of LEAVE and STOP are not looked at. */
    private static final int[] LEAST_A = {1, 1, 1, 1, 0, 0, 0, 0, 0, 0};
    private static final int[] GREATEST_A = {20, 20, 20, 30, 0, 3, 3, 7, 0, 1};

    private final Handler[] handlers;
    private final int[] ceilings;
    private final Turns turns;
    private final MissionArea area;
    private final Journal journal;
    private int phase;
    private int level;
    private int time;
    private int missions;
    private int notDone;
    /** How many releases came: tells of two which one came first. */
    private int arrivals;
    private int pointed;
    private int made;
    private int overruns;
    private int gone;
    private int idleTicks;

    public MissionDesk() {
        handlers = new Handler[HANDLERS];
        for (int h = 0; h < HANDLERS; h++) {
            handlers[h] = new Handler(h);
        }
        ceilings = new int[LOCKS];
        for (int m = 0; m < LOCKS; m++) {
            ceilings[m] = TOP_PRIORITY;
        }
        turns = new Turns();
        area = new MissionArea();
        journal = new Journal();
        phase = SETUP;
    }

    public boolean handler(int h, int kind, int priority, int first, int every) {
        if (!isHandler(h) || !within(kind, 0, CALLED) || !within(priority, 1, TOP_PRIORITY)
                || !within(first, 0, 50) || !within(every, 1, 50) || phase != SETUP) {
            return false;
        }
        handlers[h].layDown(kind, priority, first, every);
        return true;
    }

    public boolean limit(int h, int deadline, int miss, int budget) {
        if (!isThere(h) || !within(deadline, 0, 60) || !within(miss, -1, HANDLERS - 1)
                || !within(budget, 0, 60) || phase != SETUP) {
            return false;
        }
        handlers[h].deadline = deadline;
        handlers[h].miss = miss;
        handlers[h].budget = budget;
        return true;
    }

    public int step(int h, int op, int a) {
        if (!isThere(h) || !isStep(op, a)) {
            return REFUSED;
        }
        if (phase != SETUP) {
            return NONE;
        }
        return handlers[h].addStep(op, a);
    }

    public boolean ceiling(int m, int priority) {
        if (!within(m, 0, LOCKS - 1) || !within(priority, 1, TOP_PRIORITY) || phase != SETUP) {
            return false;
        }
        ceilings[m] = priority;
        return true;
    }

    public boolean frame(int f, int ticks) {
        if (!isFrame(f) || !within(ticks, 0, 30) || phase != SETUP) {
            return false;
        }
        turns.frames[f].layDown(ticks);
        return true;
    }

    public int place(int f, int h) {
        if (!isFrame(f) || !isHandler(h)) {
            return REFUSED;
        }
        if (!turns.frames[f].isThere() || phase != SETUP) {
            return NONE;
        }
        return turns.frames[f].addPlace(h);
    }

    public int begin(int level, int room) {
        if (!within(level, 0, 1) || !within(room, 0, 100)) {
            return REFUSED;
        }
        if (phase != SETUP || (level == 0 && !turns.anyFrame())) {
            return NONE;
        }
        this.level = level;
        phase = RUNS;
        area.open(room);
        turns.start(time);
        for (int h = 0; h < HANDLERS; h++) {
            handlers[h].nextAt = time + handlers[h].first;
        }
        missions++;
        return missions;
    }

    public int run(int n) {
        if (!within(n, 1, 20)) {
            return REFUSED;
        }
        if (phase == SETUP) {
            return NONE;
        }
        int ticks = 0;
        while (ticks < n && phase != SETUP) {
            tick();
            ticks++;
        }
        return ticks;
    }

    public int call(int h) {
        if (!isThere(h) || handlers[h].kind != CALLED) {
            return REFUSED;
        }
        if (phase != RUNS) {
            return NONE;
        }
        return addRelease(h) ? handlers[h].line.size : FULL;
    }

    public boolean stop() {
        if (phase != RUNS) {
            return false;
        }
        tellToEnd();
        endIfAllDone();
        return true;
    }

    public int of(int h, int what) {
        if (!isThere(h) || !within(what, 0, FIRST_COUNT + COUNTS - 1)) {
            return REFUSED;
        }
        Handler asked = handlers[h];
        if (what >= FIRST_COUNT) {
            return asked.counts[what - FIRST_COUNT];
        }
        switch (what) {
            case 0: return asked.kind;
            case 1: return asked.priority;
            case 2: return asked.steps;
            case 3: return asked.line.size;
            default: return ofFirstRelease(asked, what);
        }
    }

    public int memory(int h, int what) {
        if (!isThere(h) || !within(what, 0, 5)) {
            return REFUSED;
        }
        Line line = handlers[h].line;
        if (line.size == 0 || !line.first().begun) {
            return NONE;
        }
        Scopes scopes = line.first().scopes;
        HeldLocks held = line.first().held;
        switch (what) {
            case 0: return scopes.depth;
            case 1: return scopes.roomLeft();
            case 2: return scopes.ownObjects();
            case 3: return held.size;
            case 4: return held.latest();
            default: return scopes.latestSize();
        }
    }

    public int desk(int what) {
        switch (what) {
            case 0: return phase;
            case 1: return time;
            case 2: return missions;
            case 3: return notDone;
            case 4: return chosenHandler();
            case 5: return area.objects;
            case 6: return area.room;
            case 7: return pointed;
            case 8: return made;
            case 9: return turns.latest;
            case 10: return turns.begun;
            case 11: return overruns;
            case 12: return gone;
            case 13: return idleTicks;
            default: return REFUSED;
        }
    }

    public int event(int k) {
        return journal.latest(k);
    }

    private static boolean within(int number, int least, int greatest) {
        return number >= least && number <= greatest;
    }

    private static boolean isHandler(int h) {
        return h >= 0 && h < HANDLERS;
    }

    private static boolean isFrame(int f) {
        return f >= 0 && f < FRAMES;
    }

    private static boolean isStep(int op, int a) {
        if (!within(op, WORK, POINT)) {
            return false;
        }
        return op == LEAVE || op == STOP || within(a, LEAST_A[op], GREATEST_A[op]);
    }

    private boolean isThere(int h) {
        return isHandler(h) && handlers[h].there;
    }

    private int ofFirstRelease(Handler asked, int what) {
        if (asked.line.size == 0) {
            return NONE;
        }
        Release release = asked.line.first();
        switch (what) {
            case 4: return release.nextStep;
            case 5: return release.ticksDone;
            case 6: return activePriority(asked);
            default: return release.cameAt;
        }
    }

    /** Of the handler's first release, which is the only one that can hold locks. */
    private int activePriority(Handler asked) {
        return Math.max(asked.priority, asked.line.first().held.greatest(ceilings));
    }

    private void tick() {
        if (phase == RUNS) {
            if (level == 1) {
                releaseByTime();
            } else {
                releaseByFrame();
            }
        }
        findMisses();
        if (!useProcessor()) {
            idleTicks++;
        }
        endIfAllDone();
        time++;
    }

    private void releaseByTime() {
        for (int h = 0; h < HANDLERS; h++) {
            Handler next = handlers[h];
            if (next.there && next.kind != CALLED && next.nextAt == time) {
                addRelease(h);
                if (next.kind == PERIODIC) {
                    next.nextAt = time + next.every;
                }
            }
        }
    }

    private void releaseByFrame() {
        if (time < turns.dueAt) {
            return;
        }
        // The first frame begins with the mission even if a call from outside came before its tick.
        if (notDone > 0 && turns.begun > 0) {
            return;
        }
        if (time > turns.dueAt) {
            overruns++;
            journal.note(EVENT_OVERRUN, 0);
        }
        Frame frame = turns.frames[turns.next];
        turns.beginNext();
        for (int p = 0; p < frame.taken; p++) {
            if (isThere(frame.places[p])) {
                addRelease(frame.places[p]);
            }
        }
    }

    /** Whether a release came; if not, it was dropped. */
    private boolean addRelease(int h) {
        Handler owner = handlers[h];
        Release added = owner.line.grow();
        if (added == null) {
            owner.counts[COUNT_DROPPED]++;
            journal.note(EVENT_DROPPED, h);
            return false;
        }
        added.come(time, arrivals);
        arrivals++;
        notDone++;
        owner.counts[COUNT_CAME]++;
        journal.note(EVENT_CAME, h);
        return true;
    }

    /** A call by a step or by a miss; miss handlers may be -1 for none. */
    private void callInside(int h) {
        if (phase == RUNS && isThere(h) && handlers[h].kind == CALLED) {
            addRelease(h);
        }
    }

    private void findMisses() {
        int last = -1;
        for (int n = 0; n < HANDLERS * WAITING; n++) {
            Release missed = earliestMissBehind(last);
            if (missed == null) {
                return;
            }
            last = missed.arrival;
            handlers[missed.owner].counts[COUNT_MISSES]++;
            journal.note(EVENT_MISS, missed.owner);
            callInside(handlers[missed.owner].miss);
        }
    }

    private Release earliestMissBehind(int arrival) {
        Release earliest = null;
        for (int h = 0; h < HANDLERS; h++) {
            Handler asked = handlers[h];
            if (asked.deadline > 0) {
                Release missed = asked.line.missBehind(arrival, time - asked.deadline);
                if (missed != null && (earliest == null || missed.arrival < earliest.arrival)) {
                    earliest = missed;
                }
            }
        }
        return earliest;
    }

    /** Whether a tick of work was done. */
    private boolean useProcessor() {
        int others = 0;
        for (int n = 0; n < CHOICES_A_TICK && others < STEPS_A_TICK; n++) {
            int h = chosenHandler();
            if (h == NONE) {
                return false;
            }
            Handler owner = handlers[h];
            Release release = owner.line.first();
            if (!release.begun) {
                release.start(owner.budget);
                journal.note(EVENT_BEGUN, h);
            }
            if (owner.steps == 0) {
                endFirst(h, COUNT_DONE, EVENT_DONE);
            } else if (owner.ops[release.nextStep] == WORK) {
                workOneTick(h);
                return true;
            } else {
                others++;
                closeStep(h, perform(owner));
            }
        }
        return false;
    }

    private int chosenHandler() {
        int chosen = NONE;
        for (int h = 0; h < HANDLERS; h++) {
            if (handlers[h].line.size > 0
                    && (chosen == NONE || goesBefore(handlers[h], handlers[chosen]))) {
                chosen = h;
            }
        }
        return chosen;
    }

    private boolean goesBefore(Handler one, Handler other) {
        if (level == 1) {
            int priority = activePriority(one);
            int otherPriority = activePriority(other);
            if (priority != otherPriority) {
                return priority > otherPriority;
            }
        }
        return one.line.first().arrival < other.line.first().arrival;
    }

    private void workOneTick(int h) {
        Handler owner = handlers[h];
        Release release = owner.line.first();
        owner.counts[COUNT_WORKED]++;
        release.ticksDone++;
        if (release.ticksDone >= owner.args[release.nextStep]) {
            moveOn(h);
        }
    }

    private void closeStep(int h, int fault) {
        if (fault == NO_FAULT) {
            moveOn(h);
        } else {
            endFirst(h, COUNT_BEFORE_FAULTS + fault, EVENT_FAULT);
        }
    }

    private void moveOn(int h) {
        Release release = handlers[h].line.first();
        release.ticksDone = 0;
        release.nextStep++;
        if (release.nextStep >= handlers[h].steps) {
            endFirst(h, COUNT_DONE, EVENT_DONE);
        }
    }

    private void endFirst(int h, int count, int sort) {
        handlers[h].counts[count]++;
        journal.note(sort, h);
        handlers[h].line.removeFirst();
        notDone--;
    }

    /** Does a step that is not WORK: the fault that it has, and then it did nothing else. */
    private int perform(Handler owner) {
        Release release = owner.line.first();
        int a = owner.args[release.nextStep];
        switch (owner.ops[release.nextStep]) {
            case NEW: return makeOwn(release, a);
            case KEEP: return makeKept(release, a);
            case ENTER: return release.scopes.enter(a) ? NO_FAULT : MEMORY_FAULT;
            case LEAVE: return release.scopes.leave() ? NO_FAULT : SCOPE_FAULT;
            case LOCK: return takeLock(owner, release, a);
            case UNLOCK: return release.held.free(a) ? NO_FAULT : LOCK_FAULT;
            case CALL:
                callInside(a);
                return NO_FAULT;
            case STOP:
                tellToEnd();
                return NO_FAULT;
            default: return point(release, a);
        }
    }

    private int makeOwn(Release release, int size) {
        if (!release.scopes.makeHere(size)) {
            return MEMORY_FAULT;
        }
        made++;
        return NO_FAULT;
    }

    private int makeKept(Release release, int size) {
        if (!area.make(size)) {
            return MEMORY_FAULT;
        }
        release.scopes.noteKept(size);
        made++;
        return NO_FAULT;
    }

    private int takeLock(Handler owner, Release release, int m) {
        if (release.held.holds(m) || ceilings[m] < owner.priority) {
            return LOCK_FAULT;
        }
        release.held.take(m);
        return NO_FAULT;
    }

    private int point(Release release, int way) {
        if (!release.scopes.mayPoint(way)) {
            return SCOPE_FAULT;
        }
        pointed++;
        return NO_FAULT;
    }

    /** The caller sees to the end of the mission: a release that tells so is not done yet. */
    private void tellToEnd() {
        if (phase != RUNS) {
            return;
        }
        phase = ENDING;
        for (int h = 0; h < HANDLERS; h++) {
            int left = handlers[h].line.removeNotBegun();
            gone += left;
            notDone -= left;
        }
    }

    private void endIfAllDone() {
        if (phase == ENDING && notDone == 0) {
            phase = SETUP;
            area.clear();
            turns.clear();
        }
    }

    /** What is laid down for a number, the releases that wait there, and what was counted. */
    private static final class Handler {
        boolean there;
        int kind;
        int priority;
        int first;
        int every;
        int deadline;
        int miss;
        int budget;
        int steps;
        final int[] ops;
        final int[] args;
        final int[] counts;
        final Line line;
        /** The time of the next release by time; only level 1 looks at it. */
        int nextAt;

        Handler(int number) {
            ops = new int[STEPS];
            args = new int[STEPS];
            counts = new int[COUNTS];
            line = new Line(number);
        }

        /** The counts stay: they belong to the number. */
        void layDown(int kind, int priority, int first, int every) {
            there = true;
            this.kind = kind;
            this.priority = priority;
            this.first = first;
            this.every = every;
            deadline = 0;
            miss = -1;
            budget = FIRST_BUDGET;
            steps = 0;
        }

        int addStep(int op, int a) {
            if (steps >= STEPS) {
                return FULL;
            }
            ops[steps] = op;
            args[steps] = a;
            steps++;
            return steps;
        }
    }

    /** The releases of one handler that are not done: a ring of a power of two, whose rows are used again. */
    private static final class Line {
        final Release[] ring;
        int head;
        int size;

        Line(int owner) {
            ring = new Release[WAITING];
            for (int i = 0; i < WAITING; i++) {
                ring[i] = new Release(owner);
            }
        }

        Release first() {
            return ring[head];
        }

        Release at(int i) {
            return ring[(head + i) & (WAITING - 1)];
        }

        /** The row for one more, or null if there is none. */
        Release grow() {
            if (size >= WAITING) {
                return null;
            }
            size++;
            return at(size - 1);
        }

        void removeFirst() {
            if (size > 0) {
                head = (head + 1) & (WAITING - 1);
                size--;
            }
        }

        /** How many went; only the first one can have begun. */
        int removeNotBegun() {
            int before = size;
            size = size > 0 && first().begun ? 1 : 0;
            return before - size;
        }

        /** The first one behind this arrival that came at that time, or null. */
        Release missBehind(int arrival, int cameAt) {
            for (int i = 0; i < size; i++) {
                if (at(i).cameAt == cameAt && at(i).arrival > arrival) {
                    return at(i);
                }
            }
            return null;
        }
    }

    private static final class Release {
        final int owner;
        final Scopes scopes;
        final HeldLocks held;
        int cameAt;
        int arrival;
        boolean begun;
        int nextStep;
        int ticksDone;

        Release(int owner) {
            this.owner = owner;
            scopes = new Scopes();
            held = new HeldLocks();
        }

        void come(int cameAt, int arrival) {
            this.cameAt = cameAt;
            this.arrival = arrival;
            begun = false;
            nextStep = 0;
            ticksDone = 0;
            held.size = 0;
        }

        void start(int budget) {
            begun = true;
            scopes.open(budget);
        }
    }

    /** The areas of one release, one inside the other, and the objects that it made. */
    private static final class Scopes {
        /** By depth: 0 stands for the mission's area, 1 for the one that the release got first. */
        final int[] left;
        final int[] taken;
        int depth;
        final int[] sizes;
        final int[] depths;
        int objects;

        Scopes() {
            left = new int[STEPS + 2];
            taken = new int[STEPS + 2];
            sizes = new int[STEPS];
            depths = new int[STEPS];
        }

        void open(int budget) {
            depth = 1;
            left[1] = budget;
            objects = 0;
        }

        int roomLeft() {
            return left[depth];
        }

        boolean makeHere(int size) {
            if (size > left[depth]) {
                return false;
            }
            left[depth] -= size;
            note(size, depth);
            return true;
        }

        void noteKept(int size) {
            note(size, 0);
        }

        private void note(int size, int where) {
            if (objects < STEPS) {
                sizes[objects] = size;
                depths[objects] = where;
                objects++;
            }
        }

        boolean enter(int room) {
            if (room > left[depth] || depth + 1 >= left.length) {
                return false;
            }
            left[depth] -= room;
            depth++;
            left[depth] = room;
            taken[depth] = room;
            return true;
        }

        boolean leave() {
            if (depth <= 1) {
                return false;
            }
            int staying = 0;
            for (int i = 0; i < objects; i++) {
                if (depths[i] != depth) {
                    sizes[staying] = sizes[i];
                    depths[staying] = depths[i];
                    staying++;
                }
            }
            objects = staying;
            left[depth - 1] += taken[depth];
            depth--;
            return true;
        }

        int ownObjects() {
            int own = 0;
            for (int i = 0; i < objects; i++) {
                if (depths[i] > 0) {
                    own++;
                }
            }
            return own;
        }

        int latestSize() {
            return objects == 0 ? NONE : sizes[objects - 1];
        }

        /** Way 0: from the latest object to the one before it; 1: the other way round. */
        boolean mayPoint(int way) {
            if (objects < 2) {
                return false;
            }
            int latest = depths[objects - 1];
            int other = depths[objects - 2];
            return way == 0 ? latest >= other : other >= latest;
        }
    }

    /** The locks that one release holds, the latest one last. */
    private static final class HeldLocks {
        final int[] locks;
        int size;

        HeldLocks() {
            locks = new int[LOCKS];
        }

        int latest() {
            return size == 0 ? NONE : locks[size - 1];
        }

        boolean holds(int m) {
            for (int i = 0; i < size; i++) {
                if (locks[i] == m) {
                    return true;
                }
            }
            return false;
        }

        void take(int m) {
            if (size < LOCKS) {
                locks[size] = m;
                size++;
            }
        }

        boolean free(int m) {
            if (size == 0 || locks[size - 1] != m) {
                return false;
            }
            size--;
            return true;
        }

        /** The greatest ceiling of those held; 0 without one. */
        int greatest(int[] ceilings) {
            int greatest = 0;
            for (int i = 0; i < size; i++) {
                greatest = Math.max(greatest, ceilings[locks[i]]);
            }
            return greatest;
        }
    }

    private static final class MissionArea {
        int room;
        int objects;

        void open(int room) {
            this.room = room;
            objects = 0;
        }

        void clear() {
            room = 0;
            objects = 0;
        }

        boolean make(int size) {
            if (size > room) {
                return false;
            }
            room -= size;
            objects++;
            return true;
        }
    }

    private static final class Frame {
        /** 0: it is not there. */
        int ticks;
        int taken;
        final int[] places;

        Frame() {
            places = new int[PLACES];
        }

        boolean isThere() {
            return ticks > 0;
        }

        void layDown(int ticks) {
            this.ticks = ticks;
            taken = 0;
        }

        int addPlace(int h) {
            if (taken >= PLACES) {
                return FULL;
            }
            places[taken] = h;
            taken++;
            return taken;
        }
    }

    /** The frames, and whose turn it is in a mission. */
    private static final class Turns {
        final Frame[] frames;
        int next;
        int dueAt;
        int latest;
        int begun;

        Turns() {
            frames = new Frame[FRAMES];
            for (int f = 0; f < FRAMES; f++) {
                frames[f] = new Frame();
            }
            latest = NONE;
        }

        boolean anyFrame() {
            for (int f = 0; f < FRAMES; f++) {
                if (frames[f].isThere()) {
                    return true;
                }
            }
            return false;
        }

        void start(int time) {
            clear();
            next = thereBehind(FRAMES - 1);
            dueAt = time;
        }

        void clear() {
            latest = NONE;
            begun = 0;
        }

        void beginNext() {
            latest = next;
            begun++;
            dueAt += frames[latest].ticks;
            next = thereBehind(latest);
        }

        /** The next frame that is there, by numbers and round again; f itself if no other is. */
        private int thereBehind(int f) {
            for (int i = 1; i < FRAMES; i++) {
                int candidate = (f + i) & (FRAMES - 1);
                if (frames[candidate].isThere()) {
                    return candidate;
                }
            }
            return f;
        }
    }

    /** The latest events, in a ring of a power of two. */
    private static final class Journal {
        final int[] ring;
        int noted;

        Journal() {
            ring = new int[REMEMBERED];
        }

        void note(int sort, int h) {
            ring[noted & (REMEMBERED - 1)] = 8 * sort + h;
            noted++;
        }

        int latest(int k) {
            if (k < 0 || k >= REMEMBERED || k >= noted) {
                return NONE;
            }
            return ring[(noted - 1 - k) & (REMEMBERED - 1)];
        }
    }
}
