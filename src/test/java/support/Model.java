import java.util.ArrayList;
import java.util.Comparator;
import java.util.List;

/**
 * The document a second time, as plainly as the Java library lets it be said: one list of all
 * releases in the order in which they came, areas that know the one around them, and objects that
 * know their area. It shares nothing with MissionDesk.
 */
final class Model {
    static final int REFUSED = -1;
    static final int NONE = -2;
    static final int FULL = -3;

    static final class Area {
        Area around;
        int room;
        int tookOfAround;
        boolean isGone;
    }

    static final class Thing {
        Area area;
        int size;
    }

    static final class Step {
        int op;
        int a;
    }

    static final class Plan {
        int kind;
        int priority;
        int first;
        int every;
        int deadline;
        int miss = -1;
        int budget = 20;
        List<Step> body = new ArrayList<>();
    }

    static final class Rel {
        int h;
        int came;
        boolean begun;
        int next;
        int ticks;
        Area own;
        Area current;
        List<Thing> things = new ArrayList<>();
        List<Integer> locks = new ArrayList<>();
    }

    static final class Slot {
        int ticks;
        List<Integer> places = new ArrayList<>();
    }

    final Plan[] plans = new Plan[8];
    final int[][] counts = new int[8][16];
    final int[] ceilings = {9, 9, 9, 9};
    final Slot[] slots = new Slot[4];
    final List<Rel> releases = new ArrayList<>();
    final List<Integer> events = new ArrayList<>();
    final List<Integer> framesBegun = new ArrayList<>();
    final List<Thing> kept = new ArrayList<>();
    Area mission;
    String state = "SETUP";
    int level;
    int time;
    int missions;
    int began;
    int points;
    int made;
    int overruns;
    int gone;
    int idle;

    private static boolean in(int x, int from, int to) {
        return from <= x && x <= to;
    }

    private boolean there(int h) {
        return in(h, 0, 7) && plans[h] != null;
    }

    boolean handler(int h, int kind, int priority, int first, int every) {
        boolean fine = in(h, 0, 7) && in(kind, 0, 2) && in(priority, 1, 9) && in(first, 0, 50) && in(every, 1, 50);
        if (!fine || !state.equals("SETUP")) {
            return false;
        }
        Plan plan = new Plan();
        plan.kind = kind;
        plan.priority = priority;
        plan.first = first;
        plan.every = every;
        plans[h] = plan;
        return true;
    }

    boolean limit(int h, int deadline, int miss, int budget) {
        if (!there(h) || !in(deadline, 0, 60) || !in(miss, -1, 7) || !in(budget, 0, 60) || !state.equals("SETUP")) {
            return false;
        }
        plans[h].deadline = deadline;
        plans[h].miss = miss;
        plans[h].budget = budget;
        return true;
    }

    int step(int h, int op, int a) {
        if (!there(h)) {
            return REFUSED;
        }
        boolean fine;
        switch (op) {
            case 0: case 1: case 2: fine = in(a, 1, 20); break;
            case 3: fine = in(a, 1, 30); break;
            case 4: case 8: fine = true; break;
            case 5: case 6: fine = in(a, 0, 3); break;
            case 7: fine = in(a, 0, 7); break;
            case 9: fine = in(a, 0, 1); break;
            default: fine = false;
        }
        if (!fine) {
            return REFUSED;
        }
        if (!state.equals("SETUP")) {
            return NONE;
        }
        if (plans[h].body.size() == 10) {
            return FULL;
        }
        Step step = new Step();
        step.op = op;
        step.a = a;
        plans[h].body.add(step);
        return plans[h].body.size();
    }

    boolean ceiling(int m, int priority) {
        if (!in(m, 0, 3) || !in(priority, 1, 9) || !state.equals("SETUP")) {
            return false;
        }
        ceilings[m] = priority;
        return true;
    }

    boolean frame(int f, int ticks) {
        if (!in(f, 0, 3) || !in(ticks, 0, 30) || !state.equals("SETUP")) {
            return false;
        }
        slots[f] = null;
        if (ticks > 0) {
            slots[f] = new Slot();
            slots[f].ticks = ticks;
        }
        return true;
    }

    int place(int f, int h) {
        if (!in(f, 0, 3) || !in(h, 0, 7)) {
            return REFUSED;
        }
        if (slots[f] == null || !state.equals("SETUP")) {
            return NONE;
        }
        if (slots[f].places.size() == 4) {
            return FULL;
        }
        slots[f].places.add(h);
        return slots[f].places.size();
    }

    private List<Integer> frameNumbers() {
        List<Integer> numbers = new ArrayList<>();
        for (int f = 0; f < 4; f++) {
            if (slots[f] != null) {
                numbers.add(f);
            }
        }
        return numbers;
    }

    int begin(int level, int room) {
        if (!in(level, 0, 1) || !in(room, 0, 100)) {
            return REFUSED;
        }
        if (!state.equals("SETUP") || (level == 0 && frameNumbers().isEmpty())) {
            return NONE;
        }
        this.level = level;
        mission = new Area();
        mission.room = room;
        began = time;
        state = "RUNS";
        missions++;
        return missions;
    }

    int run(int n) {
        if (!in(n, 1, 20)) {
            return REFUSED;
        }
        if (state.equals("SETUP")) {
            return NONE;
        }
        int done = 0;
        do {
            tick();
            done++;
        } while (done < n && !state.equals("SETUP"));
        return done;
    }

    int call(int h) {
        if (!there(h) || plans[h].kind != 2) {
            return REFUSED;
        }
        if (!state.equals("RUNS")) {
            return NONE;
        }
        int dropped = counts[h][11];
        come(h);
        return counts[h][11] > dropped ? FULL : line(h).size();
    }

    boolean stop() {
        if (!state.equals("RUNS")) {
            return false;
        }
        tellToEnd();
        return true;
    }

    private List<Rel> line(int h) {
        List<Rel> line = new ArrayList<>();
        for (Rel rel : releases) {
            if (rel.h == h) {
                line.add(rel);
            }
        }
        return line;
    }

    private int active(Rel rel) {
        int active = plans[rel.h].priority;
        for (int m : rel.locks) {
            active = Math.max(active, ceilings[m]);
        }
        return active;
    }

    int of(int h, int what) {
        if (!there(h) || !in(what, 0, 15)) {
            return REFUSED;
        }
        if (what >= 8) {
            return counts[h][what];
        }
        if (what == 0) {
            return plans[h].kind;
        }
        if (what == 1) {
            return plans[h].priority;
        }
        if (what == 2) {
            return plans[h].body.size();
        }
        List<Rel> line = line(h);
        if (what == 3) {
            return line.size();
        }
        if (line.isEmpty()) {
            return NONE;
        }
        Rel rel = line.get(0);
        return what == 4 ? rel.next : what == 5 ? rel.ticks : what == 6 ? active(rel) : rel.came;
    }

    private static boolean isThereStill(Thing thing) {
        for (Area area = thing.area; area != null; area = area.around) {
            if (area.isGone) {
                return false;
            }
        }
        return true;
    }

    private static List<Thing> thingsOf(Rel rel) {
        List<Thing> there = new ArrayList<>();
        for (Thing thing : rel.things) {
            if (isThereStill(thing)) {
                there.add(thing);
            }
        }
        return there;
    }

    int memory(int h, int what) {
        if (!there(h) || !in(what, 0, 5)) {
            return REFUSED;
        }
        List<Rel> line = line(h);
        if (line.isEmpty() || !line.get(0).begun) {
            return NONE;
        }
        Rel rel = line.get(0);
        List<Thing> things = thingsOf(rel);
        if (what == 0) {
            int areas = 0;
            for (Area area = rel.current; area != mission; area = area.around) {
                areas++;
            }
            return areas;
        }
        if (what == 1) {
            return rel.current.room;
        }
        if (what == 2) {
            int own = 0;
            for (Thing thing : things) {
                own += thing.area == mission ? 0 : 1;
            }
            return own;
        }
        if (what == 3) {
            return rel.locks.size();
        }
        if (what == 4) {
            return rel.locks.isEmpty() ? NONE : rel.locks.get(rel.locks.size() - 1);
        }
        return things.isEmpty() ? NONE : things.get(things.size() - 1).size;
    }

    int desk(int what) {
        boolean setup = state.equals("SETUP");
        switch (what) {
            case 0: return setup ? 0 : state.equals("RUNS") ? 1 : 2;
            case 1: return time;
            case 2: return missions;
            case 3: return releases.size();
            case 4: return choose() == null ? NONE : choose().h;
            case 5: return kept.size();
            case 6: return setup ? 0 : mission.room;
            case 7: return points;
            case 8: return made;
            case 9: return framesBegun.isEmpty() ? NONE : framesBegun.get(framesBegun.size() - 1);
            case 10: return framesBegun.size();
            case 11: return overruns;
            case 12: return gone;
            case 13: return idle;
            default: return REFUSED;
        }
    }

    int event(int k) {
        return in(k, 0, 31) && k < events.size() ? events.get(events.size() - 1 - k) : NONE;
    }

    private void happened(int sort, int h) {
        events.add(8 * sort + h);
    }

    private void come(int h) {
        if (line(h).size() == 4) {
            counts[h][11]++;
            happened(6, h);
            return;
        }
        Rel rel = new Rel();
        rel.h = h;
        rel.came = time;
        releases.add(rel);
        counts[h][8]++;
        happened(1, h);
    }

    private void called(int h) {
        if (there(h) && plans[h].kind == 2 && state.equals("RUNS")) {
            come(h);
        }
    }

    private void tellToEnd() {
        if (state.equals("RUNS")) {
            state = "ENDING";
            int before = releases.size();
            releases.removeIf(rel -> !rel.begun);
            gone += before - releases.size();
            overIfNoneIsLeft();
        }
    }

    private void overIfNoneIsLeft() {
        if (state.equals("ENDING") && releases.isEmpty()) {
            state = "SETUP";
            kept.clear();
            framesBegun.clear();
        }
    }

    private Rel choose() {
        List<Rel> ready = new ArrayList<>();
        for (int h = 0; h < 8; h++) {
            List<Rel> line = line(h);
            if (!line.isEmpty()) {
                ready.add(line.get(0));
            }
        }
        ready.sort(Comparator.comparingInt(releases::indexOf));
        Rel best = null;
        for (Rel rel : ready) {
            if (best == null || (level == 1 && active(rel) > active(best))) {
                best = rel;
            }
        }
        return best;
    }

    private void tick() {
        if (state.equals("RUNS") && level == 1) {
            int since = time - began;
            for (int h = 0; h < 8; h++) {
                Plan plan = plans[h];
                if (plan != null && plan.kind == 0 && since >= plan.first && (since - plan.first) % plan.every == 0) {
                    come(h);
                } else if (plan != null && plan.kind == 1 && since == plan.first) {
                    come(h);
                }
            }
        }
        if (state.equals("RUNS") && level == 0) {
            frames();
        }
        for (Rel rel : new ArrayList<>(releases)) {
            int deadline = plans[rel.h].deadline;
            if (deadline != 0 && rel.came + deadline == time) {
                counts[rel.h][10]++;
                happened(5, rel.h);
                called(plans[rel.h].miss);
            }
        }
        if (!processor()) {
            idle++;
        }
        time++;
    }

    private void frames() {
        List<Integer> numbers = frameNumbers();
        int due = began;
        for (int n = 0; n < framesBegun.size(); n++) {
            due += slots[framesBegun.get(n)].ticks;
        }
        if (time < due || (!releases.isEmpty() && !framesBegun.isEmpty())) {
            return;
        }
        if (time != due) {
            overruns++;
            happened(7, 0);
        }
        int f = numbers.get(framesBegun.size() % numbers.size());
        framesBegun.add(f);
        for (int h : slots[f].places) {
            if (there(h)) {
                come(h);
            }
        }
    }

    private boolean processor() {
        int others = 0;
        while (others < 40) {
            Rel rel = choose();
            if (rel == null) {
                return false;
            }
            Plan plan = plans[rel.h];
            if (!rel.begun) {
                rel.begun = true;
                rel.own = new Area();
                rel.own.around = mission;
                rel.own.room = plan.budget;
                rel.current = rel.own;
                happened(2, rel.h);
                if (plan.body.isEmpty()) {
                    done(rel, 0);
                    continue;
                }
            }
            Step step = plan.body.get(rel.next);
            if (step.op == 0) {
                counts[rel.h][15]++;
                rel.ticks++;
                if (rel.ticks == step.a) {
                    behindStep(rel);
                }
                return true;
            }
            others++;
            int fault = other(rel, step.op, step.a);
            if (fault != 0) {
                done(rel, fault);
            } else {
                behindStep(rel);
            }
        }
        return false;
    }

    private void behindStep(Rel rel) {
        rel.ticks = 0;
        rel.next++;
        if (rel.next == plans[rel.h].body.size()) {
            done(rel, 0);
        }
    }

    private void done(Rel rel, int fault) {
        if (fault == 0) {
            counts[rel.h][9]++;
            happened(3, rel.h);
        } else {
            counts[rel.h][11 + fault]++;
            happened(4, rel.h);
        }
        releases.remove(rel);
        overIfNoneIsLeft();
    }

    private int other(Rel rel, int op, int a) {
        switch (op) {
            case 1: return make(rel, rel.current, a);
            case 2: return make(rel, mission, a);
            case 3: return enter(rel, a);
            case 4: return leave(rel);
            case 5:
                if (rel.locks.contains(a) || ceilings[a] < plans[rel.h].priority) {
                    return 3;
                }
                rel.locks.add(a);
                return 0;
            case 6:
                if (rel.locks.isEmpty() || rel.locks.get(rel.locks.size() - 1) != a) {
                    return 3;
                }
                rel.locks.remove(rel.locks.size() - 1);
                return 0;
            case 7:
                called(a);
                return 0;
            case 8:
                tellToEnd();
                return 0;
            default: return point(rel, a);
        }
    }

    private int make(Rel rel, Area area, int size) {
        if (size > area.room) {
            return 1;
        }
        Thing thing = new Thing();
        thing.area = area;
        thing.size = size;
        area.room -= size;
        rel.things.add(thing);
        if (area == mission) {
            kept.add(thing);
        }
        made++;
        return 0;
    }

    private int enter(Rel rel, int room) {
        if (room > rel.current.room) {
            return 1;
        }
        Area area = new Area();
        area.around = rel.current;
        area.room = room;
        area.tookOfAround = room;
        rel.current.room -= room;
        rel.current = area;
        return 0;
    }

    private int leave(Rel rel) {
        if (rel.current == rel.own) {
            return 2;
        }
        rel.current.isGone = true;
        rel.current.around.room += rel.current.tookOfAround;
        rel.current = rel.current.around;
        return 0;
    }

    private int point(Rel rel, int a) {
        List<Thing> things = thingsOf(rel);
        if (things.size() < 2) {
            return 2;
        }
        Thing latest = things.get(things.size() - 1);
        Thing other = things.get(things.size() - 2);
        Thing from = a == 0 ? latest : other;
        Thing to = a == 0 ? other : latest;
        for (Area area = to.area.around; area != null; area = area.around) {
            if (area == from.area) {
                return 2;
            }
        }
        points++;
        return 0;
    }

    int answer(String method, int[] a) {
        switch (method) {
            case "handler": return handler(a[0], a[1], a[2], a[3], a[4]) ? 1 : 0;
            case "limit": return limit(a[0], a[1], a[2], a[3]) ? 1 : 0;
            case "step": return step(a[0], a[1], a[2]);
            case "ceiling": return ceiling(a[0], a[1]) ? 1 : 0;
            case "frame": return frame(a[0], a[1]) ? 1 : 0;
            case "place": return place(a[0], a[1]);
            case "begin": return begin(a[0], a[1]);
            case "run": return run(a[0]);
            case "call": return call(a[0]);
            case "stop": return stop() ? 1 : 0;
            case "of": return of(a[0], a[1]);
            case "memory": return memory(a[0], a[1]);
            case "desk": return desk(a[0]);
            case "event": return event(a[0]);
            default: throw new IllegalArgumentException("no such call: " + method);
        }
    }
}
