import java.util.ArrayList;
import java.util.List;

/** The document once more, in its plainest form: recursion, exceptions, lists; for comparing only. */
final class Model {
    static final class E {
        final char op;
        final int n;
        final int m;
        final E[] parts;

        E(char op, int n, int m, E... parts) {
            this.op = op;
            this.n = n;
            this.m = m;
            this.parts = parts;
        }
    }

    static final class Need {
        int type;
        int word = -1;
        boolean late;
        boolean all;
    }

    static final class Part {
        List<Integer> types = new ArrayList<>();
        int scope;
        int word = -1;
        int rank;
        int whenSetting = -1;
        int whenValue;
        List<Need> needs = new ArrayList<>();
        E opened;
        E closed;
        E[] methods = new E[20];
    }

    static final class Wrap {
        int type;
        int method;
        int number;
        int phase;
        E e;
    }

    static final class Text {
        List<List<Integer>> likes = new ArrayList<>();
        List<Integer> settings = new ArrayList<>();
        List<Part> parts = new ArrayList<>();
        List<Wrap> wraps = new ArrayList<>();
    }

    static final class Failure extends RuntimeException {
        private static final long serialVersionUID = 1;
        final transient List<Integer> kinds;

        Failure(List<Integer> kinds) {
            super(null, null, false, false);
            this.kinds = kinds;
        }
    }

    static final class Spent extends RuntimeException {
        private static final long serialVersionUID = 1;

        Spent() {
            super(null, null, false, false);
        }
    }

    static final class Thing {
        int part;
        int place;
        int state;
        int end;
        List<List<Integer>> joined = new ArrayList<>();
    }

    static final class Scope {
        int kind;
        int day;
        boolean open = true;
        boolean[] spoiled = new boolean[24];
    }

    final Text text;
    final int[] settings = new int[12];
    final List<Scope> scopes = new ArrayList<>();
    final List<Thing> things = new ArrayList<>();
    final List<int[]> closings = new ArrayList<>();
    final List<int[]> did = new ArrayList<>();
    List<int[]> faults = new ArrayList<>();
    List<Integer> cause = new ArrayList<>();
    boolean ready;
    boolean listening;
    int outcome;
    int steps;
    int allSteps;
    private int ends;
    private List<Integer> made = new ArrayList<>();

    Model(Text text, int stepsAhead) {
        this.text = text;
        allSteps = stepsAhead;
        for (int k = 0; k < text.settings.size(); k++) {
            settings[k] = text.settings.get(k);
        }
        scopes.add(new Scope());
    }

    // ---- part 2

    boolean underType(int t, int asked) {
        if (t == asked) {
            return true;
        }
        for (int like : text.likes.get(t)) {
            if (underType(like, asked)) {
                return true;
            }
        }
        return false;
    }

    boolean under(int c, int type) {
        for (int t : text.parts.get(c).types) {
            if (underType(t, type)) {
                return true;
            }
        }
        return false;
    }

    boolean there(int c) {
        Part p = text.parts.get(c);
        return p.whenSetting < 0 || settings[p.whenSetting] == p.whenValue;
    }

    List<Integer> candidates(int c, int n) {
        Need need = text.parts.get(c).needs.get(n);
        List<Integer> found = new ArrayList<>();
        int best = -1;
        for (int k = 0; k < text.parts.size(); k++) {
            Part p = text.parts.get(k);
            if (there(k) && under(k, need.type) && (need.word < 0 || need.word == p.word)) {
                found.add(k);
                best = Math.max(best, p.rank);
            }
        }
        if (!need.all) {
            List<Integer> greatest = new ArrayList<>();
            for (int k : found) {
                if (text.parts.get(k).rank == best) {
                    greatest.add(k);
                }
            }
            return greatest;
        }
        return found;
    }

    int check() {
        faults = new ArrayList<>();
        for (int c = 0; c < text.parts.size(); c++) {
            for (int n = 0; there(c) && n < text.parts.get(c).needs.size(); n++) {
                int kind = faultOf(c, n);
                if (kind != 0) {
                    faults.add(new int[] {kind, c, n});
                }
            }
        }
        List<Integer> seen = new ArrayList<>();
        for (int c = 0; c < text.parts.size(); c++) {
            if (there(c)) {
                visit(c, new ArrayList<>(), seen);
            }
        }
        ready = faults.isEmpty();
        return faults.size();
    }

    private int faultOf(int c, int n) {
        Part p = text.parts.get(c);
        Need need = p.needs.get(n);
        List<Integer> found = candidates(c, n);
        if (!need.all && found.isEmpty()) {
            return 1;
        }
        if (!need.all && found.size() > 1) {
            return 2;
        }
        if (!need.late) {
            for (int k : found) {
                int theirs = text.parts.get(k).scope;
                int mine = p.scope == 3 ? 2 : p.scope;
                if (theirs != 3 && theirs > mine) {
                    return 4;
                }
            }
        }
        return 0;
    }

    private void visit(int c, List<Integer> way, List<Integer> seen) {
        if (way.contains(c)) {
            List<Integer> ring = way.subList(way.indexOf(c), way.size());
            int[] fault = new int[3 + ring.size()];
            fault[0] = 3;
            fault[1] = c;
            fault[2] = ring.size();
            for (int k = 0; k < ring.size(); k++) {
                fault[3 + k] = ring.get(k);
            }
            faults.add(fault);
            return;
        }
        if (seen.contains(c)) {
            return;
        }
        seen.add(c);
        way.add(c);
        for (int n = 0; n < text.parts.get(c).needs.size(); n++) {
            int kind = faultOf(c, n);
            if (!text.parts.get(c).needs.get(n).late && kind != 1 && kind != 2) {
                for (int k : candidates(c, n)) {
                    visit(k, way, seen);
                }
            }
        }
        way.remove(way.size() - 1);
    }

    // ---- part 3

    int open(int kind, int day) {
        boolean well = ready && scopes.size() < 40;
        if (kind == 2) {
            well = well && day >= 0 && day < scopes.size() && scopes.get(day).kind == 1 && scopes.get(day).open;
        }
        if (!well) {
            return -1;
        }
        Scope s = new Scope();
        s.kind = kind;
        s.day = day;
        scopes.add(s);
        return scopes.size() - 1;
    }

    boolean isOpen(int scope) {
        return scope >= 0 && scope < scopes.size() && scopes.get(scope).open;
    }

    int place(int c, int scope) {
        int kind = text.parts.get(c).scope;
        Scope s = scopes.get(scope);
        if (kind == 0) {
            return 0;
        }
        if (kind == 1) {
            return s.kind == 1 ? scope : s.kind == 2 ? s.day : -1;
        }
        if (kind == 2) {
            return s.kind == 2 ? scope : -1;
        }
        return scope;
    }

    private void step() {
        if (steps >= 3000 || allSteps >= 60000) {
            throw new Spent();
        }
        steps++;
        allSteps++;
    }

    private static Failure failure(int kind) {
        List<Integer> kinds = new ArrayList<>();
        kinds.add(kind);
        return new Failure(kinds);
    }

    private int obtain(int c, int scope, int level) {
        int place = place(c, scope);
        boolean isNew = text.parts.get(c).scope == 3;
        if (place < 0) {
            throw failure(14);
        }
        if (scopes.get(place).spoiled[c]) {
            throw failure(15);
        }
        for (int o = 0; o < things.size() && !isNew; o++) {
            Thing t = things.get(o);
            if (t.part == c && t.place == place && t.state == 0) {
                throw failure(12);
            }
            if (t.part == c && t.place == place && t.state == 1) {
                return o;
            }
        }
        return make(c, place, level);
    }

    private int make(int c, int place, int level) {
        Part p = text.parts.get(c);
        step();
        if (things.size() >= 300) {
            throw failure(16);
        }
        Thing t = new Thing();
        t.part = c;
        t.place = place;
        for (int n = 0; n < p.needs.size(); n++) {
            t.joined.add(new ArrayList<>());
        }
        things.add(t);
        int o = things.size() - 1;
        boolean inNeed = true;
        try {
            for (int n = 0; n < p.needs.size(); n++) {
                if (!p.needs.get(n).late) {
                    for (int k : candidates(c, n)) {
                        t.joined.get(n).add(obtain(k, place, level));
                    }
                }
            }
            inNeed = false;
            if (p.opened != null) {
                work(p.opened, 0, o, place, level);
            }
        } catch (Failure f) {
            t.state = 2;
            int last = f.kinds.get(f.kinds.size() - 1);
            if (p.scope != 3 && last != 12 && last != 13 && last != 16) {
                scopes.get(place).spoiled[c] = true;
            }
            if (!inNeed) {
                throw f;
            }
            List<Integer> kinds = new ArrayList<>();
            kinds.add(20);
            kinds.addAll(f.kinds);
            throw new Failure(kinds);
        } catch (Spent s) {
            t.state = 2;
            throw s;
        }
        t.state = 1;
        t.end = ends++;
        made.add(o);
        return o;
    }

    private int root(int c, int scope, int level) {
        List<Integer> outer = made;
        made = new ArrayList<>();
        try {
            int o = obtain(c, scope, level);
            made = outer;
            return o;
        } catch (Spent s) {
            made = outer;
            throw s;
        } catch (Failure f) {
            List<Integer> mine = made;
            made = outer;
            boolean well = true;
            for (int k = mine.size() - 1; k >= 0; k--) {
                well &= shutObject(mine.get(k), level);
            }
            if (!well) {
                throw new Spent();
            }
            throw f;
        }
    }

    /** Answers false if the closing was SPENT. */
    private boolean shutObject(int o, int level) {
        Thing t = things.get(o);
        E e = text.parts.get(t.part).closed;
        int kind = 0;
        try {
            if (e != null) {
                work(e, 0, o, t.place, level);
            }
        } catch (Failure f) {
            kind = f.kinds.get(0);
        } catch (Spent s) {
            kind = 18;
        }
        t.state = 2;
        closings.add(new int[] {o, kind});
        return kind != 18;
    }

    // ---- part 4

    private List<Integer> wraps(int c, int method, int phase) {
        List<Integer> found = new ArrayList<>();
        for (int number = 0; number < 100; number++) {
            for (int w = 0; w < text.wraps.size(); w++) {
                Wrap wrap = text.wraps.get(w);
                if (wrap.number == number && wrap.method == method && wrap.phase == phase && under(c, wrap.type)) {
                    found.add(w);
                }
            }
        }
        return found;
    }

    private void note(int kind, int what, int arg) {
        if (listening && did.size() < 100) {
            did.add(new int[] {kind, what, arg});
        }
    }

    private int invoke(int o, int scope, int method, int arg, int level) {
        step();
        if (level > 10) {
            throw failure(13);
        }
        if (things.get(o).state != 1) {
            throw failure(17);
        }
        int c = things.get(o).part;
        try {
            return inside(o, c, scope, method, arg, level, 0);
        } catch (Failure f) {
            List<Integer> failings = wraps(c, method, 3);
            for (int k = failings.size() - 1; k >= 0; k--) {
                try {
                    note(3, failings.get(k), f.kinds.get(0));
                    return work(text.wraps.get(failings.get(k)).e, f.kinds.get(0), o, scope, level);
                } catch (Failure again) {
                    continue;
                }
            }
            throw f;
        }
    }

    private int inside(int o, int c, int scope, int method, int arg, int level, int k) {
        List<Integer> arounds = wraps(c, method, 1);
        if (k < arounds.size()) {
            note(1, arounds.get(k), arg);
            return new Around(o, c, scope, method, level, k).work(text.wraps.get(arounds.get(k)).e, arg);
        }
        int value = arg;
        for (int w : wraps(c, method, 0)) {
            note(0, w, value);
            value = work(text.wraps.get(w).e, value, o, scope, level);
        }
        E body = text.parts.get(c).methods[method];
        if (body == null) {
            throw failure(11);
        }
        note(4, o, value);
        value = work(body, value, o, scope, level);
        List<Integer> afters = wraps(c, method, 2);
        for (int w = afters.size() - 1; w >= 0; w--) {
            note(2, afters.get(w), value);
            value = work(text.wraps.get(afters.get(w)).e, value, o, scope, level);
        }
        return value;
    }

    private final class Around {
        final int o;
        final int c;
        final int scope;
        final int method;
        final int level;
        final int k;

        Around(int o, int c, int scope, int method, int level, int k) {
            this.o = o;
            this.c = c;
            this.scope = scope;
            this.method = method;
            this.level = level;
            this.k = k;
        }

        int work(E e, int arg) {
            return Model.this.work(e, arg, o, scope, level, this);
        }

        int go(int arg) {
            return inside(o, c, scope, method, arg, level, k + 1);
        }
    }

    private int work(E e, int arg, int o, int scope, int level) {
        return work(e, arg, o, scope, level, null);
    }

    private int work(E e, int arg, int o, int scope, int level, Around around) {
        switch (e.op) {
            case '+': return sub(e, 0, arg, o, scope, level, around) + sub(e, 1, arg, o, scope, level, around);
            case '-': return sub(e, 0, arg, o, scope, level, around) - sub(e, 1, arg, o, scope, level, around);
            case '*': return sub(e, 0, arg, o, scope, level, around) * sub(e, 1, arg, o, scope, level, around);
            case '<': return sub(e, 0, arg, o, scope, level, around) < sub(e, 1, arg, o, scope, level, around) ? 1 : 0;
            case '=': return sub(e, 0, arg, o, scope, level, around) == sub(e, 1, arg, o, scope, level, around) ? 1 : 0;
            default: break;
        }
        step();
        switch (e.op) {
            case 'n': return e.n;
            case 'a': return arg;
            case '(': return sub(e, 0, arg, o, scope, level, around);
            case '~': return -sub(e, 0, arg, o, scope, level, around);
            case 'f': throw failure(e.n);
            case 's': return settings[e.n];
            case 'p': return sub(e, sub(e, 0, arg, o, scope, level, around) != 0 ? 1 : 2, arg, o, scope, level, around);
            case 'g': return around.go(sub(e, 0, arg, o, scope, level, around));
            default: return ofNeed(e, sub(e, 0, arg, o, scope, level, around), o, scope, level);
        }
    }

    private int sub(E e, int k, int arg, int o, int scope, int level, Around around) {
        return work(e.parts[k], arg, o, scope, level, around);
    }

    private int ofNeed(E e, int value, int o, int scope, int level) {
        Thing t = things.get(o);
        Need need = text.parts.get(t.part).needs.get(e.n);
        List<Integer> joined = t.joined.get(e.n);
        if (need.all) {
            int sum = 0;
            for (int k = 0; k < joined.size(); k++) {
                sum += invoke(joined.get(k), scope, e.m, value, level + 1);
            }
            return sum;
        }
        if (!need.late) {
            return invoke(joined.get(0), scope, e.m, value, level + 1);
        }
        int candidate = candidates(t.part, e.n).get(0);
        boolean isNew = text.parts.get(candidate).scope == 3;
        if (isNew && !joined.isEmpty()) {
            return invoke(joined.get(0), scope, e.m, value, level + 1);
        }
        if (level + 1 > 10) {
            throw failure(13);
        }
        int got = root(candidate, scope, level + 1);
        if (isNew && joined.isEmpty()) {
            joined.add(got);
        }
        return invoke(got, scope, e.m, value, level + 1);
    }

    // ---- the face

    int get(int scope, int c) {
        steps = 0;
        cause = new ArrayList<>();
        if (!ready) {
            outcome = 4;
            return -1;
        }
        if (!isOpen(scope)) {
            outcome = 3;
            return -1;
        }
        if (c < 0 || c >= text.parts.size() || !there(c)) {
            outcome = 4;
            return -1;
        }
        try {
            int o = root(c, scope, 0);
            outcome = 0;
            return o;
        } catch (Failure f) {
            outcome = 1;
            cause = f.kinds;
        } catch (Spent s) {
            outcome = 6;
        }
        return -1;
    }

    int call(int scope, int o, int method, int arg, int methods) {
        steps = 0;
        cause = new ArrayList<>();
        did.clear();
        if (!isOpen(scope)) {
            outcome = 3;
            return 0;
        }
        if (o < 0 || o >= things.size() || things.get(o).state != 1 || method < 0 || method >= methods) {
            outcome = 4;
            return 0;
        }
        listening = true;
        int answer = 0;
        try {
            answer = invoke(o, scope, method, arg, 1);
            outcome = 0;
        } catch (Failure f) {
            outcome = 1;
            cause = f.kinds;
        } catch (Spent s) {
            outcome = 6;
        }
        listening = false;
        return answer;
    }

    int close(int scope) {
        steps = 0;
        if (!isOpen(scope)) {
            outcome = 3;
            return -1;
        }
        int[] result = new int[2];
        closeScope(scope, result);
        outcome = result[1] == 0 ? 0 : 6;
        return result[1] == 0 ? result[0] : -1;
    }

    private void closeScope(int scope, int[] result) {
        for (int s = scopes.size() - 1; s > 0; s--) {
            Scope inner = scopes.get(s);
            boolean within = scope == 0 ? inner.kind == 1 : inner.kind == 2 && inner.day == scope;
            if (within && inner.open) {
                closeScope(s, result);
            }
        }
        for (int latest = latest(scope); latest >= 0; latest = latest(scope)) {
            if (!shutObject(latest, 0)) {
                result[1]++;
            }
            result[0]++;
        }
        scopes.get(scope).spoiled = new boolean[24];
        scopes.get(scope).open = scope == 0;
    }

    private int latest(int scope) {
        int found = -1;
        for (int o = 0; o < things.size(); o++) {
            Thing t = things.get(o);
            if (t.place == scope && t.state == 1 && (found < 0 || t.end > things.get(found).end)) {
                found = o;
            }
        }
        return found;
    }
}
