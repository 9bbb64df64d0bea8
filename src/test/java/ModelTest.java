import java.util.ArrayList;
import java.util.List;
import java.util.Random;

/** Random books and calls, with fixed seeds: the class and the model must tell the same. */
final class ModelTest {
    private static final String[] SCOPES = {"house", "day", "meal", "new"};
    private static final String[] PHASES = {"before", "around", "after", "failing"};

    private final Random random;
    private final int seed;
    private final WiringHouse x = new WiringHouse();
    private final List<String> run = new ArrayList<>();
    private Model model;
    private int methodCount;
    private boolean isWrong;
    private final int rarity;
    private static final int[] OUTCOMES = new int[7];
    private static final int[] KINDS = new int[21];
    private static final int[] CLOSINGS = new int[21];

    private ModelTest(int seed) {
        this.seed = seed;
        random = new Random(seed);
        rarity = 1 + 3 * random.nextInt(5);
    }

    public static void main(String[] args) {
        int first = args.length > 0 ? Integer.parseInt(args[0]) : 1;
        int last = args.length > 1 ? Integer.parseInt(args[1]) : 1500;
        int wrong = 0;
        for (int seed = first; seed <= last && wrong < 5; seed++) {
            wrong += new ModelTest(seed).isWell() ? 0 : 1;
        }
        Desk.due("runs that differ from the model", wrong, 0);
        for (int k : new int[] {1, 2, 9, 11, 12, 13, 14, 15, 16, 17, 20}) {
            Desk.due("a failure " + k + " was met", KINDS[k] > 0, true);
        }
        for (int k : new int[] {0, 1, 3, 4, 6}) {
            Desk.due("an outcome " + k + " was met", OUTCOMES[k] > 0, true);
        }
        Desk.due("a closing was SPENT", CLOSINGS[18] > 0, true);
        Desk.due("a closing failed", CLOSINGS[1] > 0, true);
        if (args.length > 2) {
            System.out.println(java.util.Arrays.toString(OUTCOMES) + java.util.Arrays.toString(KINDS) + java.util.Arrays.toString(CLOSINGS));
        }
        Desk.finish("ModelTest");
    }

    private boolean isWell() {
        int ahead = 0;
        for (int books = 0; books < 2 && !isWrong; books++) {
            Model.Text text = random.nextInt(5) == 0 ? wildText() : safeText();
            String written = write(text);
            if (written.length() > 4000) {
                continue;
            }
            run.add(written);
            same("book", Desk.book(x, written), 0);
            model = new Model(text, ahead);
            play();
            ahead = model.allSteps;
        }
        return !isWrong;
    }

    // ---- books

    private int upTo(int n) {
        return random.nextInt(n);
    }

    private boolean oneOf(int n) {
        return random.nextInt(n) == 0;
    }

    private void tellTypesAndSettings(Model.Text text) {
        int types = 1 + upTo(5);
        for (int t = 0; t < types; t++) {
            List<Integer> likes = new ArrayList<>();
            for (int k = 0; k < t && likes.size() < 6; k++) {
                if (oneOf(3)) {
                    likes.add(k);
                }
            }
            text.likes.add(likes);
        }
        int settings = 1 + upTo(3);
        for (int k = 0; k < settings; k++) {
            text.settings.add(upTo(3));
        }
    }

    private Model.Part newPart(Model.Text text) {
        Model.Part p = new Model.Part();
        for (int t = 0; t < text.likes.size() && p.types.size() < 6; t++) {
            if (oneOf(3)) {
                p.types.add(t);
            }
        }
        if (p.types.isEmpty()) {
            p.types.add(upTo(text.likes.size()));
        }
        p.scope = upTo(4);
        p.rank = oneOf(2) ? 0 : upTo(4);
        return p;
    }

    /** A book in which each need is met by the one component that is called so. */
    private Model.Text safeText() {
        Model.Text text = new Model.Text();
        tellTypesAndSettings(text);
        int count = 1 + upTo(7);
        for (int c = 0; c < count; c++) {
            Model.Part p = newPart(text);
            p.word = c;
            if (oneOf(12)) {
                p.whenSetting = upTo(text.settings.size());
                p.whenValue = upTo(3);
            }
            text.parts.add(p);
        }
        int methods = 1 + upTo(4);
        int size = 1 + upTo(4);
        for (int c = 0; c < count; c++) {
            tellSafeNeeds(text, c);
            tellEs(text, text.parts.get(c), methods, size);
        }
        tellWraps(text, methods, size);
        return text;
    }

    private void tellSafeNeeds(Model.Text text, int c) {
        Model.Part p = text.parts.get(c);
        int needs = upTo(4);
        for (int k = 0; k < needs; k++) {
            Model.Need need = new Model.Need();
            int other = upTo(text.parts.size());
            int mine = p.scope == 3 ? 2 : p.scope;
            boolean isShort = text.parts.get(other).scope != 3 && text.parts.get(other).scope > mine;
            need.late = other >= c || isShort || oneOf(3);
            Model.Part met = text.parts.get(other);
            need.type = met.types.get(upTo(met.types.size()));
            need.word = other;
            if (oneOf(12)) {
                need.all = true;
                need.late = false;
                need.word = -1;
            }
            p.needs.add(need);
        }
    }

    private Model.Text wildText() {
        Model.Text text = new Model.Text();
        tellTypesAndSettings(text);
        int count = 1 + upTo(6);
        for (int c = 0; c < count; c++) {
            Model.Part p = newPart(text);
            p.word = oneOf(2) ? -1 : upTo(3);
            if (oneOf(4)) {
                p.whenSetting = upTo(text.settings.size());
                p.whenValue = upTo(3);
            }
            int needs = upTo(4);
            for (int k = 0; k < needs; k++) {
                Model.Need need = new Model.Need();
                need.type = upTo(text.likes.size());
                need.all = oneOf(4);
                need.late = !need.all && oneOf(2);
                need.word = need.all || oneOf(2) ? -1 : upTo(3);
                p.needs.add(need);
            }
            tellEs(text, p, 2, 3);
            text.parts.add(p);
        }
        tellWraps(text, 2, 3);
        return text;
    }

    private void tellEs(Model.Text text, Model.Part p, int methods, int size) {
        int needs = p.needs.size();
        if (oneOf(2)) {
            p.opened = expression(text, size, needs, methods, false);
        }
        if (oneOf(2)) {
            p.closed = expression(text, size, needs, methods, false);
        }
        for (int m = 0; m < methods; m++) {
            if (!oneOf(4 + rarity)) {
                p.methods[m] = expression(text, size, needs, methods, false);
            }
        }
    }

    private void tellWraps(Model.Text text, int methods, int size) {
        int wraps = oneOf(3) ? 0 : upTo(8);
        int[] arounds = new int[20];
        for (int k = 0; k < wraps; k++) {
            Model.Wrap w = new Model.Wrap();
            w.type = upTo(text.likes.size());
            w.method = upTo(methods);
            w.number = upTo(4);
            w.phase = upTo(4);
            if (w.phase == 1 && ++arounds[w.method] > 2) {
                w.phase = 3;
            }
            w.e = expression(text, size, 0, methods, w.phase == 1);
            text.wraps.add(w);
        }
    }

    private Model.E expression(Model.Text text, int size, int needs, int methods, boolean isAround) {
        Model.E left = sum(text, size, needs, methods, isAround);
        if (!oneOf(6)) {
            return left;
        }
        return new Model.E(oneOf(2) ? '<' : '=', 0, 0, left, sum(text, size, needs, methods, isAround));
    }

    private Model.E sum(Model.Text text, int size, int needs, int methods, boolean isAround) {
        Model.E left = product(text, size, needs, methods, isAround);
        while (oneOf(3)) {
            left = new Model.E(oneOf(2) ? '+' : '-', 0, 0, left, product(text, size, needs, methods, isAround));
        }
        return left;
    }

    private Model.E product(Model.Text text, int size, int needs, int methods, boolean isAround) {
        Model.E left = part(text, size, needs, methods, isAround);
        while (oneOf(6)) {
            left = new Model.E('*', 0, 0, left, part(text, size, needs, methods, isAround));
        }
        return left;
    }

    private Model.E part(Model.Text text, int size, int needs, int methods, boolean isAround) {
        int choice = upTo(size > 0 ? 16 : 6);
        switch (choice) {
            case 0: return oneOf(rarity) ? new Model.E('f', 1 + upTo(9), 0) : new Model.E('n', upTo(3), 0);
            case 1: return new Model.E('s', upTo(text.settings.size()), 0);
            case 2:
            case 3: return new Model.E('a', 0, 0);
            case 4:
            case 5: return new Model.E('n', upTo(10) == 0 ? 999999999 : upTo(5), 0);
            case 6: return new Model.E('~', 0, 0, part(text, size - 1, needs, methods, isAround));
            case 7: return new Model.E('(', 0, 0, expression(text, size - 1, needs, methods, isAround));
            case 8: return new Model.E('p', 0, 0, expression(text, size - 1, needs, methods, isAround),
                expression(text, size - 1, needs, methods, isAround), expression(text, size - 1, needs, methods, isAround));
            default: break;
        }
        Model.E inner = expression(text, size - 1, needs, methods, isAround);
        if (isAround) {
            return new Model.E('g', 0, 0, inner);
        }
        return needs == 0 ? new Model.E('(', 0, 0, inner) : new Model.E('o', upTo(needs), upTo(methods), inner);
    }

    // ---- their texts; METHODS and words are numbered as they first come, so they are written by names of numbers

    private String write(Model.Text text) {
        StringBuilder out = new StringBuilder();
        for (int t = 0; t < text.likes.size(); t++) {
            out.append("type t").append(t);
            list(out, text.likes.get(t), " like ");
            out.append(";");
        }
        for (int k = 0; k < text.settings.size(); k++) {
            out.append("setting s").append(k).append(" ").append(text.settings.get(k)).append(";");
        }
        for (int c = 0; c < text.parts.size(); c++) {
            write(out, c, text.parts.get(c));
        }
        for (Model.Wrap w : text.wraps) {
            out.append("wrap t").append(w.type).append(".m").append(w.method).append(" ").append(w.number)
                .append(" ").append(PHASES[w.phase]).append(" ");
            write(out, w.e);
            out.append(";");
        }
        return out.toString();
    }

    private void list(StringBuilder out, List<Integer> types, String ahead) {
        for (int k = 0; k < types.size(); k++) {
            out.append(k == 0 ? ahead : ",").append("t").append(types.get(k));
        }
    }

    private void write(StringBuilder out, int c, Model.Part p) {
        out.append("component c").append(c);
        list(out, p.types, " is ");
        out.append(" ").append(SCOPES[p.scope]);
        if (p.word >= 0) {
            out.append(" called w").append(p.word);
        }
        if (p.rank > 0 || oneOf(4)) {
            out.append(" rank ").append(p.rank);
        }
        if (p.whenSetting >= 0) {
            out.append(" when s").append(p.whenSetting).append(" ").append(p.whenValue);
        }
        out.append("{");
        for (Model.Need need : p.needs) {
            out.append("need ").append(need.late ? "late " : "").append(need.all ? "all " : "").append("t").append(need.type);
            if (need.word >= 0) {
                out.append(" called w").append(need.word);
            }
            out.append(";");
        }
        member(out, "opened ", p.opened);
        for (int m = 0; m < 20; m++) {
            member(out, "method m" + m + " ", p.methods[m]);
        }
        member(out, "closed ", p.closed);
        out.append("}\n");
    }

    private void member(StringBuilder out, String head, Model.E e) {
        if (e != null) {
            out.append(head);
            write(out, e);
            out.append(";");
        }
    }

    private void write(StringBuilder out, Model.E e) {
        switch (e.op) {
            case 'n': out.append(e.n); break;
            case 'a': out.append("arg"); break;
            case 'f': out.append("fail ").append(e.n); break;
            case 's': out.append("setting s").append(e.n); break;
            case '~': out.append("-"); write(out, e.parts[0]); break;
            case '(': written(out, "", e); break;
            case 'p': written(out, "pick", e); break;
            case 'g': written(out, "go", e); break;
            case 'o': written(out, "of " + e.n + ".m" + e.m, e); break;
            default:
                write(out, e.parts[0]);
                out.append(e.op);
                write(out, e.parts[1]);
                break;
        }
    }

    private void written(StringBuilder out, String head, Model.E e) {
        out.append(head).append("(");
        for (int k = 0; k < e.parts.length; k++) {
            out.append(k == 0 ? "" : ",");
            write(out, e.parts[k]);
        }
        out.append(")");
    }

    // ---- runs

    private void same(String what, long got, long want) {
        if (got != want && !isWrong) {
            isWrong = true;
            System.out.println("seed " + seed + ": " + what + " answered " + got + ", the model " + want);
            for (String row : run) {
                System.out.println("    " + row);
            }
        }
    }

    private int numberOf(String word, int sort) {
        return Desk.named(x, word, sort);
    }

    private void play() {
        int[] methods = new int[20];
        methodCount = 0;
        for (int m = 0; m < 20; m++) {
            methods[m] = numberOf("m" + m, 3);
            methodCount = methods[m] >= 0 ? m + 1 : methodCount;
        }
        settle();
        int count = model.ready ? 10 + upTo(60) : 3;
        for (int i = 0; i < count && !isWrong; i++) {
            act(methods);
            compare();
        }
        compareAll();
    }

    private void settle() {
        compareComponents();
        for (int tries = 0; tries < 3 && !isWrong; tries++) {
            int k = upTo(4) - 1;
            int v = upTo(3);
            boolean due = !model.ready && k >= 0 && k < model.text.settings.size();
            if (due) {
                model.settings[k] = v;
            }
            run.add("setting " + k + " " + v);
            same("setting", x.setting(k, v) ? 1 : 0, due ? 1 : 0);
            compareComponents();
            if (tries == 2 || oneOf(2)) {
                run.add("check");
                same("check", x.check(), model.check());
                compareFaults();
            }
        }
    }

    private void compareComponents() {
        for (int c = 0; c < model.text.parts.size(); c++) {
            Model.Part p = model.text.parts.get(c);
            same("component scope", Desk.component(x, c, 0), p.scope);
            same("component rank", Desk.component(x, c, 1), p.rank);
            same("component there", Desk.component(x, c, 2), model.there(c) ? 1 : 0);
            same("component needs", Desk.component(x, c, 3), p.needs.size());
            same("component called", Desk.component(x, c, 4), p.word < 0 ? -1 : numberOf("w" + p.word, 4));
            for (int n = 0; n < p.needs.size(); n++) {
                List<Integer> found = model.candidates(c, n);
                for (int i = 0; i <= found.size(); i++) {
                    same("candidate " + c + " " + n + " " + i, x.candidate(c, n, i), i < found.size() ? found.get(i) : -1);
                }
            }
            same("candidate of no need", x.candidate(c, p.needs.size(), 0), -1);
        }
    }

    private void compareFaults() {
        same("count(11)", x.count(11), model.faults.size());
        same("READY", x.count(8), model.ready ? 1 : 0);
        for (int i = 0; i <= model.faults.size() && i <= 100; i++) {
            boolean isTold = i < model.faults.size() && i < 100;
            int[] fault = isTold ? model.faults.get(i) : new int[] {-1, -1, -1};
            for (int what = 0; what < 3; what++) {
                same("fault(" + i + ", " + what + ")", x.fault(i, what), fault[what]);
            }
            for (int k = 0; k <= fault.length - 3; k++) {
                same("cycle(" + i + ", " + k + ")", x.cycle(i, k), 3 + k < fault.length ? fault[3 + k] : -1);
            }
        }
    }

    private int anyScope() {
        return oneOf(20) ? upTo(60) - 10 : model.scopes.size() - 1 - upTo(Math.min(model.scopes.size(), 3));
    }

    private int anyMade() {
        List<Integer> made = new ArrayList<>();
        for (int o = 0; o < model.things.size(); o++) {
            if (model.things.get(o).state == 1) {
                made.add(o);
            }
        }
        return made.isEmpty() ? 0 : made.get(upTo(made.size()));
    }

    private void act(int[] methods) {
        int scope = anyScope();
        int choice = upTo(20);
        if (choice == 0) {
            run.add("day");
            same("day", x.day(), model.open(1, 0));
        } else if (choice <= 2) {
            run.add("meal " + scope);
            same("meal", x.meal(scope), model.open(2, scope));
        } else if (choice == 3 || choice == 4 && oneOf(3)) {
            run.add("close " + scope);
            same("close", x.close(scope), model.close(scope));
            OUTCOMES[model.outcome]++;
        } else if (choice <= 9) {
            int c = upTo(model.text.parts.size() + (oneOf(9) ? 1 : 0));
            run.add("get " + scope + " " + c);
            same("get", x.get(scope, c), model.get(scope, c));
            OUTCOMES[model.outcome]++;
        } else {
            int o = oneOf(15) ? upTo(320) - 10 : anyMade();
            int name = upTo(oneOf(9) ? 5 : Math.max(1, methodCount));
            int method = methods[name];
            int arg = upTo(7) - 2;
            run.add("call " + scope + " " + o + " " + method + " " + arg);
            int want = model.call(scope, o, method < 0 ? -1 : name, arg, 20);
            same("call", x.call(scope, o, method, arg), want);
            OUTCOMES[model.outcome]++;
        }
    }

    private void compare() {
        same("outcome", x.outcome(), model.outcome);
        for (int i = 0; i <= model.cause.size(); i++) {
            int kind = i < model.cause.size() ? model.cause.get(i) : 0;
            KINDS[kind]++;
            same("cause " + i, x.cause(i), kind);
        }
        same("steps", x.count(10), model.steps);
        same("all steps", x.count(9), model.allSteps);
        same("objects", x.count(6), model.things.size());
        for (int i = 0; i <= model.did.size(); i++) {
            for (int what = 0; what < 3; what++) {
                same("did " + i + " " + what, x.did(i, what), i < model.did.size() ? model.did.get(i)[what] : -1);
            }
        }
        if (oneOf(4)) {
            compareAll();
        }
    }

    private void compareAll() {
        int made = 0;
        for (int o = 0; o < model.things.size(); o++) {
            Model.Thing t = model.things.get(o);
            made += t.state == 1 ? 1 : 0;
            same("object " + o, Desk.object(x, o, 0), t.part);
            same("place of " + o, Desk.object(x, o, 1), t.place);
            same("state of " + o, Desk.object(x, o, 2), t.state);
            for (int n = 0; n <= t.joined.size(); n++) {
                List<Integer> joined = n < t.joined.size() ? t.joined.get(n) : new ArrayList<>();
                for (int i = 0; i <= joined.size(); i++) {
                    same("joined " + o + " " + n + " " + i, x.joined(o, n, i), i < joined.size() ? joined.get(i) : -1);
                }
            }
        }
        same("made", x.count(7), made);
        same("no object", Desk.object(x, model.things.size(), 0), Desk.THROWN);
        for (int i = 0; i <= model.closings.size(); i++) {
            boolean isTold = i < model.closings.size();
            same("closed " + i, x.closed(i, 0), isTold ? model.closings.get(i)[0] : -1);
            same("closed kind " + i, x.closed(i, 1), isTold ? model.closings.get(i)[1] : -1);
            if (isTold) {
                CLOSINGS[model.closings.get(i)[1]]++;
            }
        }
        compareScopes();
    }

    private void compareScopes() {
        int open = 0;
        for (int s = 0; s < model.scopes.size(); s++) {
            Model.Scope scope = model.scopes.get(s);
            open += scope.open ? 1 : 0;
            for (int c = 0; c < model.text.parts.size(); c++) {
                int place = model.place(c, s);
                int want = !scope.open ? -1 : place >= 0 && model.scopes.get(place).spoiled[c] ? 1 : 0;
                same("spoiled " + s + " " + c, x.spoiled(s, c), want);
            }
        }
        same("open scopes", x.count(5), open);
        same("spoiled without a scope", x.spoiled(model.scopes.size(), 0), -1);
    }
}
