import java.util.ArrayList;
import java.util.HashSet;
import java.util.IdentityHashMap;
import java.util.List;
import java.util.NoSuchElementException;
import java.util.Random;
import java.util.Set;

/** Long runs of drawn calls, each answer compared with that of a plain model made of objects. */
public final class ModelTest {
    public static void main(String[] args) {
        int runs = args.length > 0 ? Integer.parseInt(args[0]) : 1500;
        int from = args.length > 1 ? Integer.parseInt(args[1]) : 0;
        for (int run = from; run < from + runs; run++) {
            new Run(run).go();
        }
        Probe.finish();
    }

    // ---- the model ----

    private static final class Node {
        char kind;
        int number;
        String word;
        List<Node> kids = new ArrayList<>();
        List<String> keys = new ArrayList<>();

        Node(char kind) {
            this.kind = kind;
        }

        Node copy() {
            Node n = new Node(kind);
            n.number = number;
            n.word = word;
            n.keys.addAll(keys);
            for (Node kid : kids) {
                n.kids.add(kid.copy());
            }
            return n;
        }

        Node by(String key) {
            int at = kind == 'm' ? keys.indexOf(key) : -1;
            return at < 0 ? null : kids.get(at);
        }

        Node at(int place) {
            int p = place < 0 ? place + kids.size() : place;
            return kind != 'l' || p < 0 || p >= kids.size() ? null : kids.get(p);
        }

        void walk(List<Node> into) {
            into.add(this);
            for (Node kid : kids) {
                kid.walk(into);
            }
        }

        List<Node> all() {
            List<Node> into = new ArrayList<>();
            walk(into);
            return into;
        }

        int depth() {
            int most = 0;
            for (Node kid : kids) {
                most = Math.max(most, 1 + kid.depth());
            }
            return most;
        }

        String told() {
            return shown(false);
        }

        String same() {
            return shown(true);
        }

        private String shown(boolean sorted) {
            if (kind == 'n') {
                return "" + number;
            }
            if (kind == 'w') {
                return word;
            }
            List<String> parts = new ArrayList<>();
            for (int k = 0; k < kids.size(); k++) {
                parts.add((kind == 'm' ? keys.get(k) + ":" : "") + kids.get(k).shown(sorted));
            }
            if (sorted && kind == 'm') {
                parts.sort(null);
            }
            String inner = String.join(",", parts);
            return kind == 'm' ? "{" + inner + "}" : "[" + inner + "]";
        }

        boolean fits() {
            return all().size() <= 60 && depth() <= 7;
        }
    }

    private static final class Fault extends Exception {
        private static final long serialVersionUID = 1L;
        final int code;
        final int place;

        Fault(int code, int place) {
            this.code = code;
            this.place = place;
        }
    }

    private static final class Reader {
        final List<String> tokens = new ArrayList<>();
        final List<Integer> places = new ArrayList<>();
        int at = 0;
        int things = 0;
        int tests = 0;

        Reader(String text) {
            int i = 0;
            while (i < text.length()) {
                char c = text.charAt(i);
                int j = i + 1;
                if (c == ' ' || c == '\n') {
                    i++;
                    continue;
                }
                if (low(c)) {
                    while (j < text.length() && low(text.charAt(j))) {
                        j++;
                    }
                } else if (num(c)) {
                    while (j < text.length() && num(text.charAt(j))) {
                        j++;
                    }
                } else if (text.startsWith("..", i)) {
                    j = i + 2;
                }
                tokens.add(text.substring(i, j));
                places.add(i);
                i = j;
            }
            tokens.add("");
            places.add(text.length());
        }

        static boolean low(char c) {
            return c >= 'a' && c <= 'z';
        }

        static boolean num(char c) {
            return c >= '0' && c <= '9';
        }

        String now() {
            return tokens.get(at);
        }

        boolean isWord() {
            return !now().isEmpty() && low(now().charAt(0));
        }

        boolean isDigits() {
            return !now().isEmpty() && num(now().charAt(0));
        }

        Fault bad(int code) {
            return new Fault(code, places.get(at));
        }

        String take() {
            return tokens.get(at++);
        }

        void want(String what) throws Fault {
            if (!now().equals(what)) {
                throw bad(1);
            }
            at++;
        }

        boolean on(String what) {
            if (now().equals(what)) {
                at++;
                return true;
            }
            return false;
        }

        String word() throws Fault {
            if (!isWord()) {
                throw bad(1);
            }
            if (now().length() > 6) {
                throw bad(2);
            }
            return take();
        }

        int number() throws Fault {
            int sign = on("-") ? -1 : 1;
            if (!isDigits()) {
                throw bad(1);
            }
            if (now().length() > 3) {
                throw bad(2);
            }
            return sign * Integer.parseInt(take());
        }

        Node whole() throws Fault {
            Node n = data(0);
            want("");
            return n;
        }

        Node data(int depth) throws Fault {
            if (!isWord() && !isDigits() && !(!now().isEmpty() && "-[{".contains(now()))) {
                throw bad(1);
            }
            things++;
            if (things > 60 || depth > 7) {
                throw bad(2);
            }
            if (isWord()) {
                Node n = new Node('w');
                n.word = word();
                return n;
            }
            if (on("[")) {
                Node n = new Node('l');
                if (!on("]")) {
                    do {
                        n.kids.add(data(depth + 1));
                    } while (on(","));
                    want("]");
                }
                return n;
            }
            if (on("{")) {
                Node n = new Node('m');
                if (!on("}")) {
                    do {
                        Fault twice = bad(3);
                        String key = word();
                        if (n.keys.contains(key)) {
                            throw twice;
                        }
                        want(":");
                        Node kid = data(depth + 1);
                        n.keys.add(key);
                        n.kids.add(kid);
                    } while (on(","));
                    want("}");
                }
                return n;
            }
            Node n = new Node('n');
            n.number = number();
            return n;
        }

        List<Step> path() throws Fault {
            List<Step> steps = new ArrayList<>();
            while (!now().isEmpty()) {
                if (!List.of(".", "..", "[", "?").contains(now())) {
                    throw bad(1);
                }
                if (steps.size() == 8) {
                    throw bad(2);
                }
                steps.add(step());
            }
            return steps;
        }

        Step step() throws Fault {
            Step s = new Step();
            s.kind = take();
            if (s.kind.equals(".")) {
                if (on("*")) {
                    s.kind = "*";
                } else {
                    s.key = word();
                }
            } else if (s.kind.equals("[")) {
                if (!now().equals(":")) {
                    s.first = number();
                }
                if (s.first != null && on("]")) {
                    return s;
                }
                want(":");
                s.kind = ":";
                if (!now().equals("]")) {
                    s.second = number();
                }
                want("]");
            } else if (s.kind.equals("?")) {
                want("(");
                s.cond = cond(0);
                want(")");
            }
            return s;
        }

        Cond cond(int level) throws Fault {
            Cond c = all(level);
            while (on("|")) {
                Cond a = c;
                Cond b = all(level);
                c = n -> a.holds(n) || b.holds(n);
            }
            return c;
        }

        Cond all(int level) throws Fault {
            Cond c = atom(level);
            while (on("&")) {
                Cond a = c;
                Cond b = atom(level);
                c = n -> a.holds(n) && b.holds(n);
            }
            return c;
        }

        Cond atom(int level) throws Fault {
            if (now().equals("!") || now().equals("(")) {
                if (level >= 5) {
                    throw bad(2);
                }
                if (on("!")) {
                    Cond a = atom(level + 1);
                    return n -> !a.holds(n);
                }
                at++;
                Cond a = cond(level + 1);
                want(")");
                return a;
            }
            if (!now().equals("@")) {
                throw bad(1);
            }
            tests++;
            if (tests > 12) {
                throw bad(2);
            }
            at++;
            return little();
        }

        Cond little() throws Fault {
            List<Object> way = new ArrayList<>();
            while (now().equals(".") || now().equals("[")) {
                if (on(".")) {
                    way.add(word());
                } else {
                    at++;
                    way.add(number());
                    want("]");
                }
            }
            if (!List.of("=", "<", ">").contains(now())) {
                return n -> led(n, way) != null;
            }
            String sign = take();
            Object value = isWord() ? (Object) word() : (Object) number();
            return n -> {
                Node t = led(n, way);
                if (t == null || t.kind != (value instanceof String ? 'w' : 'n')) {
                    return false;
                }
                int c = value instanceof String ? t.word.compareTo((String) value) : t.number - (Integer) value;
                return sign.equals("=") ? c == 0 : sign.equals("<") ? c < 0 : c > 0;
            };
        }
    }

    private static Node led(Node n, List<Object> way) {
        for (Object step : way) {
            if (n != null) {
                n = step instanceof String ? n.by((String) step) : n.at((Integer) step);
            }
        }
        return n;
    }

    interface Cond {
        boolean holds(Node n);
    }

    private static final class Step {
        String kind;
        String key;
        Integer first;
        Integer second;
        Cond cond;

        List<Node> from(Node n) {
            List<Node> to = new ArrayList<>();
            switch (kind) {
                case ".":
                    to.add(n.by(key));
                    break;
                case "*":
                    to.addAll(n.kids);
                    break;
                case "..":
                    n.walk(to);
                    break;
                case "[":
                    to.add(n.at(first));
                    break;
                case ":":
                    if (n.kind == 'l') {
                        int size = n.kids.size();
                        int a = first == null ? 0 : held(first < 0 ? first + size : first, size);
                        int b = second == null ? size : held(second < 0 ? second + size : second, size);
                        to.addAll(n.kids.subList(a, Math.max(a, b)));
                    }
                    break;
                default:
                    if (cond.holds(n)) {
                        to.add(n);
                    }
            }
            to.removeIf(x -> x == null);
            return to;
        }

        static int held(int v, int size) {
            return Math.max(0, Math.min(size, v));
        }
    }

    private static final class Row {
        List<Object> way;
        Node was;
        Node is;

        Row(List<Object> way, Node was, Node is) {
            this.way = way;
            this.was = was;
            this.is = is;
        }

        String told() {
            return (was == null ? "+" : is == null ? "-" : "=") + wayText(way) + (is == null ? "" : " " + is.told());
        }
    }

    private static String wayText(List<Object> way) {
        StringBuilder b = new StringBuilder();
        for (Object o : way) {
            b.append(o instanceof String ? "." + o : "[" + o + "]");
        }
        return b.toString();
    }

    private static List<Object> longer(List<Object> way, Object step) {
        List<Object> more = new ArrayList<>(way);
        more.add(step);
        return more;
    }

    private static void rows(Node a, Node b, List<Object> way, List<Row> into) {
        if (a.same().equals(b.same()) && a.kind == b.kind) {
            return;
        }
        if (a.kind == 'm' && b.kind == 'm') {
            for (String key : a.keys) {
                if (b.by(key) == null) {
                    into.add(new Row(longer(way, key), a.by(key), null));
                } else {
                    rows(a.by(key), b.by(key), longer(way, key), into);
                }
            }
            for (String key : b.keys) {
                if (a.by(key) == null) {
                    into.add(new Row(longer(way, key), null, b.by(key)));
                }
            }
        } else if (a.kind == 'l' && b.kind == 'l') {
            for (int k = 0; k < a.kids.size() && k < b.kids.size(); k++) {
                rows(a.at(k), b.at(k), longer(way, k), into);
            }
            for (int k = a.kids.size(); k < b.kids.size(); k++) {
                into.add(new Row(longer(way, k), null, b.at(k)));
            }
            for (int k = a.kids.size() - 1; k >= b.kids.size(); k--) {
                into.add(new Row(longer(way, k), a.at(k), null));
            }
        } else {
            into.add(new Row(way, a, b));
        }
    }

    private static final class Kept {
        Node root;
        List<Node> undo = new ArrayList<>();
        List<int[]> noted = new ArrayList<>();
        int[] status = new int[3];

        Kept copy() {
            Kept k = new Kept();
            k.root = root.copy();
            for (Node n : undo) {
                k.undo.add(n.copy());
            }
            k.noted.addAll(noted);
            k.status = status.clone();
            return k;
        }
    }

    private static final class Model {
        StringBuilder tape = new StringBuilder();
        int fault = -1;
        List<List<Step>> paths = new ArrayList<>();
        Kept now = new Kept();
        Kept image = null;
        List<Row> kept = new ArrayList<>();

        Model() {
            now.root = new Node('m');
            for (int k = 0; k < 4; k++) {
                paths.add(null);
            }
        }

        List<Node> things() {
            return now.root.all();
        }

        int idOf(Node n) {
            List<Node> all = things();
            for (int k = 0; k < all.size(); k++) {
                if (all.get(k) == n) {
                    return k;
                }
            }
            return -1;
        }

        Node parent(Node n) {
            for (Node p : things()) {
                for (Node kid : p.kids) {
                    if (kid == n) {
                        return p;
                    }
                }
            }
            return null;
        }

        int place(Node n) {
            Node p = parent(n);
            for (int k = 0; p != null && k < p.kids.size(); k++) {
                if (p.kids.get(k) == n) {
                    return k;
                }
            }
            return -1;
        }

        List<Object> way(Node n) {
            Node p = parent(n);
            if (p == null) {
                return new ArrayList<>();
            }
            int place = place(n);
            return longer(way(p), p.kind == 'm' ? (Object) p.keys.get(place) : (Object) place);
        }

        String text(int n) {
            if (n < 0 || n > tape.length()) {
                throw new IllegalArgumentException();
            }
            String s = tape.substring(0, n);
            tape.setLength(0);
            return s;
        }

        int tree(int n) {
            String s = text(n);
            try {
                now.root = new Reader(s).whole();
            } catch (Fault f) {
                return faulty(f);
            }
            fault = -1;
            now.undo.clear();
            now.noted.clear();
            image = null;
            return 0;
        }

        int faulty(Fault f) {
            fault = f.place;
            now.status[0]++;
            return f.code;
        }

        int path(int slot, int n) {
            if (slot < 0 || slot > 3) {
                throw new NoSuchElementException();
            }
            String s = text(n);
            try {
                paths.set(slot, new Reader(s).path());
            } catch (Fault f) {
                return faulty(f);
            }
            fault = -1;
            return 0;
        }

        boolean there(int slot) {
            return slot >= 0 && slot < 4 && paths.get(slot) != null;
        }

        Set<Node> found(int slot, int steps) {
            Set<Node> now = java.util.Collections.newSetFromMap(new IdentityHashMap<>());
            now.add(this.now.root);
            for (int k = 0; k < steps; k++) {
                Set<Node> next = java.util.Collections.newSetFromMap(new IdentityHashMap<>());
                for (Node n : now) {
                    next.addAll(paths.get(slot).get(k).from(n));
                }
                now = next;
            }
            return now;
        }

        List<Integer> answers(int slot) {
            if (!there(slot)) {
                throw new NoSuchElementException();
            }
            List<Integer> ids = new ArrayList<>();
            for (Node n : found(slot, paths.get(slot).size())) {
                ids.add(idOf(n));
            }
            ids.sort(null);
            return ids;
        }

        int answer(int slot, int i) {
            return nth(answers(slot), i);
        }

        static int nth(List<Integer> list, int i) {
            if (i == -1) {
                return list.size();
            }
            if (i < 0 || i >= list.size()) {
                throw new NoSuchElementException();
            }
            return list.get(i);
        }

        static int nth(String text, int i) {
            if (i == -1) {
                return text.length();
            }
            if (i < 0 || i >= text.length()) {
                throw new NoSuchElementException();
            }
            return text.charAt(i);
        }

        int steps(int slot, int i) {
            if (!there(slot)) {
                throw new NoSuchElementException();
            }
            if (i == -1) {
                return paths.get(slot).size();
            }
            if (i < 0 || i >= paths.get(slot).size()) {
                throw new NoSuchElementException();
            }
            return found(slot, i + 1).size();
        }

        Node thingAt(int thing) {
            List<Node> all = things();
            if (thing < 0 || thing >= all.size()) {
                throw new NoSuchElementException();
            }
            return all.get(thing);
        }

        int fits() {
            int bits = 0;
            for (int slot = 0; slot < 4; slot++) {
                if (there(slot)) {
                    List<Integer> a = answers(slot);
                    boolean ok = true;
                    for (int[] note : now.noted) {
                        ok &= a.contains(note[0]) == (note[1] == 1);
                    }
                    bits |= ok ? 1 << slot : 0;
                }
            }
            return bits;
        }

        int look() {
            int fits = fits();
            int best = -1;
            int most = 0;
            List<List<Integer>> of = new ArrayList<>();
            for (int slot = 0; slot < 4; slot++) {
                if ((fits >> slot & 1) == 1) {
                    of.add(answers(slot));
                }
            }
            for (int thing = 0; thing < things().size(); thing++) {
                int with = 0;
                for (List<Integer> a : of) {
                    with += a.contains(thing) ? 1 : 0;
                }
                if (Math.min(with, of.size() - with) > most) {
                    most = Math.min(with, of.size() - with);
                    best = thing;
                }
            }
            return best;
        }

        List<Row> since() {
            List<Row> r = new ArrayList<>();
            rows(image.root.copy(), now.root.copy(), new ArrayList<>(), r);
            return r;
        }

        int count(int what) {
            int[] kinds = new int[4];
            int sum = 0;
            Set<String> unlike = new HashSet<>();
            for (Node n : things()) {
                kinds["nwlm".indexOf(n.kind)]++;
                sum += n.kind == 'n' ? n.number : 0;
                unlike.add(n.same());
            }
            int bits = 0;
            for (int slot = 0; slot < 4; slot++) {
                bits |= there(slot) ? 1 << slot : 0;
            }
            if (what >= 1 && what <= 4) {
                return kinds[what - 1];
            }
            if (what >= 13 && what <= 15) {
                return now.status[what - 13];
            }
            switch (what) {
                case 0: return things().size();
                case 5: return now.root.depth();
                case 6: return bits;
                case 7: return unlike.size();
                case 8: return kept.size();
                case 9: return image == null ? -1 : since().size();
                case 10: return now.undo.size();
                case 11: return now.noted.size();
                case 12: return tape.length();
                case 16: return sum;
                case 17: return fits();
                default: throw new NoSuchElementException();
            }
        }

        int thing(int thing, int what) {
            Node n = thingAt(thing);
            Node p = parent(n);
            switch (what) {
                case 0: return "nwlm".indexOf(n.kind);
                case 1: return p == null ? -1 : idOf(p);
                case 2: return place(n);
                case 3: return way(n).size();
                case 4: return n.kids.size();
                case 5: return thing + n.all().size() - 1;
                case 6: return n.kind == 'n' ? n.number : -1000;
                case 7: return p == null || p.kind != 'm' ? 0 : p.keys.get(place(n)).length();
                case 8:
                    int twins = -1;
                    for (Node o : things()) {
                        twins += o.same().equals(n.same()) ? 1 : 0;
                    }
                    return twins;
                case 9:
                    int by = 0;
                    for (int slot = 0; slot < 4; slot++) {
                        by += there(slot) && answers(slot).contains(thing) ? 1 : 0;
                    }
                    return by;
                default: throw new NoSuchElementException();
            }
        }

        int within(int thing, int i) {
            Node n = thingAt(thing);
            if (i < 0 || i >= n.kids.size()) {
                throw new NoSuchElementException();
            }
            return idOf(n.kids.get(i));
        }

        int told(int thing, boolean own, int i) {
            Node n = thingAt(thing);
            return nth(own ? wayText(way(n)) : n.told(), i);
        }

        int alike(int thing, int other) {
            return thingAt(thing).same().equals(thingAt(other).same()) ? 1 : 0;
        }

        int row(int i, int what) {
            if (i < 0 || i >= kept.size() || what < 0 || what > 3) {
                throw new NoSuchElementException();
            }
            Row r = kept.get(i);
            switch (what) {
                case 0: return r.was == null ? 1 : r.is == null ? 2 : 3;
                case 1: return r.way.size();
                case 2: return r.was == null ? 0 : r.was.all().size();
                default: return r.is == null ? 0 : r.is.all().size();
            }
        }

        int rowText(int i, int k) {
            if (i < 0 || i >= kept.size()) {
                throw new NoSuchElementException();
            }
            return nth(kept.get(i).told(), k);
        }

        interface Rebuilt {
            Node of(Node old, Node built, boolean isAnswer);
        }

        /** Builds anew from the leaves on; null is left out. */
        Node rebuild(Node n, Set<Node> answers, Rebuilt how) {
            Node built = new Node(n.kind);
            built.number = n.number;
            built.word = n.word;
            for (int k = 0; k < n.kids.size(); k++) {
                Node kid = rebuild(n.kids.get(k), answers, how);
                if (kid != null) {
                    built.kids.add(kid);
                    if (n.kind == 'm') {
                        built.keys.add(n.keys.get(k));
                    }
                }
            }
            return how.of(n, built, answers.contains(n));
        }

        int act(Node next, int answer) {
            if (answer < 1 || next == null || !next.fits()) {
                return -1;
            }
            now.undo.add(now.root);
            if (now.undo.size() > 40) {
                now.undo.remove(0);
            }
            now.root = next;
            return answer;
        }

        int refused(int answer) {
            now.status[1] += answer == -1 ? 1 : 0;
            return answer;
        }

        int withText(int slot, int key, int n, int how) {
            String s = text(n);
            if (!there(slot) || how == 2 && wordOf(key) == null) {
                return refused(-1);
            }
            Node data;
            try {
                data = new Reader(s).whole();
                fault = -1;
            } catch (Fault f) {
                faulty(f);
                return -2;
            }
            Set<Node> a = found(slot, paths.get(slot).size());
            if (how == 0) {
                return refused(putAll(a, data));
            }
            char kind = how == 1 ? 'l' : 'm';
            int matching = 0;
            for (Node m : a) {
                matching += m.kind == kind ? 1 : 0;
            }
            Node next = rebuild(now.root, a, (old, built, is) -> {
                if (is && old.kind == kind && kind == 'l') {
                    built.kids.add(data.copy());
                } else if (is && old.kind == kind) {
                    int at = built.keys.indexOf(wordOf(key));
                    if (at >= 0) {
                        built.kids.set(at, data.copy());
                    } else {
                        built.keys.add(wordOf(key));
                        built.kids.add(data.copy());
                    }
                }
                return built;
            });
            return refused(act(next, matching));
        }

        int putAll(Set<Node> a, Node data) {
            int outer = 0;
            for (Node m : a) {
                boolean covered = false;
                for (Node p = parent(m); p != null; p = parent(p)) {
                    covered |= a.contains(p);
                }
                outer += covered ? 0 : 1;
            }
            return act(rebuild(now.root, a, (old, built, is) -> is ? data.copy() : built), outer);
        }

        int add(int slot, int v) {
            if (!there(slot) || v < -999 || v > 999) {
                return -1;
            }
            Set<Node> a = found(slot, paths.get(slot).size());
            int numbers = 0;
            for (Node m : a) {
                numbers += m.kind == 'n' ? 1 : 0;
            }
            return act(rebuild(now.root, a, (old, built, is) -> {
                built.number = is && old.kind == 'n' ? Math.max(-999, Math.min(999, old.number + v)) : old.number;
                return built;
            }), numbers);
        }

        int change(int slot, int what) {
            if (!there(slot) || what < 0 || what > 2) {
                return -1;
            }
            Set<Node> a = found(slot, paths.get(slot).size());
            String kinds = what == 0 ? "lm" : what == 1 ? "l" : "nwlm";
            int matching = 0;
            for (Node m : a) {
                matching += kinds.indexOf(m.kind) >= 0 ? 1 : 0;
            }
            if (what == 2 && a.contains(now.root)) {
                return -1;
            }
            return act(rebuild(now.root, a, (old, built, is) -> {
                if (is && what == 2) {
                    return null;
                }
                if (is && what == 0) {
                    java.util.Collections.reverse(built.kids);
                    java.util.Collections.reverse(built.keys);
                }
                if (is && what == 1 && old.kind == 'l') {
                    built.kids.sort((x, y) -> {
                        int c = "nwlm".indexOf(x.kind) - "nwlm".indexOf(y.kind);
                        return c != 0 ? c : x.kind == 'n' ? x.number - y.number : x.kind == 'w' ? x.word.compareTo(y.word) : 0;
                    });
                }
                return built;
            }), matching);
        }

        int move(int thing, int to, int key) {
            List<Node> all = things();
            if (thing < 1 || thing >= all.size() || to < 0 || to >= all.size()) {
                return -1;
            }
            Node what = all.get(thing);
            Node target = all.get(to);
            if (what.all().contains(target)) {
                return -1;
            }
            String word = wordOf(key);
            boolean can = target.kind == 'l' ? key == 0 : target.kind == 'm' && word != null && target.by(word) == null;
            if (!can) {
                return -1;
            }
            Node copy = what.copy();
            Set<Node> both = java.util.Collections.newSetFromMap(new IdentityHashMap<>());
            both.add(what);
            both.add(target);
            Node next = rebuild(now.root, both, (old, built, is) -> {
                if (is && old == target) {
                    built.kids.add(copy);
                    if (built.kind == 'm') {
                        built.keys.add(word);
                    }
                }
                return old == what ? null : built;
            });
            int done = act(next, 1);
            return done == -1 ? -1 : idOf(copy);
        }

        int keep() {
            if (image == null) {
                return -1;
            }
            kept = since();
            return kept.size();
        }

        int apply(boolean turned) {
            Node next = now.root.copy();
            for (int k = 0; k < kept.size(); k++) {
                Row r = kept.get(turned ? kept.size() - 1 - k : k);
                Node was = turned ? r.is : r.was;
                Node is = turned ? r.was : r.is;
                if (r.way.isEmpty()) {
                    if (was == null || is == null || !was.same().equals(next.same())) {
                        return refused(-1);
                    }
                    next = is.copy();
                } else if (!laid(next, r.way, was, is)) {
                    return refused(-1);
                }
            }
            return refused(act(next, kept.size()));
        }

        static boolean laid(Node root, List<Object> way, Node was, Node is) {
            Node holder = led(root, way.subList(0, way.size() - 1));
            Object last = way.get(way.size() - 1);
            if (holder == null || holder.kind != (last instanceof String ? 'm' : 'l')) {
                return false;
            }
            int at = last instanceof String ? holder.keys.indexOf(last)
                    : (Integer) last < holder.kids.size() ? (Integer) last : -1;
            if (was == null) {
                if (at >= 0 || last instanceof Integer && holder.kids.size() != (Integer) last) {
                    return false;
                }
                holder.kids.add(is.copy());
                if (last instanceof String) {
                    holder.keys.add((String) last);
                }
                return true;
            }
            if (at < 0 || !holder.kids.get(at).same().equals(was.same())) {
                return false;
            }
            if (is != null) {
                holder.kids.set(at, is.copy());
                return true;
            }
            if (last instanceof Integer && at != holder.kids.size() - 1) {
                return false;
            }
            holder.kids.remove(at);
            if (last instanceof String) {
                holder.keys.remove(at);
            }
            return true;
        }

        int undo() {
            if (now.undo.isEmpty()) {
                return -1;
            }
            now.root = now.undo.remove(now.undo.size() - 1);
            return now.undo.size();
        }

        int note(int thing, boolean is) {
            if (thing < 0 || thing >= things().size() || now.noted.size() == 8) {
                now.status[2]++;
                return -1;
            }
            now.noted.add(new int[] {thing, is ? 1 : 0});
            return now.noted.size();
        }

        int years(int seed, int n, int what) {
            if (what < 0 || what > 2) {
                throw new NoSuchElementException();
            }
            if (n < 0 || n > 20) {
                throw new IllegalArgumentException();
            }
            int[] s = {seed};
            int done = 0;
            for (int k = 0; k < n; k++) {
                int act = draw(s, 5);
                int a = act == 4 ? draw(s, things().size()) : draw(s, 4);
                int answer = act == 0 ? add(a, draw(s, 21) - 10)
                        : act == 4 ? move(a, draw(s, things().size()), 0) : change(a, act - 1);
                done += answer == -1 ? 0 : 1;
            }
            return what == 2 ? done : count(what == 0 ? 0 : 16);
        }

        static int draw(int[] s, int n) {
            s[0] = (int) ((long) s[0] * 1103515245L + 12345L);
            return (int) ((s[0] & 0xffffffffL) / 65536 % 32768 % n);
        }
    }

    private static String wordOf(int key) {
        if (key < 1 || key >= 1 << 30) {
            return null;
        }
        String s = "";
        for (int k = key; k > 0; k /= 32) {
            if (k % 32 < 1 || k % 32 > 26) {
                return null;
            }
            s = (char) ('a' + k % 32 - 1) + s;
        }
        return s;
    }

    // ---- drawn runs ----

    private static final class Run {
        final int number;
        final Random r;
        final NestQuery x = new NestQuery();
        final Model m = new Model();
        int calls = 0;
        String last = "";

        Run(int number) {
            this.number = number;
            this.r = new Random(number * 7919L + 5);
        }

        void go() {
            both("tree", feed(data(r.nextInt(5) + 1)), n -> x.tree(n), n -> m.tree(n));
            int quiet = r.nextInt(4);
            for (int k = 0; k < 90; k++) {
                if (r.nextInt(8) < quiet) {
                    ask();
                } else {
                    act();
                }
                whole();
            }
        }

        interface OfN {
            int of(int n);
        }

        void both(String name, int n, OfN real, OfN model) {
            same(name + " " + n + " " + last, () -> real.of(n), () -> model.of(n));
            last = "";
        }

        void same(String what, Probe.Call real, Probe.Call model) {
            calls++;
            String want = Probe.told(model);
            Probe.due("run " + number + " call " + calls + ": " + what, Probe.told(real), want);
        }

        void whole() {
            StringBuilder b = new StringBuilder();
            int n = x.told(0, false, -1);
            for (int i = 0; i < n; i++) {
                b.append((char) x.told(0, false, i));
            }
            Probe.due("run " + number + " tree behind call " + calls, b, m.now.root.told());
            for (int what = 8; what < 16; what++) {
                int w = what;
                Probe.due("run " + number + " count " + w + " behind call " + calls, x.count(w), m.count(w));
            }
            Probe.due("run " + number + " fault behind call " + calls, x.fault(), m.fault);
        }

        int feed(String text) {
            last = text;
            for (int at = 0; at < text.length(); at += 20) {
                StringBuilder chunk = new StringBuilder(text.substring(at, Math.min(text.length(), at + 20)));
                while (chunk.length() < 20) {
                    chunk.append(' ');
                }
                int[] five = new int[5];
                for (int k = 0; k < 20; k++) {
                    five[k / 4] = five[k / 4] << 8 | chunk.charAt(k);
                }
                same("feed", () -> x.feed(five[0], five[1], five[2], five[3], five[4]), () -> {
                    if (m.tape.length() + 20 > 400) {
                        return -1;
                    }
                    m.tape.append(chunk);
                    return m.tape.length();
                });
            }
            return text.length();
        }

        /** Mostly what may be, now and then what may not. */
        int some(int n) {
            return r.nextInt(12) == 0 ? r.nextInt(9) - 4 + (r.nextBoolean() ? n : 0) : r.nextInt(Math.max(1, n));
        }

        int slot() {
            return r.nextInt(30) == 0 ? r.nextInt(7) - 2 : r.nextInt(4);
        }

        int things() {
            return m.things().size();
        }

        void ask() {
            int a = some(things());
            int b = some(things());
            int s = slot();
            boolean own = r.nextBoolean();
            switch (r.nextInt(10)) {
                case 0: {
                    int w = r.nextInt(20) - 1;
                    same("count " + w, () -> x.count(w), () -> m.count(w));
                    break;
                }
                case 1: {
                    for (int what = -1; what < 11; what++) {
                        int w = what;
                        same("thing " + a + " " + w, () -> x.thing(a, w), () -> m.thing(a, w));
                    }
                    break;
                }
                case 2:
                    for (int k = -1; k < 5; k++) {
                        int i = k;
                        same("within " + a + " " + i, () -> x.within(a, i), () -> m.within(a, i));
                    }
                    break;
                case 3:
                    for (int k = -2; k < 30; k++) {
                        int i = k;
                        same("told " + a + " " + own + " " + i, () -> x.told(a, own, i), () -> m.told(a, own, i));
                    }
                    break;
                case 4:
                    same("alike " + a + " " + b, () -> x.alike(a, b), () -> m.alike(a, b));
                    break;
                case 5:
                    for (int k = -2; k < 6; k++) {
                        int i = k;
                        same("answer " + s + " " + i, () -> x.answer(s, i), () -> m.answer(s, i));
                        same("steps " + s + " " + i, () -> x.steps(s, i), () -> m.steps(s, i));
                    }
                    break;
                case 6: {
                    int i = some(m.kept.size());
                    for (int k = -1; k < 5; k++) {
                        int w = k;
                        same("row " + i + " " + w, () -> x.row(i, w), () -> m.row(i, w));
                    }
                    for (int k = -2; k < 40; k++) {
                        int w = k;
                        same("rowText " + i + " " + w, () -> x.rowText(i, w), () -> m.rowText(i, w));
                    }
                    break;
                }
                case 7:
                    same("look", () -> x.look(), () -> m.look());
                    same("fits", () -> x.count(17), () -> m.count(17));
                    break;
                default:
                    same("unlike", () -> x.count(7), () -> m.count(7));
                    same("sum", () -> x.count(16), () -> m.count(16));
            }
        }

        void act() {
            int s = slot();
            int a = some(things());
            boolean is = r.nextBoolean();
            switch (r.nextInt(24)) {
                case 0:
                    if (r.nextInt(3) == 0) {
                        both("tree", feed(maybeBroken(data(r.nextInt(6)))), n -> x.tree(n), n -> m.tree(n));
                    }
                    break;
                case 1: case 2: case 3: case 4:
                    both("path " + s, feed(maybeBroken(path())), n -> x.path(s, n), n -> m.path(s, n));
                    break;
                case 5: case 6:
                    both("put " + s, feed(maybeBroken(data(r.nextInt(3)))), n -> x.put(s, n), n -> m.withText(s, 0, n, 0));
                    break;
                case 7: case 8:
                    both("append " + s, feed(maybeBroken(data(r.nextInt(3)))), n -> x.append(s, n), n -> m.withText(s, 0, n, 1));
                    break;
                case 9: case 10: {
                    int key = r.nextInt(8) == 0 ? r.nextInt() >>> r.nextInt(32) : Probe.word(key());
                    both("key " + s + " " + key, feed(maybeBroken(data(r.nextInt(3)))), n -> x.key(s, key, n), n -> m.withText(s, key, n, 2));
                    break;
                }
                case 11: case 12: {
                    int v = r.nextInt(10) == 0 ? r.nextInt(2400) - 1200 : r.nextInt(21) - 10;
                    same("add " + s + " " + v, () -> x.add(s, v), () -> m.refused(m.add(s, v)));
                    break;
                }
                case 13: case 14: {
                    int w = r.nextInt(12) == 0 ? r.nextInt(7) - 2 : r.nextInt(3);
                    same("change " + s + " " + w, () -> x.change(s, w), () -> m.refused(m.change(s, w)));
                    break;
                }
                case 15: case 16: case 17: {
                    int to = some(things());
                    int key = r.nextInt(3) == 0 ? Probe.word(key()) : r.nextInt(20) == 0 ? r.nextInt() : 0;
                    same("move " + a + " " + to + " " + key, () -> x.move(a, to, key), () -> m.refused(m.move(a, to, key)));
                    break;
                }
                case 18:
                    same("keep", () -> x.keep(), () -> m.keep());
                    break;
                case 19:
                    same("apply " + is, () -> x.apply(is), () -> m.apply(is));
                    break;
                case 20:
                    same("undo", () -> x.undo(), () -> m.undo());
                    break;
                case 21:
                    if (r.nextInt(10) == 0) {
                        x.forget();
                        m.now.noted.clear();
                    }
                    same("note " + a + " " + is, () -> x.note(a, is), () -> m.note(a, is));
                    break;
                case 22: {
                    int seed = r.nextInt();
                    int n = r.nextInt(4) == 0 ? r.nextInt(24) - 2 : r.nextInt(4);
                    int w = r.nextInt(12) == 0 ? r.nextInt(7) - 2 : r.nextInt(3);
                    same("years " + seed + " " + n + " " + w, () -> x.years(seed, n, w), () -> m.years(seed, n, w));
                    break;
                }
                default:
                    if (r.nextBoolean()) {
                        x.image();
                        m.image = m.now.copy();
                    } else {
                        same("restore", () -> x.restore() ? 1 : 0, () -> {
                            if (m.image != null) {
                                m.now = m.image.copy();
                            }
                            return m.image != null ? 1 : 0;
                        });
                    }
            }
        }

        String key() {
            String[] keys = {"a", "b", "c", "ab", "abcdef", "d", "e"};
            return keys[r.nextInt(keys.length)];
        }

        String word() {
            String[] words = {"x", "xy", "y", "zzzzzz", "a", "b"};
            return words[r.nextInt(words.length)];
        }

        String blank() {
            return r.nextInt(15) == 0 ? r.nextBoolean() ? " " : "\n" : "";
        }

        String data(int depth) {
            int kind = depth <= 0 ? r.nextInt(2) : r.nextInt(6);
            if (kind == 0) {
                return (r.nextInt(4) == 0 ? "-" : "") + blank() + (r.nextInt(5) == 0 ? r.nextInt(1000) : r.nextInt(10));
            }
            if (kind == 1) {
                return word();
            }
            StringBuilder b = new StringBuilder(kind < 4 ? "[" : "{");
            int n = r.nextInt(5);
            List<String> used = new ArrayList<>();
            for (int k = 0; k < n; k++) {
                String key = key();
                if (kind >= 4 && used.contains(key) && r.nextInt(25) != 0) {
                    continue;
                }
                String one = blank() + (kind >= 4 ? key + ":" : "") + data(depth - 1);
                if (b.length() + one.length() < 180) {
                    b.append(b.length() > 1 ? "," : "").append(one);
                    used.add(key);
                }
            }
            return b.append(kind < 4 ? "]" : "}").append(blank()).toString();
        }

        String path() {
            StringBuilder b = new StringBuilder();
            int n = r.nextInt(12) == 0 ? r.nextInt(10) : r.nextInt(4);
            for (int k = 0; k < n; k++) {
                b.append(blank());
                int kind = r.nextInt(8);
                if (kind == 0) {
                    b.append('.').append(key());
                } else if (kind == 1) {
                    b.append(".*");
                } else if (kind < 4) {
                    b.append("..");
                } else if (kind == 4) {
                    b.append('[').append(r.nextInt(6) - 3).append(']');
                } else if (kind == 5) {
                    b.append('[').append(r.nextBoolean() ? "" : r.nextInt(8) - 4).append(blank()).append(':')
                            .append(r.nextBoolean() ? "" : r.nextInt(8) - 4).append(']');
                } else {
                    b.append("?(").append(cond(3)).append(')');
                }
            }
            return b.length() > 300 ? b.substring(0, 300) : b.toString();
        }

        String cond(int depth) {
            int kind = r.nextInt(depth > 0 ? 8 : 4);
            if (kind == 4) {
                return cond(depth - 1) + "|" + cond(depth - 1);
            }
            if (kind == 5) {
                return cond(depth - 1) + blank() + "&" + cond(depth - 1);
            }
            if (kind == 6) {
                return "!" + cond(depth - 1);
            }
            if (kind == 7) {
                return "(" + cond(depth - 1) + ")";
            }
            StringBuilder b = new StringBuilder("@");
            for (int k = r.nextInt(3); k > 0; k--) {
                b.append(r.nextBoolean() ? "." + key() : "[" + (r.nextInt(5) - 2) + "]");
            }
            if (r.nextInt(3) > 0) {
                b.append("=<>".charAt(r.nextInt(3))).append(r.nextBoolean() ? word() : "" + (r.nextInt(14) - 4));
            }
            return b.toString();
        }

        String maybeBroken(String text) {
            if (r.nextInt(9) != 0 || text.isEmpty()) {
                return text;
            }
            StringBuilder b = new StringBuilder(text);
            String signs = "[]{}(),:.*?@!&|=<>-019aazz A~ ";
            for (int k = r.nextInt(3); k >= 0; k--) {
                int at = r.nextInt(b.length());
                int how = r.nextInt(3);
                if (how == 0) {
                    b.insert(at, signs.charAt(r.nextInt(signs.length())));
                } else if (how == 1) {
                    b.setCharAt(at, signs.charAt(r.nextInt(signs.length())));
                } else if (b.length() > 1) {
                    b.deleteCharAt(at);
                }
            }
            return b.length() > 400 ? b.substring(0, 400) : b.toString();
        }
    }
}
