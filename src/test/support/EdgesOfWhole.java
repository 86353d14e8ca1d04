import java.lang.reflect.Method;
import java.util.ArrayDeque;
import java.util.Deque;

/** The sentences about the whole: "What it is", what stands ahead of the terms, the constants, "Not promised". */
final class EdgesOfWhole {
    private static final String[] TREES = {"{}", "[]", "0", "-999", "w", "[1,[2,{k:w}],3]", "{a:1,b:[2,x,{a:3}],c:-5}",
        "[3,{b:1,a:2},x,[1],-4,a,3]", "{c:-5,b:[2,x],a:{}}", "[[[[[[[1]]]]]]]", "{abcdef:{a:{b:{c:{d:{e:{f:zzzzzz}}}}}}}",
        "{a:{x:1,y:2},b:{y:2,x:1},c:[{},[],{}]}", "[a,ab,b,[a],{a:b}]", "[1,1,1]", "[1,1]", "[[1],[1],{a:[1]}]", Probe.ones(59),
        Probe.ones(58).replace("1]", "2]")};
    private static final String[] PATHS = {"", "..", ".*", "...*", "....", "..[0]", "..[1:]..", "..?(@.a|@[0])", "...a..",
        "..?(!@>1)", ".*.*", "..[-1]", "....?(@=1).."};

    private EdgesOfWhole() {
    }

    static void run() {
        tellsData();
        compilesPaths();
        answersInOrder();
        livesFor512Calls();
        doesAllOrNothing();
        tellsEachThing();
        laysPatches();
        findsLikeThings();
        looksNext();
        playsYears();
        undoesActs();
        hasNone();
        keepsObjectsApart();
        holdsNoThreads();
        changesNothingByQuestions();
    }

    private static void tellsData() {
        Sentence s = new Sentence("What it is", "Nested data and paths through them: numbers, words, lists and maps told as a text;");
        for (String tree : TREES) {
            s.data(tree);
            s.data(" " + tree.replaceAll("[\\[\\]{}:,]", "\n$0 ") + " ", tree);
        }
    }

    private static void compilesPaths() {
        Sentence s = new Sentence("What it is", "paths compiled from texts, by keys, places, stretches, all within, filters with conditions of their own;");
        String data = "{a:1,b:[2,x,{a:3}],c:-5}";
        s.answers(data, ".b", "2");
        s.answers(data, ".b[1]", "4");
        s.answers(data, ".b[1:]", "4,5");
        s.answers(data, "..", "0,1,2,3,4,5,6,7");
        s.answers(data, "..?(@>1|@[1]=x&!(@<0))", "2,3,6");
        s.answers(data, "..?(@.a=3).a?(@>2)", "6");
        s.answers(data, ".b.*?(@.a).*", "6");
    }

    private static void answersInOrder() {
        Sentence s = new Sentence("What it is", "answers in their order, each once, step by step.");
        for (String tree : TREES) {
            for (String path : PATHS) {
                NestQuery x = Probe.with(tree, path);
                int steps = x.steps(0, NestQuery.NONE);
                int before = -1;
                for (int i = 0; i < x.answer(0, NestQuery.NONE); i++) {
                    s.due("rising, answer " + i + " of " + path + " in " + tree, x.answer(0, i) > before, true);
                    before = x.answer(0, i);
                }
                int last = steps == 0 ? 1 : x.steps(0, steps - 1);
                s.due("THINGS behind the last STEP of " + path, x.answer(0, NestQuery.NONE), last);
            }
        }
    }

    private static void livesFor512Calls() {
        Sentence s = new Sentence("What it is", "An object is used for at most 512 calls after it has been made; what later calls answer is free.");
        NestQuery x = Probe.with("[0]", "[0]");
        for (int call = 5; call <= 511; call++) {
            s.due("call " + call, x.add(0, 1), 1);
        }
        s.due("call 512", x.thing(1, 6), 507);
        NestQuery y = Probe.with("[0]", "[0]");
        for (int call = 5; call <= 511; call++) {
            s.due("call " + call, y.add(1, 1), -1);
        }
        s.due("call 512", y.count(14), 507);
        NestQuery z = new NestQuery();
        for (int call = 2; call <= 512; call += 2) {
            s.due("a text, call " + call, Probe.tree(z, call % 4 == 0 ? "[1]" : "]"), call % 4 == 0 ? 0 : 1);
        }
    }

    private static void doesAllOrNothing() {
        Sentence s = new Sentence("Terms", "What is put, added, appended, keyed, turned, sorted, dropped at all answers, one that is moved elsewhere, only if all of it can be;");
        NestQuery x = Probe.with("[[],[[[[[[3,{},[],2]]]]]]]", "..", "[0]", ".*");
        s.refusedText(x, "APPENDED where one is too deep", () -> Probe.append(x, 0, "1"), -1, -1);
        s.refusedText(x, "KEYED where one is too deep", () -> Probe.key(x, 0, "a", "1"), -1, -1);
        s.refused(x, "DROPPED where one is ROOT", () -> x.change(0, 2), 1);
        s.refused(x, "MOVED where it is too deep", () -> x.move(1, 10, 0), 1);
        s.refused(x, "MOVED where some of it is too deep", () -> x.move(2, 1, 0), 1);
        s.didOnce(x, "APPENDED to one", () -> Probe.append(x, 1, "1"), 1, "[[1],[[[[[[3,{},[],2]]]]]]]");
        s.didOnce(x, "ADDED", () -> x.add(0, 5), 2, "[[],[[[[[[8,{},[],7]]]]]]]");
        s.didOnce(x, "TURNED", () -> x.change(0, 0), 10, "[[[[[[[2,[],{},3]]]]]],[]]");
        s.didOnce(x, "SORTED", () -> x.change(0, 1), 9, "[[],[[[[[[2,3,[],{}]]]]]]]");
        s.didOnce(x, "DROPPED", () -> x.change(2, 2), 2, "[]");
        s.didOnce(x, "MOVED", () -> x.move(3, 1, 0), 2, "[[[[[[[3,{},[],2]]]]]],[]]");
        NestQuery y = Probe.with("{a:{},b:{a:{a:{a:{a:{a:{}}}}}}}", "..", "..?(!@.a)");
        s.refusedText(y, "KEYED where one is too deep", () -> Probe.key(y, 1, "b", "[[]]"), -1, -1);
        s.didOnce(y, "KEYED", () -> Probe.key(y, 1, "b", "[]"), 2, "{a:{b:[]},b:{a:{a:{a:{a:{a:{b:[]}}}}}}}");
        NestQuery z = Probe.with("[1,[[[[[1]]]]]]", "..?(@=1)", "[0]");
        s.refusedText(z, "PUT where one is too deep", () -> Probe.put(z, 0, "[[1]]"), -1, -1);
        s.didOnce(z, "PUT", () -> Probe.put(z, 0, "[2]"), 2, "[[2],[[[[[[2]]]]]]]");
        s.didOnce(z, "PUT at the other one alone", () -> Probe.put(z, 1, "[[1]]"), 1, "[[[1]],[[[[[1]]]]]]");
    }

    private static void tellsEachThing() {
        Sentence s = new Sentence("Terms", "each thing told as a text and by its own path.");
        for (String tree : TREES) {
            NestQuery x = Probe.with(tree);
            for (int thing = 0; thing < x.count(0); thing++) {
                String own = Probe.text(x, thing, true);
                s.due("the path " + own, Probe.path(x, 3, own), 0);
                s.due("leads in " + tree + " to", Probe.answers(x, 3), thing);
                s.due("STEPS of " + own, x.steps(3, NestQuery.NONE), x.thing(thing, 3));
                String told = Probe.text(x, thing, false);
                NestQuery y = Probe.with(told);
                s.due("THINGS of " + told, y.count(0), x.thing(thing, 5) - thing + 1);
                s.due("told again", Probe.all(y), told);
            }
        }
    }

    private static void laysPatches() {
        Sentence s = new Sentence("Terms", "What has changed since an image as rows of a patch, which is kept, laid on what fits, and its turn;");
        for (String from : TREES) {
            for (String to : TREES) {
                NestQuery x = Probe.patch(from, to);
                String what = " from " + from + " to " + to;
                int rows = x.count(8) == 0 ? NestQuery.NONE : x.count(8);
                s.due("does not fit what has it" + what, x.apply(false), -1);
                s.due("restored" + what, x.restore(), true);
                s.due("its turn does not fit what hasn't got it" + what, x.apply(true), -1);
                s.due("laid on" + what, x.apply(false), rows);
                s.due("LIKE the second one" + what, rowsTo(x, to), 0);
                s.due("its turn laid on" + what, x.apply(true), rows);
                s.due("LIKE the first one" + what, rowsTo(x, from), 0);
            }
        }
    }

    /** How many rows lead from the tree to another one; the tree is as before then. */
    private static int rowsTo(NestQuery x, String other) {
        x.image();
        Probe.put(x, 0, other);
        int rows = x.count(9);
        x.restore();
        return rows;
    }

    private static void findsLikeThings() {
        Sentence s = new Sentence("Terms", "which things are alike;");
        for (String tree : TREES) {
            NestQuery x = Probe.with(tree);
            int firsts = 0;
            for (int thing = 0; thing < x.count(0); thing++) {
                int twins = 0;
                boolean first = true;
                for (int other = 0; other < x.count(0); other++) {
                    int like = x.alike(thing, other);
                    s.due("both ways, " + thing + " and " + other + " of " + tree, x.alike(other, thing), like);
                    twins += other == thing ? 0 : like;
                    first &= other >= thing || like == 0;
                }
                s.due("itself", x.alike(thing, thing), 1);
                s.due("TWINS of " + thing + " of " + tree, x.thing(thing, 8), twins);
                firsts += first ? 1 : 0;
            }
            s.due("UNLIKE of " + tree, x.count(7), firsts);
        }
    }

    private static void looksNext() {
        Sentence s = new Sentence("Terms", "which paths fit what was noted, where to look next;");
        for (String tree : TREES) {
            for (int secret = 0; secret < 4; secret++) {
                NestQuery x = Probe.with(tree, "..", "..?(@.a|@[0])", ".*", "..[0]..");
                int fits = 15;
                for (int thing = x.look(); thing != NestQuery.NONE; thing = x.look()) {
                    boolean is = ("," + Probe.answers(x, secret) + ",").contains("," + thing + ",");
                    s.due("noted of " + tree, x.note(thing, is), x.count(11));
                    s.due("fewer fit in " + tree, Integer.bitCount(x.count(17)) < Integer.bitCount(fits), true);
                    fits = x.count(17);
                    s.due("the secret path fits in " + tree, fits >> secret & 1, 1);
                }
                for (int slot = 0; slot < 4; slot++) {
                    boolean same = Probe.answers(x, slot).equals(Probe.answers(x, secret));
                    s.due("all that fit have the same answers in " + tree, fits >> slot & 1, same ? 1 : 0);
                }
            }
        }
    }

    private static void playsYears() {
        Sentence s = new Sentence("Terms", "years by a seed;");
        for (String tree : TREES) {
            for (int seed = -40; seed < 40; seed++) {
                NestQuery x = Probe.with(tree, "..", "..?(@[1])", ".*.*", "..?(@>2)");
                NestQuery y = Probe.with(tree, "..", "..?(@[1])", ".*.*", "..?(@>2)");
                NestQuery z = Probe.with(tree, "..", "..?(@[1])", ".*.*", "..?(@>2)");
                int n = Math.abs(seed) % 21;
                int done = x.years(seed, n, 2);
                s.due("ACTS of " + n + " years by " + seed + " in " + tree, x.count(10), done);
                s.due("THINGS", y.years(seed, n, 0), x.count(0));
                s.due("NUMBERS together", z.years(seed, n, 1), x.count(16));
                s.due("the same by the same seed", Probe.all(y), Probe.all(x));
                s.due("no call was refused", Probe.status(x), "0 0 0");
                for (int left = done - 1; left >= 0; left--) {
                    s.due("undone", x.undo(), left);
                }
                s.due("as before", Probe.all(x), tree);
            }
        }
    }

    private static void undoesActs() {
        Sentence s = new Sentence("Terms", "acts undone.");
        NestQuery x = Probe.with("{a:1,b:[2,x,{a:3}],c:-5}", "..", ".b", "..?(@>1)", "..?(@.a)");
        Deque<String> before = new ArrayDeque<>();
        x.image();
        Probe.Call[] acts = {() -> Probe.append(x, 1, "[9,8]"), () -> x.add(0, 7), () -> x.change(0, 1), () -> x.change(0, 0),
            () -> Probe.key(x, 3, "q", "w"), () -> x.move(1, 0, 26), () -> x.keep() < 0 ? -1 : x.apply(true),
            () -> Probe.put(x, 2, "{}"), () -> x.change(1, 2)};
        for (Probe.Call act : acts) {
            before.push(Probe.all(x));
            s.due("an act on " + before.peek(), act.run() > 0, true);
            s.due("a change", Probe.all(x).equals(before.peek()), false);
        }
        s.due("ACTS", x.count(10), acts.length);
        while (!before.isEmpty()) {
            s.due("undone", x.undo(), before.size() - 1);
            s.due("as before", Probe.all(x), before.pop());
        }
        s.due("no more", x.undo(), -1);
    }

    private static void hasNone() {
        Sentence s = new Sentence("The constants", "The constants: `NONE = -1`: There is none.");
        s.due("NONE", NestQuery.NONE, -1);
        NestQuery x = new NestQuery();
        s.due("no THING it lies within", x.thing(0, 1), NestQuery.NONE);
        s.due("no image", x.keep(), NestQuery.NONE);
        s.due("no ACT", x.undo(), NestQuery.NONE);
        s.due("no FAULT", x.fault(), NestQuery.NONE);
    }

    private static void keepsObjectsApart() {
        Sentence s = new Sentence("Not promised", "How the state is held inside the object is free, as are the speed of each call, the text of toString and the behaviour of equals and hashCode.");
        NestQuery x = Probe.lived();
        String before = Probe.state(x);
        for (String tree : TREES) {
            NestQuery y = Probe.with(tree, "..", ".*");
            y.image();
            y.years(tree.length(), 20, 0);
            y.keep();
        }
        s.due("another object's calls change nothing", Probe.state(x), before);
        s.due("the same calls, the same answers", Probe.state(Probe.lived()), before);
    }

    private static void holdsNoThreads() {
        Sentence s = new Sentence("Not promised", "Use of one object from several threads at once is not promised to be safe.");
        for (Method m : NestQuery.class.getDeclaredMethods()) {
            s.due(m + " is not synchronized", java.lang.reflect.Modifier.isSynchronized(m.getModifiers()), false);
        }
    }

    private static void changesNothingByQuestions() {
        Sentence s = new Sentence("Not promised", "Nothing is promised beyond the answers and state changes described above, and nothing about an object after its 512th call.");
        NestQuery x = Probe.lived();
        Probe.feed(x, "abc");
        String before = Probe.state(x) + x.count(12);
        Probe.Call[] questions = {x::fault, () -> x.count(7), () -> x.count(9), () -> x.count(17), () -> x.thing(1, 8), () -> x.thing(1, 9),
            () -> x.within(0, 1), () -> x.told(0, false, 3), () -> x.told(2, true, 0), () -> x.alike(0, 1), () -> x.answer(1, 0),
            () -> x.steps(1, 1), () -> x.row(0, 3), () -> x.rowText(0, 2), x::look};
        for (Probe.Call question : questions) {
            String first = Probe.told(question);
            s.due("the same again", Probe.told(question), first);
            s.due("all is as it was", Probe.state(x) + x.count(12), before);
        }
    }
}
