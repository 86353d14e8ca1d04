/** Each promise by hand: ordinary inputs, the edges that the document names, wrong inputs. */
public final class PromiseTest {
    private static final String DATA = "{a:1,b:[2,x,{a:3}],c:-5}";

    public static void main(String[] args) {
        p1New();
        p2Feed();
        p3Tree();
        p3TreeAnew();
        p3Faults();
        p4Path();
        p4Faults();
        p5Fault();
        p6Count();
        p7Thing();
        p8Within();
        p9Told();
        p10Alike();
        p11Answer();
        p11Filters();
        p12Steps();
        p13Row();
        p14RowText();
        p15Put();
        p16Append();
        p17Key();
        p18Add();
        p19Change();
        p20Move();
        p21Keep();
        p22Apply();
        p23Undo();
        p24Note();
        p25Look();
        p26Forget();
        p27Years();
        p28Image();
        p29Restore();
        Probe.finish();
    }

    private static void p1New() {
        NestQuery x = new NestQuery();
        Probe.due("new: told", Probe.all(x), "{}");
        int[] due = {1, 0, 0, 0, 1, 0, 0, 1, 0, -1, 0, 0, 0, 0, 0, 0, 0, 0};
        for (int what = 0; what < due.length; what++) {
            Probe.due("new: count " + what, x.count(what), due[what]);
        }
        Probe.due("new: fault", x.fault(), -1);
        Probe.due("new: look", x.look(), -1);
        Probe.due("new: undo", x.undo(), -1);
        Probe.due("new: restore", x.restore(), false);
        Probe.due("new: root is a map", x.thing(0, 0), 3);
        for (int slot = -1; slot < 5; slot++) {
            int s = slot;
            Probe.nse("new: answer", () -> x.answer(s, -1));
            Probe.nse("new: steps", () -> x.steps(s, -1));
        }
    }

    private static void p2Feed() {
        NestQuery x = new NestQuery();
        // The highest byte comes first.
        Probe.due("feed", x.feed('[' << 24 | '1' << 16 | '2' << 8 | ',', 'a' << 24 | 'b' << 16 | ']' << 8 | ' ', 0, 0, 0), 20);
        Probe.due("tree of it", x.tree(7), 0);
        Probe.due("told", Probe.all(x), "[12,ab]");
        for (int k = 1; k <= 20; k++) {
            Probe.due("feed " + k, x.feed(0x20202020, 0, 0, 0, 0), 20 * k);
        }
        Probe.due("feed beyond 400", x.feed(1, 2, 3, 4, 5), -1);
        Probe.due("none came", x.count(12), 400);
        Probe.due("feed again", x.feed(1, 2, 3, 4, 5), -1);
        Probe.iae("400 are there, not 401", () -> x.tree(401));
        Probe.due("400 can be read", x.tree(400), 1);
        Probe.due("at the first sign that is no blank", x.fault(), 4);
        Probe.due("and the tape is empty", x.count(12), 0);
        Probe.due("feed anew", x.feed(-1, -1, -1, -1, -1), 20);
        Probe.due("bytes above 127 are signs", x.tree(20), 1);
        Probe.due("at the first one", x.fault(), 0);
    }

    private static void p3Tree() {
        NestQuery x = Probe.with(DATA);
        Probe.due("told", Probe.all(x), DATA);
        Probe.iae("n below 0", () -> x.tree(-1));
        Probe.feed(x, "[1]");
        String before = Probe.state(x);
        Probe.iae("more than the tape has", () -> x.tree(21));
        Probe.iae("the least int", () -> x.tree(Integer.MIN_VALUE));
        Probe.due("nothing changed", Probe.state(x), before);
        Probe.due("nor the tape", x.count(12), 20);
        Probe.due("the tape's first bytes", x.tree(3), 0);
        Probe.due("told", Probe.all(x), "[1]");
        Probe.due("the tape is empty then", x.count(12), 0);
        String[][] good = {{" \n 5 ", "5"}, {"-0", "0"}, {"- 7", "-7"}, {"007", "7"}, {"[ ]", "[]"}, {"{ }", "{}"},
            {"abcdef", "abcdef"}, {"-999", "-999"}, {"{a:{a:{a:{}}},b:[]}", "{a:{a:{a:{}}},b:[]}"},
            {"[[[[[[[1]]]]]]]", "[[[[[[[1]]]]]]]"}, {"{zzzzzz:zzzzzz}", "{zzzzzz:zzzzzz}"},
            {"{ab:1,a:2,b:3}", "{ab:1,a:2,b:3}"}, {"[a,\nb]", "[a,b]"}};
        for (String[] one : good) {
            Probe.due("tree " + one[0], Probe.tree(x, one[0]), 0);
            Probe.due("told of " + one[0], Probe.all(x), one[1]);
            Probe.due("no fault", x.fault(), -1);
        }
        Probe.due("60 things", Probe.tree(x, Probe.ones(59)), 0);
        Probe.due("are there", x.count(0), 60);
    }

    private static void p3TreeAnew() {
        NestQuery x = Probe.with("[1,2]", ".*", "");
        x.image();
        Probe.due("add", x.add(0, 1), 1 + 1);
        Probe.due("keep", x.keep(), 2);
        Probe.due("note", x.note(0, true), 1);
        Probe.due("a refused act", x.add(1, 1), -1);
        Probe.due("a refused note", x.note(9, true), -1);
        String before = Probe.state(x);
        Probe.due("a fault", Probe.tree(x, "[1,2"), 1);
        Probe.due("all stays but status 0 and the fault", Probe.state(x),
                before.replace(" status 0 1 1 fault -1", " status 1 1 1 fault 4"));
        Probe.due("the image too", x.count(9), 2);
        Probe.due("tree", Probe.tree(x, "{q:1}"), 0);
        Probe.due("no acts", x.count(10), 0);
        Probe.due("nothing noted", x.count(11), 0);
        Probe.due("no image", x.count(9), -1);
        Probe.due("no image to restore", x.restore(), false);
        Probe.due("nothing to undo", x.undo(), -1);
        Probe.due("paths stay", x.count(6), 3);
        Probe.due("kept stays", Probe.rows(x), "=[0] 2 | =[1] 3");
        Probe.due("status stays", x.count(13) * 100 + x.count(14) * 10 + x.count(15), 111);
    }

    private static int faults = 0;

    private static void faultOf(NestQuery x, String text, int fault, int place) {
        faults += fault == 0 ? 0 : 1;
        Probe.due("tree " + text, Probe.tree(x, text), fault);
        Probe.due("fault of " + text, x.fault(), place);
    }

    private static void p3Faults() {
        NestQuery x = Probe.with("[7]");
        faultOf(x, "", 1, 0);
        faultOf(x, "  ", 1, 2);
        faultOf(x, "[1,2  ", 1, 6);
        faultOf(x, "[1,,2]", 1, 3);
        faultOf(x, "[,1]", 1, 1);
        faultOf(x, "[1 2]", 1, 3);
        faultOf(x, "12ab", 1, 2);
        faultOf(x, "ab12", 1, 2);
        faultOf(x, "1]", 1, 1);
        faultOf(x, "A", 1, 0);
        faultOf(x, "aB", 1, 1);
        faultOf(x, "--1", 1, 1);
        faultOf(x, "-", 1, 1);
        faultOf(x, "-[1]", 1, 1);
        faultOf(x, "{a}", 1, 2);
        faultOf(x, "{1:2}", 1, 1);
        faultOf(x, "{a:1,}", 1, 5);
        faultOf(x, "{a:}", 1, 3);
        faultOf(x, "{a:1 b:2}", 1, 5);
        faultOf(x, "{a:1", 1, 4);
        faultOf(x, "{[1]:2}", 1, 1);
        faultOf(x, "[1}", 1, 2);
        faultOf(x, "{a:1]", 1, 4);
        faultOf(x, "[1..2]", 1, 2);
        faultOf(x, "\t1", 1, 0);
        faultOf(x, "[0000]", 2, 1);
        faultOf(x, "[-1000]", 2, 2);
        faultOf(x, "{abcdefg:1}", 2, 1);
        faultOf(x, "{a:abcdefg}", 2, 3);
        faultOf(x, "[1abcdefg]", 1, 2);
        faultOf(x, "[1 1000]", 1, 3);
        faultOf(x, "{a:1,b:2,a:3}", 3, 9);
        faultOf(x, "{a:1,a}", 3, 5);
        faultOf(x, "{a:{a:1,a:2}}", 3, 8);
        faultOf(x, "{aaaaaa:1,aaaaaaa:2}", 2, 10);
        faultOf(x, "{aaaaaa:1,aaaaaa:2000}", 3, 10);
        faultOf(x, "[[[[[[[[]]]]]]]]", 0, -1);
        faultOf(x, "[[[[[[[1,[2,-3]]]]]]]]", 2, 10);
        faultOf(x, "[[[[[[[[-3]]]]]]]]", 2, 8);
        faultOf(x, "[[[[[[[[,", 1, 8);
        faultOf(x, "{a:{a:{a:{a:{a:{a:{a:{b:1}}}}}}}}", 2, 24);
        faultOf(x, Probe.ones(60), 2, 119);
        faultOf(x, Probe.ones(59).replace("]", ",-1]"), 2, 119);
        faultOf(x, Probe.ones(59).replace("]", ",]"), 1, 119);
        faultOf(x, Probe.ones(59).replace("]", ",-x]"), 2, 119);
        faultOf(x, Probe.ones(58).replace("]", ",{a:1}]"), 2, 120);
        Probe.due("told as before the faults", Probe.all(x), "[[[[[[[[]]]]]]]]");
        Probe.due("status 0", x.count(13), faults);
    }

    private static void p4Path() {
        NestQuery x = Probe.with(DATA);
        Probe.due("path", Probe.path(x, 0, ".a"), 0);
        Probe.due("in place of one", Probe.path(x, 0, ".c"), 0);
        Probe.due("answers", Probe.answers(x, 0), "7");
        Probe.due("a fault", Probe.path(x, 0, ".c."), 1);
        Probe.due("the path stays", Probe.answers(x, 0), "7");
        Probe.due("status 0", x.count(13), 1);
        Probe.due("the tape is empty then", x.count(12), 0);
        Probe.feed(x, ".a");
        String before = Probe.state(x);
        Probe.nse("no such path", () -> x.path(4, 2));
        Probe.nse("no such path", () -> x.path(-1, 2));
        Probe.nse("ahead of the tape", () -> x.path(4, 99));
        Probe.iae("not so many", () -> x.path(3, 21));
        Probe.iae("below 0", () -> x.path(0, -1));
        Probe.due("nothing changed", Probe.state(x), before);
        Probe.due("nor the tape", x.count(12), 20);
        Probe.due("path 3", x.path(3, 2), 0);
        Probe.due("bits", x.count(6), 9);
        Probe.due("an empty path", x.path(1, 0), 0);
        Probe.due("leads to root", Probe.answers(x, 1), "0");
        Probe.due("blanks too", Probe.path(x, 2, " \n  "), 0);
        Probe.due("leads to root", Probe.answers(x, 2), "0");
        Probe.due("blanks between tokens", Probe.path(x, 2, " . b [ - 1 ] ? ( @ . a = - 3 | ! @ = x ) "), 0);
        Probe.due("answers", Probe.answers(x, 2), "5");
        Probe.due("8 steps", Probe.path(x, 2, "........?(@)?(@)?(@)?(@)"), 0);
        Probe.due("are there", x.steps(2, -1), 8);
        // However often paths are compiled anew, nothing of the old ones is left.
        String much = "?(!!!!!@|!!!!!@.b[0]=2|!!!!!@|!!!!!@&!!!!!@.b[2].a=3|!!!!!@|!!!!!@|!!!!!@|!!!!!@|!!!!!@|!!!!!@)..";
        for (int k = 0; k < 30; k++) {
            Probe.due("much", Probe.path(x, 2, much), 0);
            Probe.due("its answers", x.answer(2, -1), 0);
            Probe.due("much", Probe.path(x, 2, much.replace("!!!!!", "!!!!")), 0);
            Probe.due("its answers", x.answer(2, -1), 8);
            Probe.due("a fault", Probe.path(x, 2, much + "a"), 1);
            Probe.due("its answers", x.answer(2, -1), 8);
        }
        StringBuilder far = new StringBuilder("?(@");
        for (int k = 0; k < 198; k++) {
            far.append(".b");
        }
        Probe.due("as long as a tape", Probe.path(x, 2, far.append(")").toString()), 0);
        Probe.due("leads nowhere", x.answer(2, -1), 0);
    }

    private static void pathFault(NestQuery x, String text, int fault, int place) {
        Probe.due("path " + text, Probe.path(x, 0, text), fault);
        Probe.due("fault of " + text, x.fault(), place);
    }

    private static void p4Faults() {
        NestQuery x = Probe.with(DATA);
        pathFault(x, "a", 1, 0);
        pathFault(x, ".", 1, 1);
        pathFault(x, ". .a", 1, 2);
        pathFault(x, "....", 0, -1);
        pathFault(x, "...", 1, 3);
        pathFault(x, "..a", 1, 2);
        pathFault(x, "..*", 1, 2);
        pathFault(x, ".[0]", 1, 1);
        pathFault(x, "[]", 1, 1);
        pathFault(x, "[a]", 1, 1);
        pathFault(x, "[-]", 1, 2);
        pathFault(x, "[1", 1, 2);
        pathFault(x, "[1:2:3]", 1, 4);
        pathFault(x, "[::]", 1, 2);
        pathFault(x, "[1..2]", 1, 2);
        pathFault(x, "[:-1000]", 2, 3);
        pathFault(x, "[1000:]", 2, 1);
        pathFault(x, "[1 1000]", 1, 3);
        pathFault(x, "?", 1, 1);
        pathFault(x, "?@", 1, 1);
        pathFault(x, "?()", 1, 2);
        pathFault(x, "?(@", 1, 3);
        pathFault(x, "?(@.)", 1, 4);
        pathFault(x, "?(@..a)", 1, 3);
        pathFault(x, "?(@.*)", 1, 4);
        pathFault(x, "?(@[1:2])", 1, 5);
        pathFault(x, "?(@=)", 1, 4);
        pathFault(x, "?(@=@)", 1, 4);
        pathFault(x, "?(@=-a)", 1, 5);
        pathFault(x, "?(@==1)", 1, 4);
        pathFault(x, "?(@=1=2)", 1, 5);
        pathFault(x, "?(@&)", 1, 4);
        pathFault(x, "?(|@)", 1, 2);
        pathFault(x, "?(!)", 1, 3);
        pathFault(x, "?(@ @)", 1, 4);
        pathFault(x, "?((@)", 1, 5);
        pathFault(x, "?(@))", 1, 4);
        pathFault(x, "?(@!@)", 1, 3);
        pathFault(x, "?(a=@)", 1, 2);
        pathFault(x, "?(@=1000)", 2, 4);
        pathFault(x, "?(@=abcdefg)", 2, 4);
        pathFault(x, "?(@.abcdefg)", 2, 4);
        pathFault(x, "?(@[1000])", 2, 4);
        pathFault(x, ".a.a.a.a.a.a.a.a", 0, -1);
        pathFault(x, ".a.a.a.a.a.a.a.a[", 2, 16);
        pathFault(x, ".a.a.a.a.a.a.a.a?", 2, 16);
        pathFault(x, ".a.a.a.a.a.a.a.a..", 2, 16);
        pathFault(x, ".a.a.a.a.a.a.a.aa a", 1, 18);
        pathFault(x, ".a.a.a.a.a.a.a.a*", 1, 16);
        pathFault(x, "?(!!!!!@)", 0, -1);
        pathFault(x, "?(((((((@))))))", 2, 7);
        pathFault(x, "?((((((@))))))", 0, -1);
        pathFault(x, "?(!(!(!(", 2, 7);
        pathFault(x, "?(!(!(!!", 2, 7);
        pathFault(x, "?(!(!(!@)&!(!@)))", 0, -1);
        pathFault(x, "?(!(!(!@)&!(!!@)))", 2, 13);
        pathFault(x, "?(((((( ]", 1, 8);
        String twelve = "?(@&@&@&@&@&@|@|@|@|@|@|@)";
        pathFault(x, twelve, 0, -1);
        pathFault(x, twelve + "?(@)", 2, 28);
        pathFault(x, twelve.replace(")", "|@)"), 2, 26);
        pathFault(x, twelve.replace(")", "|!@)"), 2, 27);
    }

    private static void p5Fault() {
        NestQuery x = Probe.with("[1]", ".a");
        Probe.due("none", x.fault(), -1);
        Probe.due("tree", Probe.tree(x, "[1,x"), 1);
        Probe.due("of tree", x.fault(), 4);
        Probe.due("path", Probe.path(x, 0, ".a.."), 0);
        Probe.due("none without", x.fault(), -1);
        Probe.due("path", Probe.path(x, 0, ".a*"), 1);
        Probe.due("of path", x.fault(), 2);
        Probe.due("not read", Probe.put(x, 3, "[1,,"), -1);
        Probe.due("of the latest that was read", x.fault(), 2);
        Probe.due("no key", x.key(0, 27, Probe.feed(x, "[")), -1);
        Probe.due("of the latest that was read", x.fault(), 2);
        Probe.due("put", Probe.put(x, 0, "[1,,"), -2);
        Probe.due("of put", x.fault(), 3);
        Probe.due("append", Probe.append(x, 0, "1 1"), -2);
        Probe.due("of append", x.fault(), 2);
        Probe.due("key", Probe.key(x, 0, "a", "{a"), -2);
        Probe.due("of key", x.fault(), 2);
        Probe.due("nothing to be put, but the text was read", Probe.put(x, 0, "5"), -1);
        Probe.due("none without", x.fault(), -1);
    }

    private static void p6Count() {
        NestQuery x = Probe.with("[5,-7,ab,[ab,[]],{a:{},b:{}},5]", null, "..", "..", null);
        int[] due = {12, 3, 2, 3, 4 - 1, 2, 6};
        due[0] = 1 + 3 + 3 + 3 + 1;
        for (int what = 0; what < due.length; what++) {
            Probe.due("count " + what, x.count(what), due[what]);
        }
        // Unlike: root, 5, -7, ab, [ab,[]], [], the map of two, {}.
        Probe.due("unlike", x.count(7), 8);
        Probe.due("sum", x.count(16), 3);
        Probe.due("fits", x.count(17), 6);
        Probe.due("rows kept", x.count(8), 0);
        Probe.due("no image", x.count(9), -1);
        x.image();
        Probe.due("no rows since the image", x.count(9), 0);
        Probe.due("add", x.add(1, 1), 3);
        Probe.due("rows since the image", x.count(9), 3);
        Probe.due("still none kept", x.count(8), 0);
        Probe.due("acts", x.count(10), 1);
        x.note(1, false);
        x.note(1, true);
        Probe.due("noted", x.count(11), 2);
        Probe.due("none fits", x.count(17), 0);
        Probe.feed(x, "1");
        Probe.due("tape", x.count(12), 20);
        Probe.due("status 0", x.count(13), 0);
        Probe.due("faulty", x.tree(0), 1);
        Probe.due("status 0", x.count(13), 1);
        Probe.due("status 1", x.count(14), 0);
        Probe.due("status 2", x.count(15), 0);
        x.add(0, 1);
        x.move(0, 0, 0);
        x.note(-1, true);
        Probe.due("status 1", x.count(14), 2);
        Probe.due("status 2", x.count(15), 1);
        Probe.nse("another what", () -> x.count(18));
        Probe.nse("another what", () -> x.count(-1));
        NestQuery y = Probe.with("[{a:1,b:2},{b:2,a:1},{a:1},{a:1,b:3},[1,2],[2,1],[1,2]]");
        // Unlike: root, {a,b}, 1, 2, {a:1}, {a:1,b:3}, 3, [1,2], [2,1].
        Probe.due("unlike", y.count(7), 9);
    }

    private static void p7Thing() {
        NestQuery x = Probe.with("{a:1,bcd:[2,x,{abcdef:3}],c:-5}", "...bcd", "..", null, ".*");
        int[][] due = {
            {3, -1, -1, 0, 3, 7, -1000, 0, 0, 1},
            {0, 0, 0, 1, 0, 1, 1, 1, 0, 2},
            {2, 0, 1, 1, 3, 6, -1000, 3, 0, 3},
            {0, 2, 0, 2, 0, 3, 2, 0, 0, 1},
            {1, 2, 1, 2, 0, 4, -1000, 0, 0, 1},
            {3, 2, 2, 2, 1, 6, -1000, 0, 0, 1},
            {0, 5, 0, 3, 0, 6, 3, 6, 0, 1},
            {0, 0, 2, 1, 0, 7, -5, 1, 0, 2}};
        for (int thing = 0; thing < due.length; thing++) {
            for (int what = 0; what < 10; what++) {
                Probe.due("thing " + thing + " " + what, x.thing(thing, what), due[thing][what]);
            }
        }
        Probe.nse("no such thing", () -> x.thing(8, 0));
        Probe.nse("no such thing", () -> x.thing(-1, 0));
        Probe.nse("another what", () -> x.thing(0, 10));
        Probe.nse("another what", () -> x.thing(0, -1));
        NestQuery y = Probe.with("[{a:[],b:1},{b:1,a:[]},[],1,1]");
        int[] twins = {0, 1, 2, 3, 1, 3, 2, 2, 3, 3};
        for (int thing = 0; thing < twins.length; thing++) {
            Probe.due("twins of " + thing, y.thing(thing, 8), twins[thing]);
        }
    }

    private static void p8Within() {
        NestQuery x = Probe.with(DATA);
        Probe.due("within", x.within(0, 0), 1);
        Probe.due("within", x.within(0, 1), 2);
        Probe.due("within", x.within(0, 2), 7);
        Probe.due("within", x.within(2, 2), 5);
        Probe.nse("there is none", () -> x.within(0, 3));
        Probe.nse("there is none", () -> x.within(0, -1));
        Probe.nse("within a number", () -> x.within(1, 0));
        Probe.nse("no such thing", () -> x.within(8, 0));
        Probe.nse("no such thing", () -> x.within(-1, 0));
    }

    private static void p9Told() {
        NestQuery x = Probe.with(DATA);
        String[] told = {DATA, "1", "[2,x,{a:3}]", "2", "x", "{a:3}", "3", "-5"};
        String[] own = {"", ".a", ".b", ".b[0]", ".b[1]", ".b[2]", ".b[2].a", ".c"};
        for (int thing = 0; thing < told.length; thing++) {
            Probe.due("told " + thing, Probe.text(x, thing, false), told[thing]);
            Probe.due("its path " + thing, Probe.text(x, thing, true), own[thing]);
        }
        Probe.nse("root's path has no bytes", () -> x.told(0, true, 0));
        Probe.nse("below -1", () -> x.told(1, false, -2));
        Probe.nse("no such thing", () -> x.told(8, false, -1));
        Probe.nse("no such thing", () -> x.told(-1, true, -1));
        NestQuery y = Probe.with(Probe.ones(59).replace("[1,", "[-10,"));
        Probe.due("place of two digits", Probe.text(y, 59, true), "[58]");
        Probe.due("told", Probe.text(y, 1, false), "-10");
        Probe.tree(y, "[100,-909,999,-99,0]");
        Probe.due("told", Probe.all(y), "[100,-909,999,-99,0]");
        Probe.due("the longest", longest().length(), 827);
    }

    /** 60 things, all with keys and words of 6 letters, which no text can tell at once. */
    private static String longest() {
        NestQuery x = Probe.with("{}", "");
        for (int k = 0; k < 59; k++) {
            String key = "zzzz" + (char) ('a' + k / 26) + (char) ('a' + k % 26);
            Probe.due("key", Probe.key(x, 0, key, "zzzzzz"), 1);
        }
        return Probe.all(x);
    }

    private static void p10Alike() {
        NestQuery x = Probe.with("[{a:1,b:[x]},{b:[x],a:1},{a:1,b:[y]},[1,2],[2,1],[1,2],1,a,{a:1},{a:1,c:[x]},[],{}]");
        String first = "";
        int n = x.count(0);
        for (int i = 0; i < n; i++) {
            for (int j = 0; j < n; j++) {
                if (i < j && x.alike(i, j) == 1) {
                    first += i + "=" + j + " ";
                }
                Probe.due("alike both ways", x.alike(i, j), x.alike(j, i));
            }
            Probe.due("like itself", x.alike(i, i), 1);
        }
        // 1 {a:1 b:[x]} 2:1 3:[4:x]; 5 {6:[7:x] 8:1}; 9 {10:1 11:[12:y]}; 13 [14:1 15:2]; 16 [17:2 18:1];
        // 19 [20:1 21:2]; 22:1; 23:a; 24 {25:1}; 26 {27:1 28:[29:x]}; 30 []; 31 {}
        Probe.due("pairs", first, "1=5 2=8 2=10 2=14 2=18 2=20 2=22 2=25 2=27 3=6 3=28 4=7 4=29 6=28 7=29 "
                + "8=10 8=14 8=18 8=20 8=22 8=25 8=27 10=14 10=18 10=20 10=22 10=25 10=27 13=19 14=18 14=20 "
                + "14=22 14=25 14=27 15=17 15=21 17=21 18=20 18=22 18=25 18=27 20=22 20=25 20=27 22=25 22=27 25=27 ");
        Probe.nse("no such thing", () -> x.alike(n, 0));
        Probe.nse("no such thing", () -> x.alike(0, n));
        Probe.nse("no such thing", () -> x.alike(-1, 0));
        Probe.nse("no such thing", () -> x.alike(0, -1));
    }

    private static void answersAre(NestQuery x, String path, String due) {
        Probe.due("path " + path, Probe.path(x, 0, path), 0);
        Probe.due("answers of " + path, Probe.answers(x, 0), due);
    }

    private static void p11Answer() {
        // 0 {a 1:[2:1 3:{a 4:x b 5:[6:7 7:8 8:9]} 9:[]] b 10:w c 11:{} }
        NestQuery x = Probe.with("{a:[1,{a:x,b:[7,8,9]},[]],b:w,c:{}}");
        answersAre(x, "", "0");
        answersAre(x, ".a", "1");
        answersAre(x, ".d", "");
        answersAre(x, ".ab", "");
        answersAre(x, ".a.a", "");
        answersAre(x, ".a[1].a", "4");
        answersAre(x, ".*", "1,10,11");
        answersAre(x, ".*.*", "2,3,9");
        answersAre(x, "..", "0,1,2,3,4,5,6,7,8,9,10,11");
        answersAre(x, "....", "0,1,2,3,4,5,6,7,8,9,10,11");
        answersAre(x, "...a", "1,4");
        answersAre(x, "...*", "1,2,3,4,5,6,7,8,9,10,11");
        answersAre(x, ".a..", "1,2,3,4,5,6,7,8,9");
        answersAre(x, "[0]", "");
        answersAre(x, ".a[0]", "2");
        answersAre(x, ".a[2]", "9");
        answersAre(x, ".a[3]", "");
        answersAre(x, ".a[-1]", "9");
        answersAre(x, ".a[-3]", "2");
        answersAre(x, ".a[-4]", "");
        answersAre(x, ".a[-0]", "2");
        answersAre(x, "..[0]", "2,6");
        answersAre(x, "..[-1]", "8,9");
        answersAre(x, "..[1:]", "3,7,8,9");
        answersAre(x, "..[:1]", "2,6");
        answersAre(x, "..[:]", "2,3,6,7,8,9");
        answersAre(x, "..[:-1]", "2,3,6,7");
        answersAre(x, "..[-2:]", "3,7,8,9");
        answersAre(x, "..[-9:999]", "2,3,6,7,8,9");
        answersAre(x, "..[2:1]", "");
        answersAre(x, "..[1:1]", "");
        answersAre(x, "..[3:]", "");
        answersAre(x, "..[:-3]", "");
        answersAre(x, "..[-999:-999]", "");
        answersAre(x, "..[-2:-1]", "3,7");
        Probe.nse("there is none", () -> x.answer(0, 2));
        Probe.nse("below -1", () -> x.answer(0, -2));
        Probe.nse("no such path is there", () -> x.answer(1, -1));
        Probe.nse("no such path is there", () -> x.answer(4, -1));
        Probe.nse("no such path is there", () -> x.answer(-1, 0));
        // The answers are those of the tree as it is now.
        answersAre(x, "...a", "1,4");
        Probe.due("tree", Probe.tree(x, "[{a:1},{a:2}]"), 0);
        Probe.due("answers now", Probe.answers(x, 0), "2,4");
    }

    private static void p11Filters() {
        // 0 [1:{n 2:5 w 3:abc} 4:{n 5:-5 w 6:ab} 7:{w 8:b l 9:[10:1 11:2]} 12:5 13:b 14:{n 15:x}]
        NestQuery x = Probe.with("[{n:5,w:abc},{n:-5,w:ab},{w:b,l:[1,2]},5,b,{n:x}]");
        answersAre(x, ".*?(@.n)", "1,4,14");
        answersAre(x, ".*?(!@.n)", "7,12,13");
        answersAre(x, ".*?(@)", "1,4,7,12,13,14");
        answersAre(x, ".*?(!@)", "");
        answersAre(x, ".*?(@.n=5)", "1");
        answersAre(x, ".*?(@.n<5)", "4");
        answersAre(x, ".*?(@.n>-6)", "1,4");
        answersAre(x, ".*?(@.n>-5)", "1");
        answersAre(x, ".*?(!@.n=5)", "4,7,12,13,14");
        answersAre(x, ".*?(@.w=ab)", "4");
        answersAre(x, ".*?(@.w<abc)", "4");
        answersAre(x, ".*?(@.w>ab)", "1,7");
        answersAre(x, ".*?(@.w<b)", "1,4");
        answersAre(x, ".*?(@.n=x)", "14");
        answersAre(x, ".*?(@.n<z)", "14");
        answersAre(x, ".*?(@=5)", "12");
        answersAre(x, ".*?(@>a)", "13");
        answersAre(x, ".*?(@.l[0])", "7");
        answersAre(x, ".*?(@.l[-1]=2)", "7");
        answersAre(x, ".*?(@.l[2])", "");
        answersAre(x, ".*?(@.l[-3])", "");
        answersAre(x, ".*?(@[0])", "");
        answersAre(x, "?(@[0].n)", "0");
        answersAre(x, "?(@[-1].n=5)", "");
        answersAre(x, ".*?(@.n&@.w)", "1,4");
        answersAre(x, ".*?(@.n|@.w)", "1,4,7,14");
        answersAre(x, ".*?(@=5|@.n&@.w=ab)", "4,12");
        answersAre(x, ".*?((@=5|@.n)&@.w=ab)", "4");
        answersAre(x, ".*?(@.n&@.w=ab|@=5)", "4,12");
        answersAre(x, ".*?(!@.n&!@.w)", "12,13");
        answersAre(x, ".*?(!(@.n&@.w))", "7,12,13,14");
        answersAre(x, ".*?(!!@.n)", "1,4,14");
        answersAre(x, ".*?(!(!@.n|@.w=ab)&@)", "1,14");
        answersAre(x, ".*?(@.n)?(@.w).n", "2,5");
        answersAre(x, "..?(@<0|@>bb)", "3 5".replace("3 5", "5,15"));
        answersAre(x, "..?(@>1&!(@=5)|@.w)", "1,4,7,11");
        answersAre(x, ".*?(@|@&@|@)?(@.n=5|@=5)", "1,12");
    }

    private static void p12Steps() {
        NestQuery x = Probe.with(DATA, null, "...a", "", "..[0:2]?(@=x)");
        Probe.due("steps", x.steps(1, -1), 2);
        Probe.due("behind the first", x.steps(1, 0), 8);
        Probe.due("behind the second", x.steps(1, 1), 2);
        Probe.nse("there is none", () -> x.steps(1, 2));
        Probe.nse("below -1", () -> x.steps(1, -2));
        Probe.due("no steps", x.steps(2, -1), 0);
        Probe.nse("there is none", () -> x.steps(2, 0));
        Probe.due("steps", x.steps(3, -1), 3);
        Probe.due("behind .", x.steps(3, 0) * 100 + x.steps(3, 1) * 10 + x.steps(3, 2), 821);
        Probe.nse("no such path is there", () -> x.steps(0, -1));
        Probe.nse("no such path is there", () -> x.steps(4, -1));
        Probe.nse("no such path is there", () -> x.steps(-1, -1));
    }

    private static void rowsAre(String from, String to, String due) {
        NestQuery x = Probe.patch(from, to);
        Probe.due("rows from " + from + " to " + to, Probe.rows(x), due);
        boolean any = x.count(8) > 0;
        Probe.due("laid on", x.restore() && any ? x.apply(false) : -1, any ? x.count(8) : -1);
        if (any) {
            Probe.due("nothing is left since it", sameAs(Probe.all(x), to), 1);
            Probe.due("its turn", x.apply(true), x.count(8));
        }
        Probe.due("as the image again", x.count(9), 0);
    }

    private static int sameAs(String one, String other) {
        NestQuery y = Probe.with(one, "");
        y.image();
        Probe.put(y, 0, other);
        return y.count(9) == 0 ? 1 : 0;
    }

    private static void p13Row() {
        NestQuery x = Probe.patch("{a:1,b:[1,2,3],c:{d:1,e:[1,2]}}", "{b:[1,{}],c:{e:[1,2,[3]],f:7},g:[1,[2]]}");
        int[][] due = {{2, 1, 1, 0}, {3, 2, 1, 1}, {2, 2, 1, 0}, {2, 2, 1, 0}, {1, 3, 0, 2}, {1, 2, 0, 1}, {1, 1, 0, 4}};
        Probe.due("rows", x.count(8), due.length);
        for (int i = 0; i < due.length; i++) {
            for (int what = 0; what < 4; what++) {
                Probe.due("row " + i + " " + what, x.row(i, what), due[i][what]);
            }
        }
        Probe.nse("there is none", () -> x.row(7, 0));
        Probe.nse("there is none", () -> x.row(-1, 0));
        Probe.nse("another what", () -> x.row(0, 4));
        Probe.nse("another what", () -> x.row(0, -1));
        Probe.nse("none is kept", () -> new NestQuery().row(0, 0));
        // What is kept stays as it is, whatever becomes of the tree.
        Probe.tree(x, "5");
        Probe.due("row of the kept", x.row(6, 3), 4);
    }

    private static void p14RowText() {
        rowsAre("{a:1,b:[1,2,3],c:{d:1,e:[1,2]}}", "{b:[1,{}],c:{e:[1,2,[3]],f:7},g:[1,[2]]}",
                "-.a | =.b[1] {} | -.b[2] | -.c.d | +.c.e[2] [3] | +.c.f 7 | +.g [1,[2]]");
        rowsAre("{a:1}", "5", "= 5");
        rowsAre("5", "[x,-7]", "= [x,-7]");
        rowsAre("[1]", "{a:1}", "= {a:1}");
        rowsAre("[]", "[1,2,3]", "+[0] 1 | +[1] 2 | +[2] 3");
        rowsAre("[1,2,3]", "[]", "-[2] | -[1] | -[0]");
        rowsAre("[3,2,1]", "[1,2]", "=[0] 1 | -[2]");
        rowsAre("{a:1,b:2}", "{b:2,a:1}", "");
        rowsAre("[[1,2],[3]]", "[[3],[1,2]]", "=[0][0] 3 | -[0][1] | =[1][0] 1 | +[1][1] 2");
        rowsAre("{a:{b:1},c:x}", "{c:{b:1},a:x}", "=.a x | =.c {b:1}");
        rowsAre("{abcdef:[[[[[[1]]]]]]}", "{abcdef:[[[[[[1,a]]]]]]}", "+.abcdef[0][0][0][0][0][1] a");
        NestQuery x = Probe.patch("[1]", "[2]");
        Probe.nse("there is none", () -> x.rowText(1, -1));
        Probe.nse("there is none", () -> x.rowText(-1, -1));
        Probe.nse("no such byte", () -> x.rowText(0, 6));
        Probe.nse("no such byte", () -> x.rowText(0, -2));
        Probe.due("bytes", x.rowText(0, -1), 6);
        Probe.nse("none is kept", () -> new NestQuery().rowText(0, -1));
    }

    private static void putIs(String data, String path, String text, int due, String then) {
        NestQuery x = Probe.with(data, path);
        Probe.due("put " + text + " at " + path + " of " + data, Probe.put(x, 0, text), due);
        actIs(x, data, due, then);
    }

    /** What an act has left, that it is kept or refused, and that it can be undone. */
    private static void actIs(NestQuery x, String data, int due, String then) {
        Probe.due("then", Probe.all(x), then);
        Probe.due("acts kept", x.count(10), due > 0 ? 1 : 0);
        Probe.due("acts refused", x.count(14), due == -1 ? 1 : 0);
        Probe.due("texts refused", x.count(13), due == -2 ? 1 : 0);
        Probe.due("the tape is empty", x.count(12), 0);
        Probe.due("undone", x.undo(), due > 0 ? 0 : -1);
        Probe.due("as before", Probe.all(x), data);
    }

    private static void p15Put() {
        putIs("{a:1,b:[1,2]}", ".b[1]", "{x:y}", 1, "{a:1,b:[1,{x:y}]}");
        putIs("{a:1,b:[1,2]}", ".*", "[]", 2, "{a:[],b:[]}");
        putIs("{a:1,b:[1,2]}", "", "7", 1, "7");
        putIs("[1,[2,[3]],4]", "...*", "x", 3, "[x,x,x]");
        putIs("[1,[2,[3]],4]", "..", "[5]", 1, "[5]");
        putIs("[1,[2,[3]],4]", "..?(@>1)", "[5]", 3, "[1,[[5],[[5]]],[5]]");
        putIs("[1,2]", ".a", "7", -1, "[1,2]");
        putIs("[1,2]", ".*", "7 7", -2, "[1,2]");
        putIs("[1,2]", ".a", "7 7", -2, "[1,2]");
        putIs("[1,2]", ".*", "", -2, "[1,2]");
        putIs("[[[[[[1]]]]]]", "[0][0][0][0][0]", "[[2]]", 1, "[[[[[[[2]]]]]]]");
        putIs("[[[[[[1]]]]]]", "[0][0][0][0][0][0]", "[[2]]", -1, "[[[[[[1]]]]]]");
        putIs("[[[[[[1]]]]]]", "[0][0][0][0][0][0]", "[2]", 1, "[[[[[[[2]]]]]]]");
        putIs(Probe.ones(57), "[0]", "[1,1,1]", -1, Probe.ones(57));
        putIs(Probe.ones(57), "[0]", "[1,1]", 1, Probe.ones(57).replace("[1,1,", "[[1,1],1,"));
        String big = Probe.ones(40).replace("]", ",[1,1,1,1,1,1,1,1,1]]");
        putIs(big, "?(@)[38:]", "[1,1,1,1,1,1,1]", -1, big);
        putIs(big, "[39:]", "[1,1,1,1,1,1,1]", 2,
                Probe.ones(39).replace("]", ",[1,1,1,1,1,1,1],[1,1,1,1,1,1,1]]"));
        putIs(Probe.ones(59), "[-1]", "x", 1, Probe.ones(59).replace("1]", "x]"));
        putIs(Probe.ones(59), "[-1]", "[]", 1, Probe.ones(59).replace("1]", "[]]"));
        putIs("{}", "", Probe.ones(59), 1, Probe.ones(59));
        putIs("[1]", "[0]", Probe.ones(58), 1, "[" + Probe.ones(58) + "]");
        putIs("[1]", "[0]", Probe.ones(59), -1, "[1]");
        NestQuery x = Probe.with("[1]");
        Probe.feed(x, "[1,");
        Probe.due("no such path is there", x.put(0, 3), -1);
        Probe.due("the text isn't read then", x.fault(), -1);
        Probe.due("status 1, not 0", x.count(14) * 10 + x.count(13), 10);
        Probe.due("but the tape is empty", x.count(12), 0);
        Probe.due("no such path", x.put(-1, 0), -1);
        Probe.due("no such path", x.put(4, 0), -1);
        String before = Probe.state(x);
        Probe.iae("not so many", () -> x.put(0, 1));
        Probe.iae("below 0", () -> x.put(9, -1));
        Probe.due("nothing changed", Probe.state(x), before);
    }

    private static void appendIs(String data, String path, String text, int due, String then) {
        NestQuery x = Probe.with(data, path);
        Probe.due("append " + text + " at " + path + " of " + data, Probe.append(x, 0, text), due);
        actIs(x, data, due, then);
    }

    private static void p16Append() {
        appendIs("[1]", "", "x", 1, "[1,x]");
        appendIs("{a:[],b:[[]],c:1}", "..", "[2]", 3, "{a:[[2]],b:[[[2]],[2]],c:1}");
        appendIs("{a:[],b:2}", ".*", "{k:v}", 1, "{a:[{k:v}],b:2}");
        appendIs("{a:1}", "..", "1", -1, "{a:1}");
        appendIs("[1]", ".a", "1", -1, "[1]");
        appendIs("[1]", "", "1,", -2, "[1]");
        appendIs("{a:1}", "", "{a:1,a:1}", -2, "{a:1}");
        appendIs("[[[[[[[]]]]]]]", "[0][0][0][0][0][0]", "1", 1, "[[[[[[[1]]]]]]]");
        appendIs("[[[[[[[]]]]]]]", "[0][0][0][0][0][0]", "[1]", -1, "[[[[[[[]]]]]]]");
        appendIs(Probe.ones(58), "", "1", 1, Probe.ones(59));
        appendIs(Probe.ones(58), "", "[1]", -1, Probe.ones(58));
        appendIs(Probe.ones(59), "", "1", -1, Probe.ones(59));
        String full = Probe.ones(59).replace("1]", "[]]");
        appendIs(full, "[-1]", "1", -1, full);
        String list = "[" + Probe.ones(17) + "]";
        appendIs("[[],[],[]]", ".*", Probe.ones(17), 3, "[" + list + "," + list + "," + list + "]");
        appendIs("[[],[],[]]", ".*", Probe.ones(18), -1, "[[],[],[]]");
        NestQuery x = Probe.with("[1]");
        Probe.due("no such path is there", Probe.append(x, 1, "[1,"), -1);
        Probe.due("the text isn't read then", x.fault() * 10 + x.count(12), -10);
        String before = Probe.state(x);
        Probe.iae("not so many", () -> x.append(0, 1));
        Probe.iae("below 0", () -> x.append(9, -1));
        Probe.due("nothing changed", Probe.state(x), before);
    }

    private static void keyIs(String data, String path, String key, String text, int due, String then) {
        NestQuery x = Probe.with(data, path);
        Probe.due("key " + key + " " + text + " at " + path + " of " + data, Probe.key(x, 0, key, text), due);
        actIs(x, data, due, then);
    }

    private static void p17Key() {
        keyIs("{a:1,b:2}", "", "a", "[x]", 1, "{a:[x],b:2}");
        keyIs("{a:1,b:2}", "", "zzzzzz", "[x]", 1, "{a:1,b:2,zzzzzz:[x]}");
        keyIs("{a:{b:1},c:{},d:[{}]}", "..", "b", "2", 4, "{a:{b:2},c:{b:2},d:[{b:2}],b:2}");
        keyIs("{a:{b:{c:1}}}", "..", "b", "{}", 3, "{a:{b:{}},b:{}}");
        keyIs("{a:{a:{a:{}}}}", "..", "a", "7", 4, "{a:7}");
        keyIs("{a:{a:{a:{a:{a:{a:{a:{}}}}}}}}", "..", "a", "[[7]]", 8, "{a:[[7]]}");
        // Those within what another one has by the KEY are gone then: they don't make it too much.
        keyIs("{a:{a:{a:{a:{a:{a:{a:{}}}}}}}}", "..", "a", Probe.ones(40), 8, "{a:" + Probe.ones(40) + "}");
        keyIs("{a:{a:{}}}", "..", "a", Probe.ones(58), 3, "{a:" + Probe.ones(58) + "}");
        keyIs("{a:{a:{}}}", "..", "a", Probe.ones(59), -1, "{a:{a:{}}}");
        keyIs("{b:{a:{}}}", "..", "a", Probe.ones(29), -1, "{b:{a:{}}}");
        keyIs("{b:{a:{}}}", "..", "a", Probe.ones(28), 3, "{b:{a:" + Probe.ones(28) + "},a:" + Probe.ones(28) + "}");
        String full = Probe.ones(59).replace("1]", "{}]");
        keyIs(full, "[-1]", "a", "1", -1, full);
        keyIs("[1]", "..", "a", "7", -1, "[1]");
        keyIs("{}", ".a", "a", "7", -1, "{}");
        keyIs("{}", "", "a", "{", -2, "{}");
        keyIs("[1]", "", "a", "{", -2, "[1]");
        keyIs("{a:{b:{a:{b:{a:{b:{}}}}}}}", ".a.b.a.b.a.b", "c", "1", 1, "{a:{b:{a:{b:{a:{b:{c:1}}}}}}}");
        keyIs("{a:{b:{a:{b:{a:{b:{}}}}}}}", ".a.b.a.b.a.b", "c", "[]", 1, "{a:{b:{a:{b:{a:{b:{c:[]}}}}}}}");
        keyIs("{a:{b:{a:{b:{a:{b:{}}}}}}}", ".a.b.a.b.a.b", "c", "[1]", -1, "{a:{b:{a:{b:{a:{b:{}}}}}}}");
        keyIs("[{},{},{},{}]", ".*", "c", Probe.ones(13), -1, "[{},{},{},{}]");
        keyIs("[{c:1},{},{},{}]", ".*", "c", "[]", 4, "[{c:[]},{c:[]},{c:[]},{c:[]}]");
        NestQuery x = Probe.with("{}", "");
        int[] bad = {0, -1, 27, 31, 1 << 30, 1 << 5, 1 << 10 | 1, Integer.MAX_VALUE, Integer.MIN_VALUE, 27 << 25 | 1, 5 << 5};
        for (int k = 0; k < bad.length; k++) {
            int key = bad[k];
            Probe.feed(x, "[1,");
            Probe.due("no key " + key, x.key(0, key, 3), -1);
            Probe.due("the text isn't read then", x.fault(), -1);
            Probe.due("but the tape is empty", x.count(12), 0);
            Probe.due("status 1", x.count(14), k + 1);
        }
        Probe.due("no such path is there", Probe.key(x, 1, "a", "[1,"), -1);
        Probe.due("the text isn't read then", x.fault() * 10 + x.count(12), -10);
        String before = Probe.state(x);
        Probe.iae("not so many", () -> x.key(0, 1, 1));
        Probe.iae("below 0", () -> x.key(9, 0, -1));
        Probe.due("nothing changed", Probe.state(x), before);
        Probe.due("26 letters", Probe.key(x, 0, "zabcde", "1"), 1);
        Probe.due("told", Probe.all(x), "{zabcde:1}");
    }

    private static void addIs(String data, String path, int v, int due, String then) {
        NestQuery x = Probe.with(data, path);
        Probe.due("add " + v + " at " + path + " of " + data, x.add(0, v), due);
        actIs(x, data, due, then);
    }

    private static void p18Add() {
        addIs("[1,x,{a:2},[-3]]", "..", 10, 3, "[11,x,{a:12},[7]]");
        addIs("[1,x,{a:2},[-3]]", ".*", -2, 1, "[-1,x,{a:2},[-3]]");
        addIs("[990,-990,0]", ".*", 999, 3, "[999,9,999]");
        addIs("[990,-990,0]", ".*", -999, 3, "[-9,-999,-999]");
        addIs("[1]", ".*", 0, 1, "[1]");
        addIs("[1]", ".*", 1000, -1, "[1]");
        addIs("[1]", ".*", -1000, -1, "[1]");
        addIs("[1]", ".*", Integer.MAX_VALUE, -1, "[1]");
        addIs("[x]", "..", 1, -1, "[x]");
        addIs("[1]", ".a", 1, -1, "[1]");
        addIs("5", "", 1, 1, "6");
        NestQuery x = Probe.with("[1]", null, ".*");
        Probe.due("no such path is there", x.add(0, 1), -1);
        Probe.due("no such path is there", x.add(4, 1), -1);
        Probe.due("no such path is there", x.add(-1, 1), -1);
        Probe.due("status 1", x.count(14), 3);
        Probe.feed(x, "1");
        Probe.due("the tape stays", x.add(1, 1) * 100 + x.count(12), 120);
    }

    private static void changeIs(String data, String path, int what, int due, String then) {
        NestQuery x = Probe.with(data, path);
        Probe.due("change " + what + " at " + path + " of " + data, x.change(0, what), due);
        actIs(x, data, due, then);
    }

    private static void p19Change() {
        changeIs("[1,[2,3],{a:4,b:[5,6]}]", "", 0, 1, "[{a:4,b:[5,6]},[2,3],1]");
        changeIs("[1,[2,3],{a:4,b:[5,6]}]", "..", 0, 4, "[{b:[6,5],a:4},[3,2],1]");
        changeIs("[1,[2,3],{a:4,b:[5,6]}]", ".*", 0, 2, "[1,[3,2],{b:[5,6],a:4}]");
        changeIs("[1,x]", ".*", 0, -1, "[1,x]");
        changeIs("[]", "", 0, 1, "[]");
        changeIs("[3,{b:1,a:2},x,[1],-4,a,3]", "", 1, 1, "[-4,3,3,a,x,[1],{b:1,a:2}]");
        changeIs("[b,ab,abc,a,ba,aaaaaa,z]", "", 1, 1, "[a,aaaaaa,ab,abc,b,ba,z]");
        changeIs("[{a:1},[2],{b:1},[1],[3,1]]", "", 1, 1, "[[2],[1],[3,1],{a:1},{b:1}]");
        changeIs("[[3,1,[9,8]],2,{a:[2,1]}]", "..", 1, 4, "[2,[1,3,[8,9]],{a:[1,2]}]");
        changeIs("{b:1,a:2}", "..", 1, -1, "{b:1,a:2}");
        changeIs("[1,[2,3],4]", "[1]", 2, 1, "[1,4]");
        changeIs("[1,[2,3],4]", "...*", 2, 5, "[]");
        changeIs("[1,[2,3],4]", "..?(@>1&@<4)", 2, 2, "[1,[],4]");
        changeIs("{a:1,b:{c:1}}", "...c", 2, 1, "{a:1,b:{}}");
        changeIs(Probe.ones(59), "[-1]", 2, 1, Probe.ones(58));
        changeIs(Probe.ones(59), "[:]", 2, 59, "[]");
        changeIs("[1,2]", "", 2, -1, "[1,2]");
        changeIs("[1,2]", "..", 2, -1, "[1,2]");
        changeIs("[1,2]", ".a", 2, -1, "[1,2]");
        changeIs("[1,2]", "", 3, -1, "[1,2]");
        changeIs("[1,2]", "", -1, -1, "[1,2]");
        NestQuery x = Probe.with("[2,1]", null, "");
        Probe.due("no such path is there", x.change(0, 1), -1);
        Probe.due("no such path is there", x.change(4, 1), -1);
        Probe.due("no such path is there", x.change(-1, 1), -1);
        Probe.due("status 1", x.count(14), 3);
    }

    private static void moveIs(String data, int thing, int to, String key, int due, String then) {
        NestQuery x = Probe.with(data);
        int word = Probe.word(key);
        Probe.due("move " + thing + " to " + to + " " + key + " of " + data, x.move(thing, to, word), due);
        actIs(x, data, due, then);
    }

    private static void p20Move() {
        String data = "{a:1,b:[2,[3,4]],c:{d:5}}";
        // 0 {a 1, b 2:[3 4:[5 6]], c 7:{d 8}}
        moveIs(data, 1, 2, "", 6, "{b:[2,[3,4],1],c:{d:5}}");
        moveIs(data, 1, 4, "", 6, "{b:[2,[3,4,1]],c:{d:5}}");
        moveIs(data, 1, 7, "e", 8, "{b:[2,[3,4]],c:{d:5,e:1}}");
        moveIs(data, 8, 0, "d", 8, "{a:1,b:[2,[3,4]],c:{},d:5}");
        moveIs(data, 4, 0, "zzzzzz", 6, "{a:1,b:[2],c:{d:5},zzzzzz:[3,4]}");
        moveIs(data, 7, 4, "", 7, "{a:1,b:[2,[3,4,{d:5}]]}");
        moveIs(data, 3, 2, "", 6, "{a:1,b:[[3,4],2],c:{d:5}}");
        moveIs(data, 4, 2, "", 4, "{a:1,b:[2,[3,4]],c:{d:5}}");
        moveIs(data, 2, 7, "f", 4, "{a:1,c:{d:5,f:[2,[3,4]]}}");
        moveIs(data, 1, 0, "e", 8, "{b:[2,[3,4]],c:{d:5},e:1}");
        moveIs(data, 1, 0, "a", -1, data);
        moveIs(data, 3, 0, "a", -1, data);
        moveIs(data, 0, 2, "", -1, data);
        moveIs(data, 2, 2, "", -1, data);
        moveIs(data, 2, 4, "", -1, data);
        moveIs(data, 1, 2, "a", -1, data);
        moveIs(data, 3, 0, "", -1, data);
        moveIs(data, 3, 1, "", -1, data);
        moveIs(data, 3, 1, "a", -1, data);
        moveIs(data, 9, 2, "", -1, data);
        moveIs(data, -1, 2, "", -1, data);
        moveIs(data, 1, 9, "", -1, data);
        moveIs(data, 1, -1, "", -1, data);
        // 0 [1:[2:[3:[4:[5:[6:[]]]]]], 7:[], 8:[9:1]]
        String deep = "[[[[[[[]]]]]],[],[1]]";
        moveIs(deep, 7, 6, "", 7, "[[[[[[[[]]]]]]],[1]]");
        moveIs(deep, 8, 6, "", -1, deep);
        moveIs(deep, 8, 5, "", 7, "[[[[[[[],[1]]]]]],[]]");
    }

    private static void p21Keep() {
        NestQuery x = Probe.with("[1,2]", ".*", "[0]");
        Probe.due("there is no image", x.keep(), -1);
        Probe.due("that is no refused act", x.count(14), 0);
        x.image();
        Probe.due("nothing has changed", x.keep(), 0);
        x.add(0, 1);
        Probe.due("two rows", x.keep(), 2);
        Probe.due("rows", Probe.rows(x), "=[0] 2 | =[1] 3");
        x.add(1, 1);
        Probe.due("what is kept stays", Probe.rows(x), "=[0] 2 | =[1] 3");
        x.undo();
        x.undo();
        Probe.due("in place of another one", x.keep(), 0);
        Probe.due("none is kept", x.count(8), 0);
        x.add(1, 1);
        Probe.due("one row", x.keep(), 1);
        x.image();
        Probe.due("another image, what is kept stays", Probe.rows(x), "=[0] 2");
        Probe.tree(x, "[]");
        Probe.due("there is no image now", x.keep(), -1);
        Probe.due("and what is kept stays", Probe.rows(x), "=[0] 2");
    }

    /** The patch from one tree to another one laid on a third one. */
    private static void laidOn(String from, String to, String on, boolean turned, String then) {
        NestQuery x = Probe.patch(from, to);
        Probe.due("tree " + on, Probe.tree(x, on), 0);
        int due = then == null ? -1 : x.count(8);
        Probe.due("rows " + Probe.rows(x) + " on " + on, x.apply(turned), due);
        actIs(x, on, due, then == null ? on : then);
    }

    private static void p22Apply() {
        laidOn("{a:1}", "{a:2}", "{b:7,a:1}", false, "{b:7,a:2}");
        laidOn("{a:1}", "{a:2}", "{b:7,a:2}", false, null);
        laidOn("{a:1}", "{a:2}", "{b:7,a:2}", true, "{b:7,a:1}");
        laidOn("{a:1}", "{a:2}", "{b:7}", false, null);
        laidOn("{a:1}", "{a:2}", "[1]", false, null);
        laidOn("{a:1}", "{}", "{a:1,b:2}", false, "{b:2}");
        laidOn("{a:1}", "{}", "{b:2}", true, "{b:2,a:1}");
        laidOn("{a:1}", "{}", "{b:2,a:1}", true, null);
        laidOn("{}", "{a:[1]}", "{b:2}", false, "{b:2,a:[1]}");
        laidOn("{}", "{a:[1]}", "{a:2}", false, null);
        laidOn("{}", "{a:[1]}", "[]", false, null);
        laidOn("{}", "{a:[1]}", "{a:[1],b:3}", true, "{b:3}");
        laidOn("{}", "{a:[1]}", "{a:[1,1],b:3}", true, null);
        laidOn("[1]", "[1,x]", "[7]", false, "[7,x]");
        laidOn("[1]", "[1,x]", "[7,8]", false, null);
        laidOn("[1]", "[1,x]", "[]", false, null);
        laidOn("[1]", "[1,x]", "{}", false, null);
        laidOn("[1]", "[1,x]", "[7,x]", true, "[7]");
        laidOn("[1]", "[1,x]", "[7,x,x]", true, null);
        laidOn("[1,2,3]", "[1]", "[5,2,3]", false, "[5]");
        laidOn("[1,2,3]", "[1]", "[5,2,3,4]", false, null);
        laidOn("[1,2,3]", "[1]", "[5]", true, "[5,2,3]");
        laidOn("1", "[2]", "1", false, "[2]");
        laidOn("1", "[2]", "2", false, null);
        laidOn("1", "[2]", "[2]", true, "1");
        laidOn("{a:{x:1,y:2}}", "{a:5}", "{a:{y:2,x:1}}", false, "{a:5}");
        laidOn("{a:{b:{c:1}}}", "{a:{b:{c:2}}}", "{a:{b:[1]}}", false, null);
        laidOn("{a:[[1,2]]}", "{a:[[1,3]]}", "{a:[[0,2]],b:9}", false, "{a:[[0,3]],b:9}");
        // The second row doesn't fit: the first one isn't laid on either.
        laidOn("{a:1,b:2}", "{a:2,b:3}", "{a:1,b:9}", false, null);
        laidOn("{a:1,b:2}", "{a:2,b:3}", "{a:9,b:3}", true, null);
        // Too much on the way only: what goes makes room for what has come.
        String few = Probe.ones(10);
        laidOn("{b:{},a:" + few + "}", "{a:" + few + ",c:" + Probe.ones(30) + ",b:{}}", "{x:" + Probe.ones(29) + ",b:{}}", false, null);
        laidOn("{b:{},a:" + few + "}", "{a:" + few + ",c:" + Probe.ones(30) + ",b:{}}", "{x:" + Probe.ones(27) + "}", false,
                "{x:" + Probe.ones(27) + ",c:" + Probe.ones(30) + "}");
        laidOn("{a:[],b:" + Probe.ones(30) + "}", "{a:" + Probe.ones(30) + "}", "{x:" + Probe.ones(26) + ",a:[],b:" + Probe.ones(30) + "}", false,
                "{x:" + Probe.ones(26) + ",a:" + Probe.ones(30) + "}");
        NestQuery x = Probe.with("[1]", "[0]");
        Probe.due("nothing is kept", x.apply(false), -1);
        x.image();
        x.keep();
        Probe.due("there are no rows", x.apply(true), -1);
        Probe.due("status 1", x.count(14), 2);
    }

    private static void p23Undo() {
        NestQuery x = Probe.with("[0]", ".*", "");
        for (int k = 1; k <= 45; k++) {
            Probe.due("add", x.add(0, 1), 1);
            Probe.due("acts kept", x.count(10), Math.min(k, 40));
        }
        for (int k = 39; k >= 0; k--) {
            Probe.due("undo", x.undo(), k);
            Probe.due("then", Probe.all(x), "[" + (k + 5) + "]");
        }
        Probe.due("there is none", x.undo(), -1);
        Probe.due("then", Probe.all(x), "[5]");
        Probe.due("that is no refused act", x.count(14), 0);
        Probe.append(x, 1, "[1]");
        x.change(1, 0);
        Probe.put(x, 1, "{}");
        Probe.key(x, 1, "a", "[]");
        x.move(1, 0, 2);
        Probe.due("then", Probe.all(x), "{b:[]}");
        Probe.due("undo", x.undo(), 4);
        Probe.due("then", Probe.all(x), "{a:[]}");
        Probe.due("undo", x.undo(), 3);
        Probe.due("undo", x.undo(), 2);
        Probe.due("then", Probe.all(x), "[[1],5]");
        Probe.due("another act", x.add(0, 1), 1);
        Probe.due("undo", x.undo(), 2);
        Probe.due("undo", x.undo(), 1);
        Probe.due("then", Probe.all(x), "[5,[1]]");
        Probe.due("undo", x.undo(), 0);
        Probe.due("then", Probe.all(x), "[5]");
    }

    private static void p24Note() {
        NestQuery x = Probe.with("[1,2]", "[0]", "..");
        Probe.due("no such thing", x.note(3, true), -1);
        Probe.due("no such thing", x.note(-1, false), -1);
        Probe.due("status 2", x.count(15), 2);
        Probe.due("none noted", x.count(11), 0);
        for (int k = 1; k <= 8; k++) {
            Probe.due("note", x.note(1, true), k);
        }
        Probe.due("there are 8", x.note(2, true), -1);
        Probe.due("status 2", x.count(15), 3);
        Probe.due("noted", x.count(11), 8);
        Probe.due("fits", x.count(17), 3);
        x.forget();
        x.note(2, false);
        Probe.due("fits", x.count(17), 1);
        x.note(1, false);
        Probe.due("none fits", x.count(17), 0);
        x.forget();
        x.note(2, true);
        Probe.due("fits", x.count(17), 2);
        Probe.due("dropped", Probe.path(x, 3, "[1]") + x.change(3, 2), 1);
        Probe.due("what isn't there is no answer", x.count(17), 0);
        x.forget();
        x.undo();
        x.note(2, false);
        x.change(3, 2);
        Probe.due("so all fit", x.count(17), 11);
    }

    private static void p25Look() {
        NestQuery x = Probe.with("[1,2,3,4]", "[0:2]", "[1:3]", "[1:]", "..");
        // Answers: 0 {1,2}, 1 {2,3}, 2 {2,3,4}, 3 {0,1,2,3,4}: 1 and 4 are of two each, 3 of three.
        Probe.due("the first of the most even", x.look(), 1);
        x.note(1, true);
        Probe.due("of paths 0 and 3", x.count(17), 9);
        Probe.due("root is of one of both", x.look(), 0);
        x.note(0, false);
        Probe.due("one fits", x.count(17), 1);
        Probe.due("none", x.look(), -1);
        x.note(0, true);
        Probe.due("none fits", x.count(17), 0);
        Probe.due("none", x.look(), -1);
        NestQuery y = Probe.with("[1,2]", "..", "..", "..");
        Probe.due("all alike", y.look(), -1);
        Probe.due("path", Probe.path(y, 3, "[1]"), 0);
        Probe.due("one against three", y.look(), 0);
        Probe.due("path", Probe.path(y, 2, "[1]"), 0);
        Probe.due("two against two", y.look(), 0);
        Probe.due("path", Probe.path(y, 0, "[0]"), 0);
        Probe.due("1 of two, 2 of three, 0 of one", y.look(), 1);
        Probe.due("not a refused call", y.count(13) + y.count(14) + y.count(15), 0);
    }

    private static void p26Forget() {
        NestQuery x = Probe.with("[1,2]", "[0]");
        x.forget();
        x.note(2, true);
        Probe.due("none fits", x.count(17), 0);
        x.forget();
        Probe.due("forgotten", x.count(11), 0);
        Probe.due("fits again", x.count(17), 1);
        Probe.due("note anew", x.note(1, true), 1);
    }

    private static void p27Years() {
        NestQuery x = Probe.with("[5,[3,1],{a:2},w]", "..", ".*", "[1]");
        String before = Probe.state(x);
        Probe.nse("another what", () -> x.years(1, 1, 3));
        Probe.nse("another what", () -> x.years(1, 1, -1));
        Probe.nse("ahead of n", () -> x.years(1, 21, 3));
        Probe.iae("n", () -> x.years(1, 21, 0));
        Probe.iae("n", () -> x.years(1, -1, 2));
        Probe.due("no years: things", x.years(1, 0, 0), 8);
        Probe.due("no years: numbers", x.years(1, 0, 1), 11);
        Probe.due("no years: done", x.years(1, 0, 2), 0);
        Probe.due("nothing changed", Probe.state(x), before);
        for (int seed = -40; seed < 40; seed++) {
            for (int n = 1; n <= 20; n += 6) {
                for (int what = 0; what < 3; what++) {
                    yearsAre(seed * 77777777, n, what);
                }
            }
        }
    }

    private static int seed;

    private static int draw(int n) {
        seed = seed * 1103515245 + 12345;
        return (seed >> 16 & 0x7fff) % n;
    }

    /** Years are as their acts, called one by one. */
    private static void yearsAre(int from, int n, int what) {
        String data = "[5,[3,1],{a:2},w,[[9,x],4],-7]";
        NestQuery x = Probe.with(data, "..", null, "...a", "..[1]");
        NestQuery y = Probe.with(data, "..", null, "...a", "..[1]");
        seed = from;
        int done = 0;
        for (int k = 0; k < n; k++) {
            int act = draw(5);
            int answer;
            if (act == 0) {
                int slot = draw(4);
                answer = y.add(slot, draw(21) - 10);
            } else if (act == 4) {
                int thing = draw(y.count(0));
                answer = y.move(thing, draw(y.count(0)), 0);
            } else {
                answer = y.change(draw(4), act - 1);
            }
            done += answer == -1 ? 0 : 1;
        }
        int due = what == 0 ? y.count(0) : what == 1 ? y.count(16) : done;
        Probe.due("years " + from + " " + n + " " + what, x.years(from, n, what), due);
        Probe.due("the tree then", Probe.all(x), Probe.all(y));
        Probe.due("acts kept", x.count(10), done);
        Probe.due("no call was refused", x.count(14), 0);
    }

    private static void p28Image() {
        NestQuery x = Probe.with("[1]", ".*");
        Probe.due("none", x.count(9), -1);
        x.image();
        x.add(0, 1);
        Probe.due("rows", x.count(9), 1);
        x.image();
        Probe.due("in place of another one", x.count(9), 0);
        x.add(0, 1);
        Probe.due("restore", x.restore(), true);
        Probe.due("to the later one", Probe.all(x), "[2]");
        Probe.due("with its act", x.undo(), 0);
        Probe.due("then", Probe.all(x), "[1]");
        Probe.due("an image stays", x.restore(), true);
        Probe.due("to the later one", Probe.all(x), "[2]");
        Probe.due("with its act again", x.count(10), 1);
    }

    private static void p29Restore() {
        NestQuery x = Probe.with("[1,2]", ".*", "[0]");
        Probe.due("there is none", x.restore(), false);
        x.add(0, 1);
        x.note(1, true);
        x.tree(0);
        x.add(3, 1);
        x.note(7, true);
        x.image();
        String before = Probe.state(x);
        x.add(0, 5);
        x.change(1, 2);
        x.note(2, false);
        x.tree(0);
        x.add(3, 1);
        x.note(7, true);
        Probe.due("restore", x.restore(), true);
        Probe.due("all as it was", Probe.state(x), before);
        x.forget();
        x.note(2, true);
        Probe.due("something else is noted", x.count(17), 1);
        x.restore();
        Probe.due("all as it was", Probe.state(x), before);
        x.undo();
        x.forget();
        x.add(1, 7);
        Probe.due("keep", x.keep(), 2);
        Probe.due("path", Probe.path(x, 1, "[1]"), 0);
        Probe.feed(x, "1");
        Probe.due("fault", x.tree(0), 1);
        Probe.feed(x, "1");
        Probe.due("restore again", x.restore(), true);
        Probe.due("the tree", Probe.all(x), "[2,3]");
        Probe.due("acts", x.count(10), 1);
        Probe.due("noted", x.count(11), 1);
        Probe.due("status", x.count(13) * 100 + x.count(14) * 10 + x.count(15), 111);
        Probe.due("paths are not of the image", Probe.answers(x, 1), "2");
        Probe.due("nor what is kept", x.count(8), 2);
        Probe.due("nor the tape", x.count(12), 20);
        Probe.due("undone as before the image", x.undo(), 0);
        Probe.due("the tree", Probe.all(x), "[1,2]");
        full();
    }

    /** An image with all acts that can be kept, and more acts behind it. */
    private static void full() {
        NestQuery x = Probe.with("[0]", ".*");
        for (int k = 0; k < 43; k++) {
            x.add(0, 1);
        }
        x.image();
        for (int k = 0; k < 7; k++) {
            x.add(0, 10);
        }
        x.restore();
        Probe.due("acts", x.count(10), 40);
        for (int k = 39; k >= 0; k--) {
            Probe.due("undo", x.undo(), k);
            Probe.due("then", Probe.all(x), "[" + (k + 3) + "]");
        }
        x.restore();
        Probe.due("as the image again", Probe.all(x), "[43]");
    }
}
