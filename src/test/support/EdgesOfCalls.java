/** The sentences of promises 15 to 29: acts, patches, notes, years, images. */
final class EdgesOfCalls {
    private static final int MOST = Integer.MAX_VALUE;
    private static final int LEAST = Integer.MIN_VALUE;
    private static final int[] NO_PATHS = {3, 4, -1, MOST, LEAST};

    private EdgesOfCalls() {
    }

    static void run() {
        puts();
        putsFaulty();
        putsRefused();
        appends();
        keyLetters();
        keysRefused();
        noKeys();
        adds();
        addsRefused();
        changes();
        changesRefused();
        moves();
        movesRefused();
        keeps();
        keepsNone();
        applies();
        appliesNone();
        undoes();
        undoesNone();
        notes();
        notesRefused();
        looks();
        forgets();
        years();
        yearsOfAnother();
        yearsTooMany();
        images();
        restores();
        restoresNone();
    }

    private static Sentence of(int promise, String quote) {
        return new Sentence("Promise " + promise, quote);
    }

    private static void puts() {
        Sentence s = of(15, "PUT: how many were changed (as below; the tape's first n bytes tell DATA).");
        NestQuery x = Probe.with("[1,[2],{a:3}]", ".*", "..[0]", "", "[2].a");
        s.didOnce(x, "three", () -> Probe.put(x, 0, "w"), 3, "[w,w,w]");
        s.didOnce(x, "two", () -> Probe.put(x, 1, "[]"), 2, "[[],[[]],{a:3}]");
        s.didOnce(x, "ROOT", () -> Probe.put(x, 2, "0"), 1, "0");
        s.didOnce(x, "by a KEY", () -> Probe.put(x, 3, "{a:{}}"), 1, "[1,[2],{a:{a:{}}}]");
        s.didOnce(x, "a like one is changed too", () -> Probe.put(x, 3, "3"), 1, "[1,[2],{a:3}]");
        Probe.feed(x, "123");
        s.didOnce(x, "the first two bytes", () -> x.put(3, 2), 1, "[1,[2],{a:12}]");
        NestQuery y = Probe.with(Probe.ones(59), ".*", "[0]");
        s.didOnce(y, "59 of them", () -> Probe.put(y, 0, "2"), 59, Probe.ones(59).replace('1', '2'));
    }

    private static void putsFaulty() {
        Sentence s = of(15, "-2 (STATUS 0): the text has a FAULT.");
        NestQuery x = Probe.lived();
        s.refusedText(x, "1", () -> Probe.put(x, 0, "[1"), -2, 2);
        s.refusedText(x, "2", () -> Probe.put(x, 0, "1000"), -2, 0);
        s.refusedText(x, "3", () -> Probe.put(x, 0, "{a:1,a:2}"), -2, 5);
        s.refusedText(x, "no bytes", () -> Probe.put(x, 0, ""), -2, 0);
        s.due("no ANSWERS", Probe.path(x, 1, ".q"), 0);
        s.refusedText(x, "where nothing is to be changed", () -> Probe.put(x, 1, "[1"), -2, 2);
        s.did(x, "none", () -> Probe.put(x, 0, "[1]"), 1, "[1]");
    }

    private static void putsRefused() {
        Sentence s = of(15, "NONE (STATUS 1): no such PATH is there (the text isn't read then), nothing is to be changed, it is too much.");
        NestQuery x = Probe.lived();
        s.due("a FAULT", Probe.path(x, 0, "]"), 1);
        for (int slot : NO_PATHS) {
            s.refusedText(x, "path " + slot + ", the text isn't read", () -> Probe.put(x, slot, "[1,"), -1, 0);
            s.refusedText(x, "path " + slot + ", a text of none", () -> x.put(slot, 0), -1, 0);
        }
        s.due("no ANSWERS", Probe.path(x, 1, ".q"), 0);
        s.refusedText(x, "nothing is to be changed", () -> Probe.put(x, 1, "1"), -1, -1);
        NestQuery y = Probe.with("[[[[[[1]]]]],2,3]", "[0][0][0][0][0]", ".*", "[1:]");
        s.didOnce(y, "as deep as can be", () -> Probe.put(y, 0, "[[]]"), 1, "[[[[[[[]]]]]],2,3]");
        s.didOnce(y, "as deep as can be", () -> Probe.put(y, 0, "[[4]]"), 1, "[[[[[[[4]]]]]],2,3]");
        s.refusedText(y, "too deep", () -> Probe.put(y, 0, "[[[4]]]"), -1, -1);
        s.didOnce(y, "58", () -> Probe.put(y, 1, Probe.ones(18)), 3, "[" + Probe.ones(18) + "," + Probe.ones(18) + "," + Probe.ones(18) + "]");
        s.refusedText(y, "61", () -> Probe.put(y, 1, Probe.ones(19)), -1, -1);
        s.didOnce(y, "59", () -> Probe.put(y, 2, Probe.ones(25)), 2, "[[[[[[1]]]]]," + Probe.ones(25) + "," + Probe.ones(25) + "]");
        s.refusedText(y, "61", () -> Probe.put(y, 2, Probe.ones(26)), -1, -1);
        NestQuery z = Probe.with("[1]", "[0]", "");
        s.didOnce(z, "60", () -> Probe.put(z, 0, Probe.ones(58)), 1, "[" + Probe.ones(58) + "]");
        s.refusedText(z, "61", () -> Probe.put(z, 0, Probe.ones(59)), -1, -1);
        s.didOnce(z, "60 in place of all", () -> Probe.put(z, 1, Probe.ones(59)), 1, Probe.ones(59));
    }

    private static void appends() {
        Sentence s = of(16, "APPENDED. -2, NONE likewise.");
        NestQuery x = Probe.with("[[],{a:[1]}]", "..", "[0]", "[1]");
        s.didOnce(x, "three", () -> Probe.append(x, 0, "w"), 3, "[[w],{a:[1,w]},w]");
        s.didOnce(x, "one", () -> Probe.append(x, 1, "{}"), 1, "[[{}],{a:[1]}]");
        s.refusedText(x, "a FAULT", () -> Probe.append(x, 0, "[1"), -2, 2);
        for (int slot : NO_PATHS) {
            s.refusedText(x, "path " + slot, () -> Probe.append(x, slot, "[1,,"), -1, 2);
        }
        s.refusedText(x, "no LIST", () -> Probe.append(x, 2, "1"), -1, -1);
        s.refusedText(x, "a FAULT where there is no LIST", () -> Probe.append(x, 2, "{a:"), -2, 3);
        NestQuery y = Probe.with(Probe.ones(58), "", "[0]");
        s.didOnce(y, "60", () -> Probe.append(y, 0, "1"), 1, Probe.ones(59));
        s.refusedText(y, "61", () -> Probe.append(y, 0, "[1]"), -1, -1);
        NestQuery z = Probe.with("[[[[[[[]]]]]],[]]", "..");
        s.didOnce(z, "as deep as can be", () -> Probe.append(z, 0, "[]"), 8, "[[[[[[[[]],[]],[]],[]],[]],[]],[[]],[]]");
        s.refusedText(z, "too deep", () -> Probe.append(z, 0, "[1]"), -1, -1);
    }

    private static void keyLetters() {
        Sentence s = of(17, "By a KEY (letters by 5 bits each, a being 1, the last one lowest).");
        NestQuery x = Probe.with("{a:1}", "");
        s.didOnce(x, "a", () -> x.key(0, 1, Probe.feed(x, "2")), 1, "{a:2}");
        s.didOnce(x, "z", () -> x.key(0, 26, Probe.feed(x, "2")), 1, "{a:1,z:2}");
        s.didOnce(x, "ab", () -> x.key(0, 1 << 5 | 2, Probe.feed(x, "2")), 1, "{a:1,ab:2}");
        s.didOnce(x, "ba", () -> x.key(0, 2 << 5 | 1, Probe.feed(x, "2")), 1, "{a:1,ba:2}");
        s.didOnce(x, "aa", () -> x.key(0, 33, Probe.feed(x, "2")), 1, "{a:1,aa:2}");
        s.didOnce(x, "zzzzzz", () -> x.key(0, 26 * 34636833, Probe.feed(x, "2")), 1, "{a:1,zzzzzz:2}");
        s.didOnce(x, "aaaaaa", () -> x.key(0, 34636833, Probe.feed(x, "2")), 1, "{a:1,aaaaaa:2}");
        s.didOnce(x, "abcdef", () -> x.key(0, ((((1 * 32 + 2) * 32 + 3) * 32 + 4) * 32 + 5) * 32 + 6, Probe.feed(x, "2")), 1,
                "{a:1,abcdef:2}");
    }

    private static void keysRefused() {
        Sentence s = of(17, "-2, NONE likewise;");
        NestQuery x = Probe.with("{a:1,b:{c:2},d:[]}", "..", "", ".d");
        s.didOnce(x, "two", () -> Probe.key(x, 0, "c", "w"), 2, "{a:1,b:{c:w},d:[],c:w}");
        s.refusedText(x, "a FAULT", () -> Probe.key(x, 0, "c", "{a:1,a:2}"), -2, 5);
        for (int slot : NO_PATHS) {
            s.refusedText(x, "path " + slot, () -> Probe.key(x, slot, "c", "[1,,"), -1, 5);
        }
        s.refusedText(x, "no MAP", () -> Probe.key(x, 2, "c", "1"), -1, -1);
        s.refusedText(x, "a FAULT where there is no MAP", () -> Probe.key(x, 2, "c", "w w"), -2, 2);
        String full = Probe.ones(57).replace("1]", "{}]");
        NestQuery y = Probe.with(full, "[-1]");
        s.didOnce(y, "60", () -> Probe.key(y, 0, "k", "[1]"), 1, full.replace("{}", "{k:[1]}"));
        s.refusedText(y, "61", () -> Probe.key(y, 0, "k", "[1,1]"), -1, -1);
        NestQuery z = Probe.with("{a:{a:{a:{a:{a:{a:{b:1}}}}}}}", ".a.a.a.a.a.a", "..");
        s.didOnce(z, "as deep as can be", () -> Probe.key(z, 0, "b", "[]"), 1, "{a:{a:{a:{a:{a:{a:{b:[]}}}}}}}");
        s.refusedText(z, "too deep", () -> Probe.key(z, 0, "b", "[1]"), -1, -1);
        s.didOnce(z, "not too deep, as it takes the place of all", () -> Probe.key(z, 1, "a", "[[1]]"), 7, "{a:[[1]]}");
        s.didOnce(z, "nor too much", () -> Probe.key(z, 1, "a", Probe.ones(58)), 7, "{a:" + Probe.ones(58) + "}");
        s.refusedText(z, "too much", () -> Probe.key(z, 1, "a", Probe.ones(59)), -1, -1);
        NestQuery u = Probe.with("{a:{a:{}}}", "..");
        s.didOnce(u, "the last one within is a MAP", () -> Probe.key(u, 0, "a", Probe.ones(58)), 3, "{a:" + Probe.ones(58) + "}");
        NestQuery v = Probe.with("{b:{a:{}}}", "..");
        s.didOnce(v, "60", () -> Probe.key(v, 0, "a", Probe.ones(28)), 3, "{b:{a:" + Probe.ones(28) + "},a:" + Probe.ones(28) + "}");
        s.refusedText(v, "62", () -> Probe.key(v, 0, "a", Probe.ones(29)), -1, -1);
    }

    private static void noKeys() {
        Sentence s = of(17, "NONE also: that is no KEY (the text isn't read then).");
        NestQuery x = Probe.with("{a:1}", "");
        int[] bad = {0, -1, 27, 28, 31, 32, 1 << 5 | 27, 27 << 5 | 1, 1 << 10, 1 << 10 | 1, 1 << 25, 1 << 30, 1 << 30 | 34636833,
            26 * 34636833 + 1, 26 * 34636833 + (1 << 25), 26 * 34636833 | 1 << 31, MOST, LEAST};
        for (int key : bad) {
            s.refusedText(x, "no KEY " + key, () -> x.key(0, key, Probe.feed(x, "[1,")), -1, -1);
            s.refusedText(x, "no KEY " + key + ", no bytes", () -> x.key(0, key, 0), -1, -1);
        }
        s.due("a FAULT", Probe.put(x, 0, "[1,"), -2);
        s.refusedText(x, "no KEY, the FAULT is of the latest that was read", () -> x.key(0, 27, Probe.feed(x, "2")), -1, 3);
        s.did(x, "a KEY", () -> x.key(0, 26, Probe.feed(x, "2")), 1, "{a:1,z:2}");
    }

    private static void adds() {
        Sentence s = of(18, "ADDED.");
        NestQuery x = Probe.with("[1,[2,w],{a:-3}]", "..", ".*", "[2].a");
        s.didOnce(x, "three", () -> x.add(0, 10), 3, "[11,[12,w],{a:7}]");
        s.didOnce(x, "one", () -> x.add(1, -1), 1, "[0,[2,w],{a:-3}]");
        s.didOnce(x, "by a KEY", () -> x.add(2, 999), 1, "[1,[2,w],{a:996}]");
        s.didOnce(x, "by a KEY", () -> x.add(2, -999), 1, "[1,[2,w],{a:-999}]");
        NestQuery z = Probe.with("5", "");
        s.didOnce(z, "ROOT", () -> z.add(0, -6), 1, "-1");
        NestQuery y = Probe.with(Probe.ones(59), "..");
        s.didOnce(y, "59", () -> y.add(0, 1), 59, Probe.ones(59).replace('1', '2'));
        Probe.feed(y, "1");
        s.didOnce(y, "the tape stays", () -> y.add(0, 1) + y.count(12), 79, Probe.ones(59).replace('1', '2'));
    }

    private static void addsRefused() {
        Sentence s = of(18, "NONE (STATUS 1): no such PATH is there, not -999 to 999, nothing is to be changed.");
        NestQuery x = Probe.with("[0,w,[]]", "[0]", "[1:]", "[3]");
        Probe.feed(x, "1");
        for (int slot : NO_PATHS) {
            s.refused(x, "path " + slot, () -> x.add(slot, 1), 1);
        }
        s.didOnce(x, "999", () -> x.add(0, 999), 1, "[999,w,[]]");
        s.didOnce(x, "-999", () -> x.add(0, -999), 1, "[-999,w,[]]");
        for (int v : new int[] {1000, -1000, MOST, LEAST}) {
            s.refused(x, "add " + v, () -> x.add(0, v), 1);
        }
        s.refused(x, "no NUMBERS", () -> x.add(1, 1), 1);
        s.refused(x, "no ANSWERS", () -> x.add(2, 1), 1);
    }

    private static void changes() {
        Sentence s = of(19, "TURNED (what 0), SORTED (1), DROPPED (2): how many ANSWERS are LISTS or MAPS (0), LISTS (1), any (2).");
        NestQuery x = Probe.with("[2,[4,3],{b:1,a:[6,5]},w]", "..", ".*", "[0]", "[1:3]");
        s.didOnce(x, "TURNED, all", () -> x.change(0, 0), 4, "[w,{a:[5,6],b:1},[3,4],2]");
        s.didOnce(x, "SORTED, all", () -> x.change(0, 1), 3, "[2,w,[3,4],{b:1,a:[5,6]}]");
        s.refused(x, "DROPPED, all", () -> x.change(0, 2), 1);
        s.didOnce(x, "TURNED, those at once within", () -> x.change(1, 0), 2, "[2,[3,4],{a:[6,5],b:1},w]");
        s.didOnce(x, "SORTED, those at once within", () -> x.change(1, 1), 1, "[2,[3,4],{b:1,a:[6,5]},w]");
        s.didOnce(x, "DROPPED, those at once within", () -> x.change(1, 2), 4, "[]");
        s.refused(x, "TURNED, a NUMBER", () -> x.change(2, 0), 1);
        s.refused(x, "SORTED, a NUMBER", () -> x.change(2, 1), 1);
        s.didOnce(x, "DROPPED, a NUMBER", () -> x.change(2, 2), 1, "[[4,3],{b:1,a:[6,5]},w]");
        s.didOnce(x, "TURNED, a LIST and a MAP", () -> x.change(3, 0), 2, "[2,[3,4],{a:[6,5],b:1},w]");
        s.didOnce(x, "SORTED, a LIST and a MAP", () -> x.change(3, 1), 1, "[2,[3,4],{b:1,a:[6,5]},w]");
        s.didOnce(x, "DROPPED, a LIST and a MAP", () -> x.change(3, 2), 2, "[2,w]");
        NestQuery y = Probe.with(Probe.ones(59), ".*", "");
        s.didOnce(y, "59 DROPPED", () -> y.change(0, 2), 59, "[]");
        s.didOnce(y, "59 SORTED", () -> y.change(1, 1), 1, Probe.ones(59));
    }

    private static void changesRefused() {
        Sentence s = of(19, "NONE (STATUS 1): no such PATH is there, another what, nothing is to be changed; DROPPED also: ROOT is an ANSWER.");
        NestQuery x = Probe.with("[[2,1],w]", "[0]", "", ".q");
        Probe.feed(x, "1");
        for (int slot : NO_PATHS) {
            for (int what = -1; what < 4; what++) {
                int which = what;
                s.refused(x, "path " + slot, () -> x.change(slot, which), 1);
            }
        }
        for (int what : new int[] {3, -1, MOST, LEAST}) {
            s.refused(x, "change " + what, () -> x.change(0, what), 1);
        }
        for (int what = 0; what < 3; what++) {
            int which = what;
            s.refused(x, "no ANSWERS for " + what, () -> x.change(2, which), 1);
        }
        s.didOnce(x, "ROOT may be TURNED", () -> x.change(1, 0), 1, "[w,[2,1]]");
        s.didOnce(x, "and SORTED", () -> x.change(1, 1), 1, "[w,[2,1]]");
        s.refused(x, "not DROPPED", () -> x.change(1, 2), 1);
        NestQuery y = Probe.with("[[2,1],w]", "..", "...*");
        s.refused(y, "ROOT and others, not DROPPED", () -> y.change(0, 2), 1);
        s.didOnce(y, "all but ROOT DROPPED", () -> y.change(1, 2), 4, "[]");
    }

    private static void moves() {
        Sentence s = of(20, "MOVED behind all of a LIST (key 0), of a MAP (a KEY that it hasn't): its number then.");
        // 0 [1 2:[3] 4:{a 5 b 6:[7]} 8]
        NestQuery x = Probe.with("[1,[3],{a:5,b:[7]},8]");
        s.didOnce(x, "ahead of the LIST", () -> x.move(1, 2, 0), 3, "[[3,1],{a:5,b:[7]},8]");
        s.didOnce(x, "behind the LIST", () -> x.move(8, 2, 0), 4, "[1,[3,8],{a:5,b:[7]}]");
        s.didOnce(x, "a LIST to a LIST within what is behind it", () -> x.move(2, 6, 0), 6, "[1,{a:5,b:[7,[3]]},8]");
        s.didOnce(x, "a MAP to a LIST ahead of it", () -> x.move(4, 2, 0), 4, "[1,[3,{a:5,b:[7]}],8]");
        s.didOnce(x, "to ROOT", () -> x.move(7, 0, 0), 8, "[1,[3],{a:5,b:[]},8,7]");
        s.didOnce(x, "one by a KEY to a LIST: it has none then", () -> x.move(5, 2, 0), 4, "[1,[3,5],{b:[7]},8]");
        s.didOnce(x, "to a MAP", () -> x.move(1, 4, 26), 7, "[[3],{a:5,b:[7],z:1},8]");
        s.didOnce(x, "from behind to a MAP", () -> x.move(8, 4, 3), 8, "[1,[3],{a:5,b:[7],c:8}]");
        s.didOnce(x, "within its MAP by another KEY", () -> x.move(5, 4, 3), 7, "[1,[3],{b:[7],c:5},8]");
        s.didOnce(x, "a LIST within its LIST", () -> x.move(2, 0, 0), 7, "[1,{a:5,b:[7]},8,[3]]");
        s.didOnce(x, "the last one within its LIST", () -> x.move(8, 0, 0), 8, "[1,[3],{a:5,b:[7]},8]");
        NestQuery y = Probe.with("{a:1,b:{}}");
        s.did(y, "the KEY goes along", () -> y.move(1, 2, 1), 2, "{b:{a:1}}");
        s.did(y, "and is free there", () -> y.move(2, 0, 1), 2, "{b:{},a:1}");
        s.did(y, "a MAP to its own end by another KEY", () -> y.move(1, 0, 3), 2, "{a:1,c:{}}");
        NestQuery z = Probe.with(Probe.ones(58).replace("1]", "[]]"));
        s.due("60 stay as many", z.move(1, 58, 0) * 100 + z.count(0), 5859);
    }

    private static void movesRefused() {
        Sentence s = of(20, "NONE (STATUS 1): no such THINGS, ROOT, it would lie within itself, it can't be so, it is too much.");
        // 0 [1 2:[3 4:[]] 5:{a 6} 7:w]
        NestQuery x = Probe.with("[1,[3,[]],{a:6},w]");
        Probe.feed(x, "1");
        for (int thing : new int[] {8, -1, MOST, LEAST}) {
            s.refused(x, "no such THING", () -> x.move(thing, 2, 0), 1);
            s.refused(x, "to no such THING", () -> x.move(1, thing, 0), 1);
            s.refused(x, "neither", () -> x.move(thing, thing, 0), 1);
        }
        s.refused(x, "ROOT", () -> x.move(0, 2, 0), 1);
        s.refused(x, "ROOT to itself", () -> x.move(0, 0, 0), 1);
        s.refused(x, "to itself", () -> x.move(2, 2, 0), 1);
        s.refused(x, "to one within itself", () -> x.move(2, 4, 0), 1);
        s.refused(x, "a MAP to itself", () -> x.move(5, 5, 2), 1);
        s.refused(x, "to a NUMBER", () -> x.move(7, 1, 0), 1);
        s.refused(x, "to a NUMBER by a KEY", () -> x.move(7, 1, 1), 1);
        s.refused(x, "to a WORD", () -> x.move(1, 7, 0), 1);
        s.refused(x, "to a LIST by a KEY", () -> x.move(1, 2, 1), 1);
        s.refused(x, "to a MAP without a KEY", () -> x.move(1, 5, 0), 1);
        s.refused(x, "by a KEY that it has", () -> x.move(1, 5, 1), 1);
        s.refused(x, "by its own KEY", () -> x.move(6, 5, 1), 1);
        for (int key : new int[] {27, 32, -1, 1 << 30, MOST, LEAST}) {
            s.refused(x, "by what is no KEY", () -> x.move(1, 5, key), 1);
            s.refused(x, "to a LIST by what is no KEY", () -> x.move(1, 2, key), 1);
        }
        s.didOnce(x, "by a KEY that it hasn't", () -> x.move(1, 5, 2), 6, "[[3,[]],{a:6,b:1},w]");
        // 0 [1:[2:[3:[4:[5:[6:[]]]]]] 7:[] 8:[9:1] 10:5]
        NestQuery y = Probe.with("[[[[[[[]]]]]],[],[1],5]");
        s.didOnce(y, "as deep as can be", () -> y.move(10, 6, 0), 7, "[[[[[[[5]]]]]],[],[1]]");
        s.didOnce(y, "an empty one as deep", () -> y.move(7, 6, 0), 7, "[[[[[[[[]]]]]]],[1],5]");
        s.refused(y, "too deep", () -> y.move(8, 6, 0), 1);
        s.didOnce(y, "one less deep", () -> y.move(8, 5, 0), 7, "[[[[[[[],[1]]]]]],[],5]");
    }

    private static void keeps() {
        Sentence s = of(21, "THE PATCH from the image to THE TREE is KEPT (in place of another one): ROWS.");
        NestQuery x = Probe.with("[1,2]", "[0]", ".*", "");
        x.image();
        s.due("nothing has changed: no ROWS", x.keep(), 0);
        s.due("ROWS", x.count(8), 0);
        s.due("both", x.add(1, 1), 2);
        s.due("two ROWS", x.keep(), 2);
        s.due("ROWS", Probe.rows(x), "=[0] 2 | =[1] 3");
        s.due("one of them again", x.add(0, -1), 1);
        s.due("what is KEPT stays", Probe.rows(x), "=[0] 2 | =[1] 3");
        s.due("one ROW", x.keep(), 1);
        s.due("in place of the others", Probe.rows(x), "=[1] 3");
        s.nse(x, "there is no second one", () -> x.row(1, 0));
        s.due("no ROWS", x.restore(), true);
        s.due("in place of that one", x.keep(), 0);
        s.due("ROWS", Probe.rows(x), "");
        s.due("the tree, ACTS and STATUS stay", Probe.all(x) + x.count(10) + Probe.status(x), "[1,2]00 0 0");
        NestQuery y = Probe.patch(byKeys('a'), byKeys('k'));
        s.due("as many ROWS as can be", y.keep(), 118);
        s.due("the first one", Probe.rowText(y, 0), "-.aa");
        s.due("the last that GOES", Probe.rowText(y, 58), "-.cg");
        s.due("the first that COMES", Probe.rowText(y, 59), "+.ka 1");
        s.due("the last one", Probe.rowText(y, 117), "+.mg 1");
        s.did(y, "its turn", () -> y.apply(true), 118, turnedRound(byKeys('a')));
        s.did(y, "laid on", () -> y.apply(false), 118, byKeys('k'));
    }

    /** A MAP of 59 by KEYS of two letters, from one on. */
    private static String byKeys(char first) {
        StringBuilder b = new StringBuilder("{");
        for (int k = 0; k < 59; k++) {
            b.append(k == 0 ? "" : ",").append((char) (first + k / 26)).append((char) ('a' + k % 26)).append(":1");
        }
        return b.append('}').toString();
    }

    /** What went comes behind all, the last one first. */
    private static String turnedRound(String map) {
        java.util.List<String> parts = java.util.Arrays.asList(map.substring(1, map.length() - 1).split(","));
        java.util.Collections.reverse(parts);
        return "{" + String.join(",", parts) + "}";
    }

    private static void keepsNone() {
        Sentence s = of(21, "NONE: there is no image.");
        NestQuery x = Probe.with("[1]", "[0]");
        s.refused(x, "none at first", () -> x.keep(), -1);
        x.image();
        s.due("one", x.add(0, 1) + x.keep(), 2);
        s.due("the image is gone", Probe.tree(x, "[1]"), 0);
        s.refused(x, "none then", () -> x.keep(), -1);
        s.due("what is KEPT stays", Probe.rows(x), "=[0] 2");
    }

    private static void applies() {
        Sentence s = of(22, "What is KEPT is LAID ON, or its turn: ROWS.");
        NestQuery x = Probe.patch("{a:1,b:[2],c:3}", "{a:[],b:[2,4],d:5}");
        s.due("rows", Probe.rows(x), "=.a [] | +.b[1] 4 | -.c | +.d 5");
        s.did(x, "its turn", () -> x.apply(true), 4, "{a:1,b:[2],c:3}");
        s.did(x, "it", () -> x.apply(false), 4, "{a:[],b:[2,4],d:5}");
        s.did(x, "its turn again", () -> x.apply(true), 4, "{a:1,b:[2],c:3}");
        s.due("undone", x.undo(), 3);
        s.due("the tree then", Probe.all(x), "{a:[],b:[2,4],d:5}");
        s.due("what is KEPT stays", x.count(8), 4);
        s.due("the image too", x.count(9), 4);
    }

    private static void appliesNone() {
        Sentence s = of(22, "NONE (STATUS 1): there are no ROWS, it doesn't fit, it is too much.");
        NestQuery x = Probe.with("[1]", "", "[0]");
        Probe.feed(x, "1");
        s.refused(x, "nothing is KEPT", () -> x.apply(false), 1);
        s.refused(x, "nor its turn", () -> x.apply(true), 1);
        x.image();
        s.due("no ROWS", x.keep(), 0);
        s.refused(x, "no ROWS", () -> x.apply(false), 1);
        s.refused(x, "no ROWS to turn", () -> x.apply(true), 1);
        s.due("one", x.add(1, 1) + x.keep(), 2);
        s.refused(x, "it is so already", () -> x.apply(false), 1);
        s.did(x, "its turn", () -> x.apply(true), 1, "[1]");
        s.refused(x, "its turn again", () -> x.apply(true), 1);
        NestQuery y = Probe.patch("{}", "{a:" + Probe.ones(29) + "}");
        s.due("tree", Probe.tree(y, "{b:" + Probe.ones(28) + "}"), 0);
        s.didOnce(y, "60", () -> y.apply(false), 1, "{b:" + Probe.ones(28) + ",a:" + Probe.ones(29) + "}");
        s.due("tree", Probe.tree(y, "{b:" + Probe.ones(29) + "}"), 0);
        s.refused(y, "61", () -> y.apply(false), 1);
        s.refused(y, "what GOES isn't there", () -> y.apply(true), 1);
    }

    private static void undoes() {
        Sentence s = of(23, "The last ACT is UNDONE: how many are left.");
        NestQuery x = Probe.with("[1]", "", "[0]");
        s.due("acts", Probe.append(x, 0, "2") + x.add(1, 5) + x.change(0, 0), 3);
        s.due("the tree", Probe.all(x), "[2,6]");
        x.note(0, true);
        s.due("TURNED", x.undo(), 2);
        s.due("the tree", Probe.all(x), "[6,2]");
        s.refused(x, "a refused one is none", () -> x.add(3, 1), 1);
        s.due("ADDED", x.undo(), 1);
        s.due("the tree", Probe.all(x), "[1,2]");
        s.did(x, "another one", () -> x.add(1, 7), 1, "[8,2]");
        s.due("that one", x.undo(), 1);
        s.due("APPENDED", x.undo(), 0);
        s.due("the tree", Probe.all(x), "[1]");
        s.due("what is NOTED stays, STATUS too", x.count(11) + " " + Probe.status(x), "1 0 1 0");
        s.due("PATHS too", x.count(6), 3);
    }

    private static void undoesNone() {
        Sentence s = of(23, "NONE: there is none.");
        NestQuery x = Probe.with("[1]", "[0]");
        s.refused(x, "none at first", () -> x.undo(), -1);
        s.due("one", x.add(0, 1) + x.undo(), 1);
        s.refused(x, "none is left", () -> x.undo(), -1);
        s.due("one", x.add(0, 1), 1);
        s.due("tree", Probe.tree(x, "[3]"), 0);
        s.refused(x, "none behind tree", () -> x.undo(), -1);
        x.image();
        s.due("one", x.add(0, 1), 1);
        s.due("as the image", x.restore(), true);
        s.refused(x, "none as in the image", () -> x.undo(), -1);
        s.due("told", Probe.all(x), "[3]");
    }

    private static void notes() {
        Sentence s = of(24, "NOTED: how much is.");
        NestQuery x = Probe.with("[1]", "[0]", "");
        s.due("one", x.note(1, true), 1);
        s.due("those that fit", x.count(17), 1);
        s.due("the same again", x.note(1, true), 2);
        s.due("ROOT isn't", x.note(0, false), 3);
        s.due("those that fit", x.count(17), 1);
        s.due("what can't be so", x.note(0, true), 4);
        s.due("those that fit", x.count(17), 0);
        s.due("up to 8", x.note(0, true) + x.note(0, true) + x.note(0, true), 18);
        s.due("8", x.note(1, false), 8);
        s.due("STATUS", Probe.status(x), "0 0 0");
    }

    private static void notesRefused() {
        Sentence s = of(24, "NONE (STATUS 2): there are 8, no such THING.");
        NestQuery x = Probe.with("[1]", "[0]", "");
        Probe.feed(x, "1");
        for (int thing : new int[] {2, -1, 60, 64, MOST, LEAST}) {
            s.refused(x, "no such THING", () -> x.note(thing, true), 2);
            s.refused(x, "no such THING", () -> x.note(thing, false), 2);
        }
        for (int k = 1; k <= 8; k++) {
            s.due("note " + k, x.note(1, true), k);
        }
        s.refused(x, "there are 8", () -> x.note(1, true), 2);
        s.refused(x, "there are 8, and no such THING", () -> x.note(2, true), 2);
        x.forget();
        s.due("anew", x.note(1, true), 1);
    }

    private static void looks() {
        Sentence s = of(25, "LOOK NEXT; NONE: none.");
        NestQuery x = new NestQuery();
        s.refused(x, "no PATHS", () -> x.look(), -1);
        s.due("one PATH", Probe.tree(x, "[1,2]") + Probe.path(x, 0, "[0]"), 0);
        s.refused(x, "one PATH alone", () -> x.look(), -1);
        s.due("another one", Probe.path(x, 3, "[1]"), 0);
        s.due("the first that divides them", x.look(), 1);
        x.note(2, true);
        s.refused(x, "one fits", () -> x.look(), -1);
        x.forget();
        s.due("the last THING alone divides them", Probe.path(x, 0, "[:1]") + Probe.path(x, 3, "[:]") + x.look(), 2);
        s.due("like ones", Probe.path(x, 0, "[:]"), 0);
        s.refused(x, "none divides them", () -> x.look(), -1);
    }

    private static void forgets() {
        Sentence s = of(26, "All that is NOTED is forgotten.");
        NestQuery x = Probe.lived();
        String status = Probe.status(x);
        x.note(0, true);
        s.due("two", x.count(11), 2);
        x.forget();
        s.due("none", x.count(11), 0);
        s.due("all fit", x.count(17), 7);
        s.due("all else stays", Probe.all(x) + x.count(8) + x.count(9) + x.count(10) + Probe.status(x), "[7,[2,{k:w}],8]111" + status);
        x.forget();
        s.due("none", x.count(11), 0);
        for (int k = 1; k <= 8; k++) {
            s.due("8 anew", x.note(0, true), k);
        }
        x.forget();
        s.due("one anew", x.note(0, false), 1);
        s.due("restored with what the image keeps", x.restore(), true);
        s.due("none", x.count(11), 0);
    }

    private static void years() {
        Sentence s = of(27, "YEARS: THINGS (what 0), NUMBERS (1), how many were done (2).");
        for (int what = 0; what < 3; what++) {
            NestQuery x = Probe.with("[5,[3,1],{a:2},w]", "..", ".*", "[1]", "[3]");
            Probe.feed(x, "1");
            // 4: THING 5 to 2; then 3 of path 2.
            s.due("years " + what, x.years(22, 2, what), what == 0 ? 3 : what == 1 ? 5 : 2);
            s.due("the tree", Probe.all(x), "[5,w]");
            s.due("the tape stays", x.count(12), 20);
            s.due("undone", x.undo(), 1);
            s.due("the tree", Probe.all(x), "[5,[3,1,{a:2}],w]");
            s.due("undone", x.undo(), 0);
            s.due("the tree", Probe.all(x), "[5,[3,1],{a:2},w]");
        }
        NestQuery y = Probe.with("[7]");
        s.due("no years", y.years(22, 0, 0) * 100 + y.years(22, 0, 1) * 10 + y.years(22, 0, 2), 270);
        s.due("nothing happens", Probe.all(y) + y.count(10), "[7]0");
    }

    private static void yearsOfAnother() {
        Sentence s = of(27, "NoSuchElementException: another what.");
        NestQuery x = Probe.lived();
        for (int what : new int[] {3, -1, MOST, LEAST}) {
            for (int n : new int[] {0, 1, 20, 21, -1, MOST, LEAST}) {
                s.nse(x, "years " + n + " " + what, () -> x.years(1, n, what));
            }
        }
    }

    private static void yearsTooMany() {
        Sentence s = of(27, "IllegalArgumentException (behind that): n.");
        NestQuery x = Probe.lived();
        for (int n : new int[] {21, -1, 22, MOST, LEAST}) {
            for (int what = 0; what < 3; what++) {
                int which = what;
                s.iae(x, "years " + n, () -> x.years(1, n, which));
            }
        }
        s.due("20", x.years(1, 20, 2) >= 0, true);
        s.due("0", x.years(1, 0, 2), 0);
    }

    private static void images() {
        Sentence s = of(28, "AN IMAGE is kept, in place of another one.");
        NestQuery x = Probe.with("[1]", "[0]");
        s.due("none", x.count(9), -1);
        x.image();
        s.due("one", x.count(9), 0);
        s.due("an ACT", x.add(0, 1), 1);
        s.due("a ROW", x.count(9), 1);
        x.image();
        s.due("in its place", x.count(9), 0);
        s.due("an ACT", x.add(0, 1), 1);
        s.due("restored", x.restore(), true);
        s.due("to the later one", Probe.all(x), "[2]");
        s.due("with its ACT", x.undo(), 0);
        s.due("the tree", Probe.all(x), "[1]");
        s.due("nothing else is changed", Probe.status(x) + x.count(8) + x.count(6), "0 0 001");
    }

    private static void restores() {
        Sentence s = of(29, "It is as the IMAGE again: true.");
        NestQuery x = Probe.lived();
        x.image();
        String seen = Probe.seen(x);
        s.due("ACTS", x.add(1, 1) + x.undo() + x.undo(), 3);
        x.forget();
        s.due("notes", x.note(0, false) + x.note(99, true), 0);
        s.due("texts", x.tree(0) + x.add(3, 0), 0);
        s.due("restored", x.restore(), true);
        s.due("as the image", Probe.seen(x), seen);
        s.due("STATUS", Probe.status(x), "1 1 1");
        s.due("restored again", x.restore(), true);
        s.due("as the image", Probe.seen(x), seen);
        s.due("the ACT of the image", x.undo(), 0);
        s.due("the tree ahead of it", Probe.all(x), "[7,[2,{k:w}]]");
        // PATHS, what is KEPT, the tape and the FAULT are not of it.
        s.due("another path", Probe.path(x, 3, ".."), 0);
        s.due("other ROWS", x.keep(), 1);
        s.due("a FAULT", Probe.tree(x, "[1,"), 1);
        Probe.feed(x, "1");
        s.due("restored", x.restore(), true);
        s.due("PATHS", x.count(6), 15);
        s.due("ROWS", Probe.rows(x), "-[2]");
        s.due("the tape", x.count(12), 20);
        s.due("the FAULT", x.fault(), 3);
        fortyOfThem(s);
    }

    private static void fortyOfThem(Sentence s) {
        NestQuery x = Probe.with("[0]", "[0]");
        for (int k = 0; k < 42; k++) {
            s.due("act", x.add(0, 1), 1);
        }
        x.image();
        for (int k = 0; k < 41; k++) {
            s.due("act", x.add(0, -1), 1);
        }
        s.due("restored", x.restore(), true);
        s.due("ACTS", x.count(10), 40);
        for (int k = 39; k >= 0; k--) {
            s.due("undone", x.undo(), k);
            s.due("the tree", Probe.all(x), "[" + (k + 2) + "]");
        }
        s.due("restored", x.restore(), true);
        s.due("the tree", Probe.all(x) + x.count(10), "[42]40");
    }

    private static void restoresNone() {
        Sentence s = of(29, "False: there is none.");
        NestQuery x = Probe.with("[1]", "[0]");
        s.due("an ACT, a note", x.add(0, 1) + x.note(0, true), 2);
        String seen = Probe.seen(x);
        s.due("none at first", x.restore(), false);
        s.due("nothing changes", Probe.seen(x) + Probe.status(x), seen + "0 0 0");
        x.image();
        s.due("one", x.restore(), true);
        s.due("tree", Probe.tree(x, "[5]"), 0);
        s.due("none then", x.restore(), false);
        s.due("nothing changes", Probe.all(x), "[5]");
    }
}
