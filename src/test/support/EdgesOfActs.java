/** The sentences of the second part of the Terms: answers, conditions, what is like, acts. */
final class EdgesOfActs {
    private static final String PART = "2";

    private EdgesOfActs() {
    }

    static void run() {
        pathsThere();
        rootAtFirst();
        byKey();
        byEach();
        byAllWithin();
        byPlace();
        byStretch();
        byFilter();
        eachOnce();
        joined();
        littleLeads();
        littleAlone();
        littleWithSign();
        wordsLess();
        likeValues();
        likeLists();
        likeMaps();
        fortyActs();
        puts();
        appends();
        keys();
        adds();
        turns();
        sorts();
        drops();
        foundFirst();
        moves();
        undone();
        nothingHappens();
    }

    private static Sentence of(String quote) {
        return new Sentence(PART, quote);
    }

    private static void pathsThere() {
        Sentence s = of("PATHS 0 to 3 (none at first).");
        NestQuery x = new NestQuery();
        s.due("none at first", x.count(6), 0);
        for (int slot = 0; slot < 4; slot++) {
            int one = slot;
            s.nse(x, "none at first", () -> x.answer(one, -1));
            s.nse(x, "none at first", () -> x.steps(one, -1));
            s.due("path " + slot, x.path(slot, 0), 0);
            s.due("PATHS that are there", x.count(6), (2 << slot) - 1);
        }
        s.nse(x, "path 4", () -> x.path(4, 0));
        s.nse(x, "path -1", () -> x.path(-1, 0));
        s.nse(x, "answers of 4", () -> x.answer(4, -1));
        s.nse(x, "answers of -1", () -> x.answer(-1, -1));
        s.refused(x, "add 4", () -> x.add(4, 1), 1);
        s.refused(x, "add -1", () -> x.add(-1, 1), 1);
    }

    private static void rootAtFirst() {
        Sentence s = of("ANSWERS of a PATH: at first ROOT;");
        for (String data : new String[] {"[1,[2]]", "{}", "5", "w"}) {
            s.answers(data, "", "0");
        }
    }

    private static void byKey() {
        Sentence s = of("STEP by STEP, of each THING: by a KEY what a MAP has by it;");
        s.answers("{a:1,b:{a:2}}", ".a", "1");
        s.answers("{a:1,b:{a:2}}", ".b", "2");
        s.answers("{a:1,b:{a:2}}", ".b.a", "3");
        s.answers("{a:1,b:{a:2}}", ".c", "");
        s.answers("{a:1,b:{a:2}}", ".c.a", "");
        s.answers("{ab:1}", ".a", "");
        s.answers("{a:1}", ".ab", "");
        s.answers("{a:1}", ".aa", "");
        s.answers("{}", ".a", "");
        s.answers("[{a:1}]", ".a", "");
        s.answers("[a]", ".a", "");
        s.answers("a", ".a", "");
        s.answers("{abcdef:1,abcdeg:2}", ".abcdef", "1");
        s.answers("{abcdef:1,abcdeg:2}", ".abcdeg", "2");
    }

    private static void byEach() {
        Sentence s = of("by * all that are at once within it;");
        s.answers("[1,[2,3],{a:4}]", ".*", "1,2,5");
        s.answers("{a:[1],b:2}", ".*", "1,3");
        s.answers("[1,[2,3],{a:4}]", ".*.*", "3,4,6");
        s.answers("[]", ".*", "");
        s.answers("{}", ".*", "");
        s.answers("5", ".*", "");
        s.answers("w", ".*", "");
        s.answers("[1]", ".*.*", "");
    }

    private static void byAllWithin() {
        Sentence s = of("by .. it and all within it;");
        s.answers("[1,[2,{a:3}]]", "..", "0,1,2,3,4,5");
        s.answers("[1,[2,{a:3}]]", "[1]..", "2,3,4,5");
        s.answers("[1,[2,{a:3}],4]", "[1][1]..", "4,5");
        s.answers("5", "..", "0");
        s.answers("[]", "..", "0");
        s.answers("[1]", "[1]..", "");
        NestQuery x = Probe.with(Probe.ones(59), "..");
        s.due("all 60", x.answer(0, -1), 60);
        s.due("the last one", x.answer(0, 59), 59);
    }

    private static void byPlace() {
        Sentence s = of("by a PLACE what a LIST has there (0 on; below 0 from its end, -1 the last);");
        String three = "[7,8,9]";
        s.answers(three, "[0]", "1");
        s.answers(three, "[2]", "3");
        s.answers(three, "[3]", "");
        s.answers(three, "[999]", "");
        s.answers(three, "[-1]", "3");
        s.answers(three, "[-3]", "1");
        s.answers(three, "[-4]", "");
        s.answers(three, "[-999]", "");
        s.answers(three, "[-0]", "1");
        s.answers("[[1,2],[3]]", "[-1]", "4");
        s.answers("[[1,2],[3]]", "[-2][-1]", "3");
        s.answers("[]", "[0]", "");
        s.answers("[]", "[-1]", "");
        s.answers("{a:1}", "[0]", "");
        s.answers("{a:1}", "[-1]", "");
        s.answers("5", "[0]", "");
        s.answers("w", "[0]", "");
    }

    private static void byStretch() {
        Sentence s = of("by two PLACES what a LIST has from the first one on, up to but without the second one "
                + "(below 0 from its end; without: from 0, to its end; held within 0 and its length);");
        String three = "[7,8,9]";
        s.answers(three, "[0:3]", "1,2,3");
        s.answers(three, "[0:2]", "1,2");
        s.answers(three, "[1:2]", "2");
        s.answers(three, "[1:1]", "");
        s.answers(three, "[2:1]", "");
        s.answers(three, "[0:0]", "");
        s.answers(three, "[:]", "1,2,3");
        s.answers(three, "[1:]", "2,3");
        s.answers(three, "[3:]", "");
        s.answers(three, "[:1]", "1");
        s.answers(three, "[:0]", "");
        s.answers(three, "[-1:]", "3");
        s.answers(three, "[-3:]", "1,2,3");
        s.answers(three, "[-4:]", "1,2,3");
        s.answers(three, "[:-1]", "1,2");
        s.answers(three, "[:-2]", "1");
        s.answers(three, "[:-3]", "");
        s.answers(three, "[:-4]", "");
        s.answers(three, "[-2:-1]", "2");
        s.answers(three, "[-1:-2]", "");
        s.answers(three, "[0:4]", "1,2,3");
        s.answers(three, "[2:999]", "3");
        s.answers(three, "[3:999]", "");
        s.answers(three, "[999:]", "");
        s.answers(three, "[-999:999]", "1,2,3");
        s.answers(three, "[-999:-999]", "");
        s.answers(three, "[-0:-0]", "");
        s.answers("[]", "[:]", "");
        s.answers("{a:1}", "[:]", "");
        s.answers("5", "[:]", "");
        s.answers("[[1,2],[3]]", "..[1:]", "3,4");
        NestQuery x = Probe.with(Probe.ones(59), "[:]", "[58:59]", "[-59:-58]", "[:-59]");
        s.due("all 59", x.answer(0, -1), 59);
        s.due("the last one", Probe.answers(x, 1), "59");
        s.due("the first one", Probe.answers(x, 2), "1");
        s.due("none", Probe.answers(x, 3), "");
    }

    private static void byFilter() {
        Sentence s = of("by ? it, if COND holds.");
        s.answers("[1,2]", "?(@)", "0");
        s.answers("[1,2]", "?(!@)", "");
        s.answers("[1,2]", ".*?(@=2)", "2");
        s.answers("[1,[2]]", "..?(@=2)", "3");
        s.answers("[{a:1},{b:2}]", ".*?(@.a)", "1");
        s.answers("[{a:1},{b:2}]", "?(@[0].a)", "0");
        // Each STEP by its own COND.
        s.answers("[1,2,3,4]", ".*?(@>1)?(@<4)", "2,3");
        s.answers("[1,2,3,4]", ".*?(@>1)?(@<4)?(!@=2)", "3");
        s.answers("[{a:1,b:5},{a:2,b:5},{a:1}]", ".*?(@.a=1)?(@.b).a", "2");
    }

    private static void eachOnce() {
        Sentence s = of("In order of numbers, each once.");
        s.answers("[[1],[2]]", "....", "0,1,2,3,4");
        s.answers("[[1],[2]]", "...*", "1,2,3,4");
        s.answers("{b:{a:1},a:2}", "...a", "2,3");
        s.answers("[[[1]]]", "......[0]", "1,2,3");
        s.answers("{a:{a:{a:1}}}", "...a..", "1,2,3");
        NestQuery x = Probe.with("[3,[2,1]]", "....");
        s.due("how many", x.answer(0, -1), 5);
        s.due("behind the first STEP", x.steps(0, 0), 5);
        s.due("behind the second STEP", x.steps(0, 1), 5);
    }

    private static void joined() {
        Sentence s = of("COND: | or, & and, ! not.");
        // 1 has a, 3 has b, 5 has both, 8 has neither.
        String four = "[{a:1},{b:1},{a:1,b:1},{}]";
        s.answers(four, ".*?(@.a|@.b)", "1,3,5");
        s.answers(four, ".*?(@.a&@.b)", "5");
        s.answers(four, ".*?(!@.a)", "3,8");
        s.answers(four, ".*?(!@.a|@.b)", "3,5,8");
        s.answers(four, ".*?(!(@.a|@.b))", "8");
        s.answers(four, ".*?(!(@.a&@.b))", "1,3,8");
        s.answers(four, ".*?(!@.a&!@.b)", "8");
        s.answers(four, ".*?(!!@.a)", "1,5");
        // & binds more tightly than |, ! more tightly than both.
        s.answers(four, ".*?(@|@.a&!@)", "1,3,5,8");
        s.answers(four, ".*?((@|@.a)&!@)", "");
        s.answers(four, ".*?(!@&@.a|@.b)", "3,5");
        s.answers(four, ".*?(!@&(@.a|@.b))", "");
        s.answers(four, ".*?(@.a&@.b|!@.a&!@.b)", "5,8");
        s.answers(four, ".*?((@.a|@.b)&!(@.a&@.b))", "1,3");
        s.answers(four, ".*?(@|@|@|@|@|@|@|@|@|@|@|@)", "1,3,5,8");
        s.answers(four, ".*?(@&@&@&@&@&@&@&@&@&@&@&!@)", "");
        s.answers(four, ".*?(@&(@&(@&(@&(@&(@&@.a)))))|!@)", "1,5");
    }

    private static void littleLeads() {
        Sentence s = of("LITTLE leads from the THING (@) on, by KEYS and PLACES likewise;");
        String data = "[{a:[1,2]},{a:[3]},{a:{a:4}}]";
        s.answers(data, ".*?(@.a[0])", "1,5");
        s.answers(data, ".*?(@.a[1])", "1");
        s.answers(data, ".*?(@.a[2])", "");
        s.answers(data, ".*?(@.a[-1]=3)", "5");
        s.answers(data, ".*?(@.a[-2])", "1");
        s.answers(data, ".*?(@.a[-3])", "");
        s.answers(data, ".*?(@.a.a)", "8");
        s.answers(data, ".*?(@[0])", "");
        s.answers(data, "?(@[0].a[1]=2&@[-1].a.a=4)", "0");
        s.answers(data, "?(@.a)", "");
        s.answers("[[[[[[[5]]]]]]]", "?(@[0][0][0][0][0][0][0]=5)", "0");
        s.answers("[[[[[[[5]]]]]]]", "?(@[0][0][0][0][0][0][0][0])", "");
        s.answers("{a:{}}", "?(@.b.a|@.a.b)", "");
    }

    private static void littleAlone() {
        Sentence s = of("it holds by itself, if it leads to a THING;");
        s.answers("[0,w,[],{}]", ".*?(@)", "1,2,3,4");
        s.answers("[{a:0},{a:[]},{a:{}},{a:w},{b:1}]", ".*?(@.a)", "1,3,5,7");
        s.answers("[{a:0},{b:1},[0]]", ".*?(!@.a)", "3,5");
        s.answers("[[],[0]]", ".*?(@[0])", "2");
    }

    private static void littleWithSign() {
        Sentence s = of("with a sign, if it leads to a NUMBER (for a NUMBER), a WORD (for a WORD), that is the same, less, greater");
        String data = "[-1,0,1,a,b,c,[0],{b:0}]";
        s.answers(data, ".*?(@=0)", "2");
        s.answers(data, ".*?(@<0)", "1");
        s.answers(data, ".*?(@>0)", "3");
        s.answers(data, ".*?(@=b)", "5");
        s.answers(data, ".*?(@<b)", "4");
        s.answers(data, ".*?(@>b)", "6");
        s.answers(data, ".*?(!@<0&!@=0&!@>0)", "4,5,6,7,9");
        s.answers(data, ".*?(!@=0)", "1,3,4,5,6,7,9");
        s.answers(data, ".*?(@[0]=0|@.b=0)", "7,9");
        s.answers(data, ".*?(@[0]=a|@.b<z)", "");
        s.answers(data, ".*?(@=-0)", "2");
        s.answers(data, ".*?(@=-001)", "1");
        s.answers("[-999,999,-998,998]", ".*?(@<-998|@>998)", "1,2");
        s.answers("[-999,999]", ".*?(@<-999|@>999)", "");
        s.answers("[-999,999]", ".*?(@=-999|@=999)", "1,2");
    }

    private static void wordsLess() {
        Sentence s = of("(WORDS letter by letter, what ends first being less).");
        String data = "[a,ab,abc,b,z,zzzzzz,aaaaaa]";
        s.answers(data, ".*?(@<ab)", "1,7");
        s.answers(data, ".*?(@>ab)", "3,4,5,6");
        s.answers(data, ".*?(@=ab)", "2");
        s.answers(data, ".*?(@<b)", "1,2,3,7");
        s.answers(data, ".*?(@>z)", "6");
        s.answers(data, ".*?(@<aa)", "1");
        s.answers(data, ".*?(@<aaaaaa)", "1");
        s.answers(data, ".*?(@>zzzzz)", "6");
        s.answers(data, ".*?(@>zzzzzz)", "");
        s.answers(data, ".*?(@<a)", "");
        s.answers("[b,aaaaaa]", ".*?(@<b)", "2");
    }

    private static void likes(Sentence s, String one, String other, int due) {
        NestQuery x = Probe.with("[" + one + "," + other + "]");
        int second = x.within(0, 1);
        s.due(one + " and " + other, x.alike(1, second), due);
        s.due(other + " and " + one, x.alike(second, 1), due);
        s.due(one + " and itself", x.alike(1, 1), 1);
        s.due("nothing has changed", Probe.all(x), "[" + one + "," + other + "]");
    }

    private static void likeValues() {
        Sentence s = of("Two THINGS are LIKE: NUMBERS, WORDS that are the same,");
        likes(s, "5", "5", 1);
        likes(s, "5", "-5", 0);
        likes(s, "0", "0", 1);
        likes(s, "abc", "abc", 1);
        likes(s, "abc", "abd", 0);
        likes(s, "ab", "abc", 0);
        likes(s, "a", "aa", 0);
        likes(s, "0", "a", 0);
        likes(s, "1", "a", 0);
        likes(s, "5", "[5]", 0);
        likes(s, "0", "[]", 0);
        likes(s, "0", "{}", 0);
    }

    private static void likeLists() {
        Sentence s = of("LISTS of as many that are LIKE one by one,");
        likes(s, "[]", "[]", 1);
        likes(s, "[]", "{}", 0);
        likes(s, "[1,2]", "[1,2]", 1);
        likes(s, "[1,2]", "[2,1]", 0);
        likes(s, "[1,2]", "[1]", 0);
        likes(s, "[1,2]", "[1,2,3]", 0);
        likes(s, "[[1],2]", "[[1,2]]", 0);
        likes(s, "[[],[1]]", "[[1],[]]", 0);
        likes(s, "[[],[1,{}]]", "[[],[1,{}]]", 1);
        likes(s, "[1]", "{a:1}", 0);
        likes(s, "[[[[[[1]]]]]]", "[[[[[[1]]]]]]", 1);
        likes(s, "[[[[[[1]]]]]]", "[[[[[[2]]]]]]", 0);
    }

    private static void likeMaps() {
        Sentence s = of("MAPS of the same KEYS (in any order) by which THINGS are LIKE.");
        likes(s, "{}", "{}", 1);
        likes(s, "{a:1,b:2}", "{b:2,a:1}", 1);
        likes(s, "{a:1,b:2}", "{a:2,b:1}", 0);
        likes(s, "{a:1}", "{b:1}", 0);
        likes(s, "{a:1}", "{a:1,b:1}", 0);
        likes(s, "{a:{x:1,y:[2]},b:3}", "{b:3,a:{y:[2],x:1}}", 1);
        likes(s, "{a:{x:1,y:[2]},b:3}", "{b:3,a:{y:[3],x:1}}", 0);
        likes(s, "{a:[{x:1,y:2}]}", "{a:[{y:2,x:1}]}", 1);
        likes(s, "{a:1,aa:1}", "{aa:1,a:1}", 1);
        likes(s, "{ab:1}", "{ba:1}", 0);
    }

    private static void fortyActs() {
        Sentence s = of("ACTS (at most 40 are kept, the latest ones):");
        NestQuery x = Probe.with("[0]", "[0]");
        for (int k = 1; k <= 40; k++) {
            s.did(x, "act " + k, () -> x.add(0, 1), 1, "[" + k + "]");
        }
        s.due("40 are kept", x.count(10), 40);
        s.did(x, "act 41", () -> x.add(0, 1), 1, "[41]");
        s.due("40 are kept", x.count(10), 40);
        for (int k = 39; k >= 0; k--) {
            s.due("undone", x.undo(), k);
            s.due("the tree then", Probe.all(x), "[" + (k + 1) + "]");
        }
        s.due("the first one is not kept", x.undo(), -1);
        s.due("the tree stays", Probe.all(x), "[1]");
        s.did(x, "one more", () -> x.add(0, 1), 1, "[2]");
        s.due("it is the one that is kept", x.undo(), 0);
    }

    private static void puts() {
        Sentence s = of("at all ANSWERS of a PATH: the THING that a text tells is PUT in their place "
                + "(of ANSWERS within another one nothing);");
        NestQuery x = Probe.with("{a:[1,[2]],b:{c:3}}", "..", ".*", "...*", "[0]");
        s.didOnce(x, "at ROOT alone, all others are within it", () -> Probe.put(x, 0, "7"), 1, "7");
        s.didOnce(x, "at both", () -> Probe.put(x, 1, "[x]"), 2, "{a:[x],b:[x]}");
        s.didOnce(x, "at both, not within them", () -> Probe.put(x, 2, "{}"), 2, "{a:{},b:{}}");
        s.refusedText(x, "at none", () -> Probe.put(x, 3, "7"), -1, -1);
        s.due("another path", Probe.path(x, 3, "..[0]"), 0);
        s.didOnce(x, "at the first one of a LIST", () -> Probe.put(x, 3, "w"), 2, "{a:[w,[w]],b:{c:3}}");
        NestQuery y = Probe.with("[[[1],2],[3]]", "...*?(@[0])");
        s.didOnce(y, "the outer ones", () -> Probe.put(y, 0, "5"), 2, "[5,5]");
        NestQuery z = Probe.with("{a:1,b:2,c:3}", ".b");
        s.didOnce(z, "the KEY stays, the place too", () -> Probe.put(z, 0, "{a:[]}"), 1, "{a:1,b:{a:[]},c:3}");
    }

    private static void appends() {
        Sentence s = of("it is APPENDED to those that are LISTS;");
        NestQuery x = Probe.with("[1,[],{a:[2]},w]", "..", "", ".*", "[2]");
        s.didOnce(x, "at all LISTS", () -> Probe.append(x, 0, "{k:v}"), 3, "[1,[{k:v}],{a:[2,{k:v}]},w,{k:v}]");
        s.didOnce(x, "at ROOT", () -> Probe.append(x, 1, "[]"), 1, "[1,[],{a:[2]},w,[]]");
        s.didOnce(x, "at the only LIST", () -> Probe.append(x, 2, "-5"), 1, "[1,[-5],{a:[2]},w]");
        s.refusedText(x, "a MAP is none", () -> Probe.append(x, 3, "1"), -1, -1);
        s.due("path of a NUMBER", Probe.path(x, 3, "[0]"), 0);
        s.refusedText(x, "a NUMBER is none", () -> Probe.append(x, 3, "1"), -1, -1);
        s.due("path of a WORD", Probe.path(x, 3, "[3]"), 0);
        s.refusedText(x, "a WORD is none", () -> Probe.append(x, 3, "1"), -1, -1);
        NestQuery y = Probe.with("[[[]]]", "..");
        s.didOnce(y, "one within another one", () -> Probe.append(y, 0, "[]"), 3, "[[[[]],[]],[]]");
    }

    private static void keys() {
        Sentence s = of("it is what MAPS have by a KEY (in its place, else behind all);");
        NestQuery x = Probe.with("{a:1,b:{a:2,c:3},d:[{}]}", "..", "", ".d", ".b");
        s.didOnce(x, "in its place", () -> Probe.key(x, 1, "a", "[x]"), 1, "{a:[x],b:{a:2,c:3},d:[{}]}");
        s.didOnce(x, "in its place in the middle", () -> Probe.key(x, 1, "b", "9"), 1, "{a:1,b:9,d:[{}]}");
        s.didOnce(x, "behind all", () -> Probe.key(x, 1, "aa", "[x]"), 1, "{a:1,b:{a:2,c:3},d:[{}],aa:[x]}");
        s.didOnce(x, "both", () -> Probe.key(x, 0, "c", "w"), 3, "{a:1,b:{a:2,c:w},d:[{c:w}],c:w}");
        s.didOnce(x, "within what it takes the place of", () -> Probe.key(x, 0, "b", "0"), 3, "{a:1,b:0,d:[{b:0}]}");
        s.refusedText(x, "a LIST is no MAP", () -> Probe.key(x, 2, "a", "1"), -1, -1);
        s.didOnce(x, "a MAP within", () -> Probe.key(x, 3, "z", "{}"), 1, "{a:1,b:{a:2,c:3,z:{}},d:[{}]}");
    }

    private static void adds() {
        Sentence s = of("a number is ADDED to NUMBERS (held within -999 and 999);");
        NestQuery x = Probe.with("[998,-998,0,w,[1],{a:2}]", ".*", "..", "[3]");
        s.didOnce(x, "1", () -> x.add(0, 1), 3, "[999,-997,1,w,[1],{a:2}]");
        s.didOnce(x, "2", () -> x.add(0, 2), 3, "[999,-996,2,w,[1],{a:2}]");
        s.didOnce(x, "-1", () -> x.add(0, -1), 3, "[997,-999,-1,w,[1],{a:2}]");
        s.didOnce(x, "-2", () -> x.add(0, -2), 3, "[996,-999,-2,w,[1],{a:2}]");
        s.didOnce(x, "999 to all", () -> x.add(1, 999), 5, "[999,1,999,w,[999],{a:999}]");
        s.didOnce(x, "-999 to all", () -> x.add(1, -999), 5, "[-1,-999,-999,w,[-998],{a:-997}]");
        s.didOnce(x, "0", () -> x.add(0, 0), 3, "[998,-998,0,w,[1],{a:2}]");
        s.refused(x, "to a WORD", () -> x.add(2, 1), 1);
    }

    private static void turns() {
        Sentence s = of("LISTS, MAPS are TURNED round (what is at once within them);");
        NestQuery x = Probe.with("[[1,2],{a:3,b:[4,5]},6]", "", "[1]", "..", "[2]");
        s.didOnce(x, "ROOT", () -> x.change(0, 0), 1, "[6,{a:3,b:[4,5]},[1,2]]");
        s.didOnce(x, "a MAP", () -> x.change(1, 0), 1, "[[1,2],{b:[4,5],a:3},6]");
        s.didOnce(x, "all", () -> x.change(2, 0), 4, "[6,{b:[5,4],a:3},[2,1]]");
        s.refused(x, "a NUMBER", () -> x.change(3, 0), 1);
        NestQuery y = Probe.with("[[],{},[1],{a:1}]", ".*");
        s.didOnce(y, "those of none and of one", () -> y.change(0, 0), 4, "[[],{},[1],{a:1}]");
    }

    private static void sorts() {
        Sentence s = of("LISTS are SORTED (NUMBERS rising, then WORDS rising as above, then LISTS, then MAPS, "
                + "these and like ones as they stand);");
        NestQuery x = Probe.with("[{},[],b,a,1,-1]", "");
        s.didOnce(x, "one of each", () -> x.change(0, 1), 1, "[-1,1,a,b,[],{}]");
        NestQuery y = Probe.with("[{b:1},[2],{a:1},[1],[],{}]", "");
        s.didOnce(y, "LISTS and MAPS as they stand", () -> y.change(0, 1), 1, "[[2],[1],[],{b:1},{a:1},{}]");
        NestQuery z = Probe.with("[b,ab,a,abc,zzzzzz,z,b,aaaaaa]", "");
        s.didOnce(z, "WORDS", () -> z.change(0, 1), 1, "[a,aaaaaa,ab,abc,b,b,z,zzzzzz]");
        NestQuery u = Probe.with("[999,-999,0,5,-5,5]", "");
        s.didOnce(u, "NUMBERS", () -> u.change(0, 1), 1, "[-999,-5,0,5,5,999]");
        NestQuery v = Probe.with("[[2,1],{l:[b,a]}]", "..", ".*", "[1]", "");
        s.didOnce(v, "all LISTS", () -> v.change(0, 1), 3, "[[1,2],{l:[a,b]}]");
        s.didOnce(v, "a MAP is none", () -> v.change(1, 1), 1, "[[1,2],{l:[b,a]}]");
        s.refused(v, "a MAP is none", () -> v.change(2, 1), 1);
        s.didOnce(v, "one that is sorted already", () -> v.change(3, 1), 1, "[[2,1],{l:[b,a]}]");
    }

    private static void drops() {
        Sentence s = of("they are DROPPED (not ROOT).");
        NestQuery x = Probe.with("[1,[2,3],{a:4}]", ".*", "..", "", "..?(@>2)");
        s.didOnce(x, "all but ROOT", () -> x.change(0, 2), 3, "[]");
        s.refused(x, "ROOT and all else", () -> x.change(1, 2), 1);
        s.refused(x, "ROOT", () -> x.change(2, 2), 1);
        s.didOnce(x, "some", () -> x.change(3, 2), 2, "[1,[2],{}]");
        s.due("path", Probe.path(x, 0, "...*"), 0);
        s.didOnce(x, "those within one another", () -> x.change(0, 2), 6, "[]");
        s.due("path", Probe.path(x, 0, "[1]"), 0);
        s.didOnce(x, "one with all within it", () -> x.change(0, 2), 1, "[1,{a:4}]");
    }

    private static void foundFirst() {
        Sentence s = of("(ANSWERS are found first; what is within an ANSWER is changed ahead of it.)");
        NestQuery x = Probe.with("[1,4,[1]]", "..?(@<5)", "[-1]", "..?(!@.k)", "..");
        s.didOnce(x, "each once, though it still holds", () -> x.add(0, 2), 3, "[3,6,[3]]");
        s.didOnce(x, "the last one alone", () -> x.change(1, 2), 1, "[1,4]");
        s.didOnce(x, "not what has just come", () -> Probe.append(x, 3, "[]"), 2, "[1,4,[1,[]],[]]");
        NestQuery y = Probe.with("{a:{a:{}}}", "..", "..?(!@.b)");
        s.didOnce(y, "those within too", () -> Probe.key(y, 0, "a", "{}"), 3, "{a:{}}");
        s.didOnce(y, "those that had none", () -> Probe.key(y, 1, "b", "1"), 3, "{a:{a:{b:1},b:1},b:1}");
        NestQuery z = Probe.with("[[2,[1,0]],3]", "..");
        s.didOnce(z, "all TURNED", () -> z.change(0, 0), 3, "[3,[[0,1],2]]");
    }

    private static void moves() {
        Sentence s = of("Then: a THING is MOVED behind all of a LIST, or by a KEY behind all of a MAP; a PATCH is laid on.");
        NestQuery x = Probe.with("[1,[2],{a:3}]", "");
        s.didOnce(x, "behind all of a LIST", () -> x.move(1, 2, 0), 3, "[[2,1],{a:3}]");
        s.didOnce(x, "behind all of a MAP", () -> x.move(1, 4, 2), 5, "[[2],{a:3,b:1}]");
        s.didOnce(x, "behind all of its own LIST", () -> x.move(1, 0, 0), 5, "[[2],{a:3},1]");
        s.didOnce(x, "that is last already", () -> x.move(4, 0, 0), 4, "[1,[2],{a:3}]");
        NestQuery y = Probe.patch("{a:1}", "{a:2}");
        s.due("as the image", y.restore(), true);
        s.didOnce(y, "a PATCH", () -> y.apply(false), 1, "{a:2}");
    }

    private static void undone() {
        Sentence s = of("They are UNDONE, the last one first.");
        NestQuery x = Probe.patch("[1]", "[1,2]");
        s.due("that is the first ACT", x.count(10), 1);
        s.did(x, "put", () -> Probe.put(x, 0, "[3,a]"), 1, "[3,a]");
        s.did(x, "append", () -> Probe.append(x, 0, "{}"), 1, "[3,a,{}]");
        s.due("path", Probe.path(x, 1, "..") + Probe.path(x, 2, "[0]"), 0);
        s.did(x, "key", () -> Probe.key(x, 1, "k", "9"), 1, "[3,a,{k:9}]");
        s.did(x, "add", () -> x.add(2, -4), 1, "[-1,a,{k:9}]");
        s.did(x, "turn", () -> x.change(0, 0), 1, "[{k:9},a,-1]");
        s.did(x, "sort", () -> x.change(0, 1), 1, "[-1,a,{k:9}]");
        s.did(x, "move", () -> x.move(1, 3, 1), 4, "[a,{k:9,a:-1}]");
        s.did(x, "drop", () -> x.change(2, 2), 1, "[{k:9,a:-1}]");
        s.did(x, "put", () -> Probe.put(x, 0, "[0]"), 1, "[0]");
        s.did(x, "patch", () -> x.apply(false), 1, "[0,2]");
        String[] then = {"[0]", "[{k:9,a:-1}]", "[a,{k:9,a:-1}]", "[-1,a,{k:9}]", "[{k:9},a,-1]", "[-1,a,{k:9}]",
            "[3,a,{k:9}]", "[3,a,{}]", "[3,a]", "[1,2]", "[1]"};
        for (int k = 0; k < then.length; k++) {
            s.due("undone", x.undo(), then.length - 1 - k);
            s.due("the tree then", Probe.all(x), then[k]);
        }
        s.due("none is left", x.undo(), -1);
        s.due("the tree stays", Probe.all(x), "[1]");
    }

    private static void nothingHappens() {
        Sentence s = of("(Nothing happens, if THE TREE had more than 60 THINGS, or one within more than 7 others.)");
        NestQuery w = Probe.with("[[],[],0]", ".*");
        s.didOnce(w, "60", () -> Probe.append(w, 0, Probe.ones(27)), 2,
                "[[" + Probe.ones(27) + "],[" + Probe.ones(27) + "],0]");
        NestQuery x = Probe.with("[[],[]]", ".*");
        s.refusedText(x, "61", () -> Probe.append(x, 0, Probe.ones(28)), -1, -1);
        s.refusedText(x, "many more", () -> Probe.append(x, 0, Probe.ones(59)), -1, -1);
        // Only one of both is too deep, or both together too much: neither is changed.
        NestQuery y = Probe.with("[[],[[[[[[]]]]]],{},{a:[{}]}]", "..");
        s.refusedText(y, "one too deep", () -> Probe.append(y, 0, "[[]]"), -1, -1);
        s.didOnce(y, "none too deep", () -> Probe.append(y, 0, "[]"), 9,
                "[[[]],[[[[[[[]],[]],[]],[]],[]],[]],{},{a:[{},[]]},[]]");
        NestQuery z = Probe.with("[{},[[[[[{}]]]]]]", "..");
        s.refusedText(z, "a KEY too deep", () -> Probe.key(z, 0, "k", "[0]"), -1, -1);
        s.didOnce(z, "a KEY not too deep", () -> Probe.key(z, 0, "k", "[]"), 2, "[{k:[]},[[[[[{k:[]}]]]]]]");
        NestQuery u = Probe.with("[[[[[[[]]]]]],[1]]");
        s.refused(u, "MOVED too deep", () -> u.move(7, 6, 0), 1);
        s.didOnce(u, "MOVED less deep", () -> u.move(7, 5, 0), 7, "[[[[[[[],[1]]]]]]]");
    }
}
