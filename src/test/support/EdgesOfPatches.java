/** The sentences of the third part of the Terms: patches, texts told, notes, years, status, images. */
final class EdgesOfPatches {
    private static final String PART = "3";
    private static final String GROVE = "[5,[3,1],{a:2},w]";

    private EdgesOfPatches() {
    }

    static void run() {
        rowsOfLike();
        rowsGo();
        rowsCome();
        rowsOfLists();
        rowsBecome();
        partsOfRows();
        kept();
        laidOnOrTurned();
        fits();
        comes();
        emptyPath();
        oneDoesNotFit();
        told();
        itsPath();
        rowTexts();
        unlike();
        twins();
        noted();
        fitting();
        lookNext();
        years();
        draws();
        status();
        image();
    }

    private static Sentence of(String quote) {
        return new Sentence(PART, quote);
    }

    /** The rows from one tree to another one, that laying them on leads there, and that their turn leads back. */
    private static void rows(Sentence s, String from, String to, String due) {
        NestQuery x = Probe.patch(from, to);
        s.due("rows from " + from + " to " + to, Probe.rows(x), due);
        int rows = x.count(8);
        s.due("as the image", x.restore(), true);
        if (rows == 0) {
            s.refused(x, "no ROWS to lay on", () -> x.apply(false), 1);
            s.refused(x, "no ROWS to turn", () -> x.apply(true), 1);
            return;
        }
        s.due("laid on " + from, x.apply(false), rows);
        s.due("and so LIKE " + to, likeness(Probe.all(x), to), 1);
        s.due("turned", x.apply(true), rows);
        s.due("and so LIKE " + from, x.count(9), 0);
    }

    private static int likeness(String one, String other) {
        NestQuery x = Probe.with(one, "");
        x.image();
        Probe.put(x, 0, other);
        return x.count(9) == 0 ? 1 : 0;
    }

    private static void rowsOfLike() {
        Sentence s = of("THE PATCH from one TREE to another one: ROWS of two THINGS, from both ROOTS on: nothing, if they are LIKE;");
        rows(s, "{}", "{}", "");
        rows(s, "5", "5", "");
        rows(s, "{a:1,b:[{c:1,d:2}]}", "{b:[{d:2,c:1}],a:1}", "");
        rows(s, "[1,[2]]", "[1,[2]]", "");
        rows(s, "{a:1,b:2}", "{b:2,a:3}", "=.a 3");
    }

    private static void rowsGo() {
        Sentence s = of("of two MAPS, by the first one's KEYS: one that the second one hasn't GOES, else ROWS of both by it;");
        rows(s, "{b:1,a:2,c:3}", "{a:2}", "-.b | -.c");
        rows(s, "{b:1,a:2}", "{}", "-.b | -.a");
        rows(s, "{b:1,a:{x:1,y:2},c:3}", "{c:4,a:{y:3}}", "-.b | -.a.x | =.a.y 3 | =.c 4");
        rows(s, "{a:1}", "{a:[1]}", "=.a [1]");
        rows(s, "{ab:1}", "{a:1}", "-.ab | +.a 1");
    }

    private static void rowsCome() {
        Sentence s = of("then by the second one's KEYS those that the first one hasn't COME;");
        rows(s, "{}", "{b:1,a:[2]}", "+.b 1 | +.a [2]");
        rows(s, "{a:1,c:2}", "{d:4,c:3,b:5,a:1}", "=.c 3 | +.d 4 | +.b 5");
        rows(s, "{a:{},b:1}", "{a:{x:1}}", "+.a.x 1 | -.b");
        rows(s, "{a:1}", "{b:1}", "-.a | +.b 1");
    }

    private static void rowsOfLists() {
        Sentence s = of("of two LISTS: ROWS of both at each PLACE that both have; those that the second one has more COME, rising; "
                + "those that the first one has more GO, the last one first;");
        rows(s, "[1,2,3]", "[1,5,3]", "=[1] 5");
        rows(s, "[1]", "[2,3,4]", "=[0] 2 | +[1] 3 | +[2] 4");
        rows(s, "[]", "[1,[2]]", "+[0] 1 | +[1] [2]");
        rows(s, "[1,2,3]", "[9]", "=[0] 9 | -[2] | -[1]");
        rows(s, "[1,[2]]", "[]", "-[1] | -[0]");
        rows(s, "[1,2,3]", "[2,3]", "=[0] 2 | =[1] 3 | -[2]");
        rows(s, "[[1],[2]]", "[[1,1],[]]", "+[0][1] 1 | -[1][0]");
        StringBuilder b = new StringBuilder();
        for (int place = 58; place >= 0; place--) {
            b.append(place == 58 ? "-[" : " | -[").append(place).append(']');
        }
        rows(s, Probe.ones(59), "[]", b.toString());
    }

    private static void rowsBecome() {
        Sentence s = of("else the one BECOMES the other one.");
        rows(s, "1", "2", "= 2");
        rows(s, "a", "b", "= b");
        rows(s, "1", "a", "= a");
        rows(s, "[]", "{}", "= {}");
        rows(s, "{a:1}", "[1]", "= [1]");
        rows(s, "[1,[2],{}]", "[[1],2,[]]", "=[0] [1] | =[1] 2 | =[2] []");
    }

    private static void partsOfRows() {
        Sentence s = of("A ROW has its PATH (by KEYS and PLACES, from ROOT on), what was there, what is.");
        NestQuery x = Probe.patch("{a:[1,{b:[2,3]}],c:{}}", "{a:[1,{b:[2]}],c:[4,5],d:w}");
        s.due("rows", Probe.rows(x), "-.a[1].b[1] | =.c [4,5] | +.d w");
        int[][] due = {{2, 4, 1, 0}, {3, 1, 1, 3}, {1, 1, 0, 1}};
        for (int row = 0; row < 3; row++) {
            for (int what = 0; what < 4; what++) {
                s.due("row " + row + " " + what, x.row(row, what), due[row][what]);
            }
        }
        NestQuery y = Probe.patch("[[[[[[[1]]]]]]]", "[[[[[[[2]]]]]]]");
        s.due("the longest PATH", y.row(0, 1), 7);
        NestQuery z = Probe.patch("[1]", "{}");
        s.due("the empty PATH", z.row(0, 1), 0);
        s.due("what was there", z.row(0, 2), 2);
    }

    private static void kept() {
        Sentence s = of("KEPT: THE PATCH from the IMAGE's TREE to THE TREE.");
        NestQuery x = Probe.with("[1]", "", "[0]");
        s.did(x, "ahead of the image", () -> x.add(1, 1), 1, "[2]");
        x.image();
        s.did(x, "behind the image", () -> x.add(1, 1), 1, "[3]");
        s.due("rows", x.keep(), 1);
        s.due("the row", Probe.rows(x), "=[0] 3");
        s.did(x, "behind keep", () -> Probe.append(x, 0, "7"), 1, "[3,7]");
        s.due("the row", Probe.rows(x), "=[0] 3");
        s.due("rows since the image", x.count(9), 2);
        x.image();
        s.due("none since the new one", x.count(9), 0);
        s.due("the row", Probe.rows(x), "=[0] 3");
    }

    /** The patch from one tree to another one laid on a third one (null: it doesn't fit). */
    private static void laid(Sentence s, String from, String to, boolean turned, String on, String then) {
        NestQuery x = Probe.patch(from, to);
        int rows = x.count(8);
        String what = Probe.rows(x) + (turned ? " turned" : "") + " on " + on;
        s.due("tree " + on, Probe.tree(x, on), 0);
        if (then == null) {
            s.refused(x, what, () -> x.apply(turned), 1);
        } else {
            s.didOnce(x, what, () -> x.apply(turned), rows, then);
        }
    }

    private static void laidOnOrTurned() {
        Sentence s = of("LAID ON: ROW by ROW; TURNED: from the last one on, what COMES GOES, what GOES COMES, what BECOMES is what was.");
        laid(s, "{a:1,b:2}", "{a:3,c:4}", false, "{b:2,a:1}", "{a:3,c:4}");
        laid(s, "{a:1,b:2}", "{a:3,c:4}", true, "{c:4,a:3}", "{a:1,b:2}");
        laid(s, "[1,2,3]", "[1]", false, "[1,2,3]", "[1]");
        laid(s, "[1,2,3]", "[1]", true, "[1]", "[1,2,3]");
        laid(s, "[1]", "[1,2,3]", true, "[1,2,3]", "[1]");
        laid(s, "{a:1}", "{a:[2]}", true, "{a:[2],b:0}", "{a:1,b:0}");
        // The first row makes the place where the next ones fit, and the other way round.
        laid(s, "[]", "[1,2]", false, "[]", "[1,2]");
        laid(s, "[]", "[1,2]", true, "[1,2]", "[]");
        laid(s, "{a:{},b:{x:1}}", "{a:{x:1},b:{}}", true, "{a:{x:1,y:2},b:{y:3}}", "{a:{y:2},b:{y:3,x:1}}");
    }

    private static void fits() {
        Sentence s = of("A ROW fits, if its PATH without the last STEP leads to a MAP (a LIST) and: what GOES, BECOMES is there "
                + "by the last STEP, LIKE what the ROW has for it (of a LIST what GOES is the last one);");
        laid(s, "{a:{b:1}}", "{a:{b:2}}", false, "{a:{c:0,b:1}}", "{a:{c:0,b:2}}");
        laid(s, "{a:{b:1}}", "{a:{b:2}}", false, "{a:{c:0}}", null);
        laid(s, "{a:{b:1}}", "{a:{b:2}}", false, "{a:{b:3}}", null);
        laid(s, "{a:{b:1}}", "{a:{b:2}}", false, "{a:[1]}", null);
        laid(s, "{a:{b:1}}", "{a:{b:2}}", false, "{a:1}", null);
        laid(s, "{a:{b:1}}", "{a:{b:2}}", false, "{b:1}", null);
        laid(s, "{a:{b:1}}", "{a:{b:2}}", false, "[{b:1}]", null);
        laid(s, "{a:{b:1}}", "{a:{b:2}}", false, "5", null);
        laid(s, "{a:1}", "{}", false, "{a:1}", "{}");
        laid(s, "{a:1}", "{}", false, "{b:1}", null);
        laid(s, "{a:1}", "{}", false, "{a:2}", null);
        laid(s, "{a:1}", "{}", false, "[1]", null);
        laid(s, "{a:1}", "{}", false, "{a:1,b:2}", "{b:2}");
        laid(s, "{a:{x:1,y:[2]}}", "{a:3}", false, "{a:{y:[2],x:1}}", "{a:3}");
        laid(s, "{a:{x:1,y:[2]}}", "{}", false, "{a:{y:[2],x:1}}", "{}");
        laid(s, "{a:{x:1,y:[2]}}", "{}", false, "{a:{y:[2]}}", null);
        laid(s, "[1,2]", "[1]", false, "[7,2]", "[7]");
        laid(s, "[1,2]", "[1]", false, "[1,2,2]", null);
        laid(s, "[1,2]", "[1]", false, "[2]", null);
        laid(s, "[1,2]", "[1]", false, "[1,3]", null);
        laid(s, "[1,2]", "[1]", false, "{a:1,b:2}", null);
        laid(s, "[1,2]", "[1]", false, "[[8,[9]],2]", "[[8,[9]]]");
        laid(s, "[1,[2]]", "[1]", false, "[7,[2]]", "[7]");
        laid(s, "[1,[2]]", "[1]", false, "[7,[2],[2]]", null);
        laid(s, "[1,2]", "[3,2]", false, "[1,9,9]", "[3,9,9]");
        laid(s, "[1,2]", "[3,2]", false, "[2,1]", null);
        laid(s, "[1,2]", "[3,2]", false, "[]", null);
        laid(s, "[1]", "[1,2]", true, "[7,2]", "[7]");
        laid(s, "[1]", "[1,2]", true, "[7,2,2]", null);
        laid(s, "{}", "{a:1}", true, "{a:1,b:2}", "{b:2}");
        laid(s, "{}", "{a:1}", true, "{a:2}", null);
    }

    private static void comes() {
        Sentence s = of("what COMES isn't there (of a LIST its PLACE is behind all): it comes behind all.");
        laid(s, "{}", "{a:1}", false, "{c:1,b:2}", "{c:1,b:2,a:1}");
        laid(s, "{}", "{a:1}", false, "{a:1}", null);
        laid(s, "{}", "{a:1}", false, "{a:2}", null);
        laid(s, "{}", "{a:1}", false, "[]", null);
        laid(s, "{}", "{a:1}", false, "w", null);
        laid(s, "{b:{}}", "{b:{a:1}}", false, "{b:{c:[]},d:0}", "{b:{c:[],a:1},d:0}");
        laid(s, "{b:{}}", "{b:{a:1}}", false, "{}", null);
        laid(s, "[1]", "[1,2]", false, "[[5,6]]", "[[5,6],2]");
        laid(s, "[1]", "[1,2]", false, "[]", null);
        laid(s, "[1]", "[1,2]", false, "[1,1]", null);
        laid(s, "[1]", "[1,2]", false, "{a:1}", null);
        laid(s, "[1,2]", "[1]", true, "[[5,6]]", "[[5,6],2]");
        laid(s, "[1,2]", "[1]", true, "[1,2]", null);
        laid(s, "{a:1,b:2}", "{b:2}", true, "{b:2,c:3}", "{b:2,c:3,a:1}");
        laid(s, "{a:1,b:2}", "{b:2}", true, "{b:2,a:3}", null);
    }

    private static void emptyPath() {
        Sentence s = of("(Of an empty PATH, which leads to ROOT: what BECOMES.)");
        laid(s, "1", "[2]", false, "1", "[2]");
        laid(s, "1", "[2]", false, "2", null);
        laid(s, "1", "[2]", false, "[1]", null);
        laid(s, "1", "[2]", true, "[2]", "1");
        laid(s, "1", "[2]", true, "[2,2]", null);
        laid(s, "{a:1,b:2}", "w", false, "{b:2,a:1}", "w");
    }

    private static void oneDoesNotFit() {
        Sentence s = of("Does one not fit, or would it be too much behind all ROWS, nothing happens.");
        laid(s, "{a:1,b:2}", "{a:3,b:4}", false, "{a:1,b:9}", null);
        laid(s, "{a:1,b:2}", "{a:3,b:4}", true, "{a:9,b:4}", null);
        laid(s, "{a:1,b:2}", "{a:3,b:4}", false, "{a:1,b:2}", "{a:3,b:4}");
        String ten = Probe.ones(9);
        laid(s, "{}", "{a:" + ten + "}", false, "{x:" + Probe.ones(48) + "}", "{x:" + Probe.ones(48) + ",a:" + ten + "}");
        laid(s, "{}", "{a:" + ten + "}", false, "{x:" + Probe.ones(49) + "}", null);
        // Too much on the way alone is no hindrance: what goes later makes room.
        String half = Probe.ones(28);
        laid(s, "{a:[],b:" + half + "}", "{a:" + half + "}", false, "{x:[1],a:[],b:" + half + "}", "{x:[1],a:" + half + "}");
        laid(s, "{a:[],b:" + half + "}", "{a:" + half + "}", true, "{x:[1],a:" + half + "}", "{x:[1],a:[],b:" + half + "}");
        // A ROW comes as deep as it was: too deep it can't be.
        laid(s, "{a:{b:[]}}", "{a:{b:[[[[[1]]]]]}}", false, "{a:{b:[],c:2}}", "{a:{b:[[[[[1]]]]],c:2}}");
        laid(s, "{a:{b:[[[[[1]]]]]}}", "{a:{b:[]}}", true, "{a:{b:[],c:2}}", "{a:{b:[[[[[1]]]]],c:2}}");
    }

    private static void told() {
        Sentence s = of("TOLD of a THING: DATA without blanks (- ahead of a NUMBER below 0; no needless 0s).");
        s.data(" [ -1 , - 010 , 000 , -0 , 007 , 100 , -999 , { a : b } , [ ] , { } ] ", "[-1,-10,0,0,7,100,-999,{a:b},[],{}]");
        NestQuery x = Probe.with("{a:[-9,10],b:w}");
        String[] due = {"{a:[-9,10],b:w}", "[-9,10]", "-9", "10", "w"};
        for (int thing = 0; thing < due.length; thing++) {
            s.due("told of " + thing, Probe.text(x, thing, false), due[thing]);
        }
        for (int n : new int[] {-100, -99, -10, -9, 0, 9, 10, 99, 100}) {
            s.data("[" + n + "]");
        }
    }

    private static void itsPath() {
        Sentence s = of("ITS PATH: '.' and the KEY, or '[', the PLACE, ']' of each it lies within, from ROOT on, and its own.");
        NestQuery x = Probe.with("{abcdef:[[],{b:[1,2]}],c:3}");
        String[] due = {"", ".abcdef", ".abcdef[0]", ".abcdef[1]", ".abcdef[1].b", ".abcdef[1].b[0]", ".abcdef[1].b[1]", ".c"};
        for (int thing = 0; thing < due.length; thing++) {
            s.due("path of " + thing, Probe.text(x, thing, true), due[thing]);
        }
        NestQuery y = Probe.with(Probe.ones(59));
        s.due("a PLACE of two digits", Probe.text(y, 11, true), "[10]");
        s.due("a PLACE of one digit", Probe.text(y, 10, true), "[9]");
        s.due("the last one", Probe.text(y, 59, true), "[58]");
    }

    private static void rowTexts() {
        Sentence s = of("A ROW as a text: +, - or =, its PATH, and (but for -) a blank and TOLD of what is.");
        NestQuery x = Probe.patch("{a:1,b:[7,-8],c:{}}", "{b:[7,-80],c:{d:[x]}}");
        s.due("rows", Probe.rows(x), "-.a | =.b[1] -80 | +.c.d [x]");
        NestQuery y = Probe.patch("[1]", "w");
        s.due("of an empty PATH", Probe.rows(y), "= w");
        s.due("bytes", y.rowText(0, -1), 3);
        s.due("the blank", y.rowText(0, 1), 32);
    }

    private static void counts(Sentence s, String data, int unlike) {
        NestQuery x = Probe.with(data);
        s.due("of " + data, x.count(7), unlike);
    }

    private static void unlike() {
        Sentence s = of("UNLIKE: how many of all THINGS, no two of which are LIKE, there are at most.");
        counts(s, "{}", 1);
        counts(s, "5", 1);
        counts(s, "[1,1]", 2);
        counts(s, "[1,2,1,2]", 3);
        counts(s, "[[],{},0,a]", 5);
        counts(s, "[[],[],[[]]]", 3);
        counts(s, "[{a:1,b:2},{b:2,a:1}]", 4);
        counts(s, "[[1,2],[2,1]]", 5);
        counts(s, Probe.ones(59), 2);
        counts(s, "{a:{a:{a:1}}}", 4);
    }

    private static void twins() {
        Sentence s = of("TWINS of a THING: others that are LIKE it.");
        NestQuery x = Probe.with("[{a:[],b:1},{b:1,a:[]},[],1,a]");
        int[] due = {0, 1, 2, 2, 1, 2, 2, 2, 2, 0};
        for (int thing = 0; thing < due.length; thing++) {
            s.due("of " + thing, x.thing(thing, 8), due[thing]);
        }
        NestQuery y = Probe.with(Probe.ones(59));
        s.due("of one of 59", y.thing(59, 8), 58);
        s.due("of ROOT", y.thing(0, 8), 0);
    }

    private static void noted() {
        Sentence s = of("NOTED (at most 8): that a THING (by number) is an ANSWER, or isn't.");
        NestQuery x = Probe.with("[1,2]", "[0]", "[1]", "..");
        for (int k = 1; k <= 7; k++) {
            s.due("noted", x.note(1, true), k);
        }
        s.due("those that fit", x.count(17), 5);
        s.due("the 8th", x.note(2, false), 8);
        s.due("those that fit", x.count(17), 1);
        s.refused(x, "the 9th", () -> x.note(1, false), 2);
        s.due("8", x.count(11), 8);
        s.due("those that fit", x.count(17), 1);
        // By number: what has that number now.
        s.did(x, "another tree", () -> Probe.put(x, 2, "[3,[4]]"), 1, "[3,[4]]");
        s.due("1 is still the first", x.count(17), 1);
        s.did(x, "a smaller one", () -> Probe.put(x, 2, "7"), 1, "7");
        s.due("there is no THING 1", x.count(17), 0);
    }

    private static void fitting() {
        Sentence s = of("FITS: PATHS (bits) by which all NOTED is so now.");
        NestQuery x = Probe.with("[1,2]", "[0]", null, "[1]", "..");
        s.due("all that are there, nothing is NOTED", x.count(17), 13);
        x.note(1, true);
        s.due("1 is", x.count(17), 9);
        x.note(2, false);
        s.due("2 isn't", x.count(17), 1);
        s.due("a path that fits now", Probe.path(x, 1, "[:1]"), 0);
        s.due("it too", x.count(17), 3);
        x.note(1, false);
        s.due("none can", x.count(17), 0);
        x.forget();
        s.due("all again", x.count(17), 15);
        x.note(2, true);
        s.due("of the tree now", x.count(17), 12);
        s.did(x, "that one is dropped", () -> x.change(2, 2), 1, "[1]");
        s.due("of the tree now", x.count(17), 0);
    }

    private static void lookNext() {
        Sentence s = of("LOOK NEXT: the THING that is an ANSWER of some of these and not of others, so that the lesser number of both "
                + "is the greatest (of like ones the first); none.");
        // 1 is of one, 2 of two, 3 of three, 4 of all four.
        NestQuery x = Probe.with("[1,2,3,4]", "[0:]", "[1:]", "[2:]", "[3:]");
        s.due("two against two", x.look(), 2);
        x.note(2, true);
        s.due("one against one", x.look(), 1);
        x.note(1, false);
        s.due("one alone", x.look(), -1);
        x.note(1, true);
        s.due("none fits", x.look(), -1);
        x.forget();
        s.due("path", Probe.path(x, 1, "[0:]"), 0);
        s.due("1 and 2 of two each, the first of both", x.look(), 1);
        s.due("path", Probe.path(x, 2, "[0:]"), 0);
        s.due("three against one", x.look(), 1);
        s.due("path", Probe.path(x, 3, "[0:]"), 0);
        s.due("all four the same", x.look(), -1);
        NestQuery y = Probe.with("[1,2]", "..", "[1]");
        s.due("ROOT may be it", y.look(), 0);
        NestQuery z = Probe.with("[1,2]", "[0]");
        s.due("of one PATH none", z.look(), -1);
        s.due("of no PATHS none", new NestQuery().look(), -1);
        // 1: paths 0 to 2, 2: paths 0 and 1: the second one is the better one.
        NestQuery u = Probe.with("[1,2]", ".*", ".*", "[0]", "[5]");
        s.due("not the first that divides them", u.look(), 2);
        s.due("nothing has changed", Probe.status(u) + " " + u.count(11), "0 0 0 0");
    }

    private static NestQuery grove() {
        return Probe.with(GROVE, "..", ".*", "[1]", "[3]");
    }

    private static void year(Sentence s, int seed, int n, int things, int numbers, int done, String then) {
        int[] due = {things, numbers, done};
        for (int what = 0; what < 3; what++) {
            NestQuery x = grove();
            s.due("years " + seed + " " + n + " " + what, x.years(seed, n, what), due[what]);
            s.due("the tree then", Probe.all(x), then);
            s.due("ACTS", x.count(10), done);
            s.due("STATUS", Probe.status(x), "0 0 0");
            for (int k = done - 1; k >= 0; k--) {
                s.due("undone", x.undo(), k);
            }
            s.due("as before", Probe.all(x), GROVE);
        }
    }

    private static void years() {
        Sentence s = of("YEARS by a seed: n times (0 to 20): a DRAW of 5: 0 ADDED, a DRAW of PATHS (4), a DRAW of 21, less 10; "
                + "1 TURNED, 2 SORTED, 3 DROPPED, a DRAW of PATHS; 4 MOVED: a DRAW of all THINGS, to a DRAW of all THINGS, "
                + "without a KEY; each if it can be: THINGS then; NUMBERS of all together then; how many were done.");
        year(s, 0, 0, 8, 11, 0, GROVE);
        // 0 of path 0, 13 less 10; then 2 of path 2; then 2 of path 1.
        year(s, 0, 1, 8, 23, 1, "[8,[6,4],{a:5},w]");
        year(s, 0, 2, 8, 23, 2, "[8,[4,6],{a:5},w]");
        year(s, 0, 3, 8, 23, 3, "[8,[4,6],{a:5},w]");
        // The greatest and the least that can be added.
        year(s, 51, 1, 8, 51, 1, "[15,[13,11],{a:12},w]");
        year(s, 418, 1, 8, -29, 1, "[-5,[-7,-9],{a:-8},w]");
        year(s, 11, 1, 8, 11, 1, "[w,{a:2},[1,3],5]");
        year(s, 17, 1, 8, 11, 1, "[5,w,[1,3],{a:2}]");
        // 3 of path 2; then 3 of path 3, where nothing is now.
        year(s, 1, 1, 5, 7, 1, "[5,{a:2},w]");
        year(s, 1, 2, 5, 7, 1, "[5,{a:2},w]");
        // 4: thing 5 to 2; then 3 of path 2.
        year(s, 22, 1, 8, 11, 1, "[5,[3,1,{a:2}],w]");
        year(s, 22, 2, 3, 5, 2, "[5,w]");
        // 4: ROOT (8), to a NUMBER (7), to a WORD (16).
        year(s, 8, 1, 8, 11, 0, GROVE);
        year(s, 7, 1, 8, 11, 0, GROVE);
        year(s, 16, 1, 8, 11, 0, GROVE);
        NestQuery x = Probe.with(GROVE);
        s.due("without PATHS", x.years(0, 1, 2), 0);
        s.iae(x, "n 21", () -> x.years(1, 21, 0));
        s.iae(x, "n -1", () -> x.years(1, -1, 0));
        s.due("n 20", x.years(1, 20, 0) > 0, true);
        twenty(s);
    }

    private static long seed;

    private static int draw(int n) {
        long next = seed * 1103515245L + 12345L;
        seed = (next % 4294967296L + 4294967296L) % 4294967296L;
        return (int) (seed / 65536L % 32768L % n);
    }

    /** Twenty years are as their acts, called one by one. */
    private static void twenty(Sentence s) {
        for (int from = -300; from <= 300; from++) {
            NestQuery x = grove();
            NestQuery y = grove();
            seed = from * 7654321L;
            int done = 0;
            for (int k = 0; k < 20; k++) {
                done += called(y) == -1 ? 0 : 1;
            }
            s.due("years by " + from * 7654321, x.years(from * 7654321, 20, 2), done);
            s.due("the tree then", Probe.all(x), Probe.all(y));
            s.due("ACTS then", x.count(10), done);
        }
    }

    private static int called(NestQuery y) {
        int act = draw(5);
        if (act == 0) {
            int slot = draw(4);
            return y.add(slot, draw(21) - 10);
        }
        if (act == 4) {
            int thing = draw(y.count(0));
            return y.move(thing, draw(y.count(0)), 0);
        }
        return y.change(draw(4), act - 1);
    }

    private static void draws() {
        Sentence s = of("A seed becomes itself times 1103515245 and 12345 (an int that wraps); a DRAW of n is its bits 16 to 30 MOD n then.");
        // Seeds that differ in bit 31 alone draw alike; those beyond an int's half wrap.
        for (int from : new int[] {0, 1, 22, 51, 418, 2147483647, 1103515245, 65536}) {
            for (int n : new int[] {1, 2, 20}) {
                NestQuery x = grove();
                NestQuery y = grove();
                s.due("years by " + from, x.years(from, n, 1), y.years(from ^ Integer.MIN_VALUE, n, 1));
                s.due("the tree then", Probe.all(x), Probe.all(y));
            }
        }
        // -1 becomes -1103502900: bits 16 to 30 are 15929: 4 MOVED; 4409 is THING 1, 9862 THING 6, a NUMBER.
        year(s, -1, 1, 8, 11, 0, GROVE);
        // It becomes 12345 and bit 31, so bits 16 to 30 are 0: ADDED; 21468 is path 0, 9988 is 13, less 10.
        year(s, -2147483648, 1, 8, 23, 1, "[8,[6,4],{a:5},w]");
    }

    private static void status() {
        Sentence s = of("STATUS: how many calls were refused: 0 texts with a FAULT, 1 ACTS, 2 what is NOTED.");
        NestQuery x = Probe.with("[1]", "[0]", "");
        s.due("none", Probe.status(x), "0 0 0");
        s.due("tree", Probe.tree(x, "["), 1);
        s.due("path", Probe.path(x, 0, "["), 1);
        s.due("put", Probe.put(x, 0, "["), -2);
        s.due("append", Probe.append(x, 0, "["), -2);
        s.due("key", Probe.key(x, 0, "a", "["), -2);
        s.due("five texts", Probe.status(x), "5 0 0");
        s.due("put", Probe.put(x, 2, "1"), -1);
        s.due("append", Probe.append(x, 0, "1"), -1);
        s.due("key", Probe.key(x, 0, "a", "1"), -1);
        s.due("add", x.add(1, 1), -1);
        s.due("change", x.change(1, 2), -1);
        s.due("move", x.move(0, 0, 0), -1);
        s.due("apply", x.apply(false), -1);
        s.due("seven ACTS", Probe.status(x), "5 7 0");
        s.due("note", x.note(2, true), -1);
        s.due("a note", Probe.status(x), "5 7 1");
        s.refused(x, "undo is not counted", () -> x.undo(), -1);
        s.refused(x, "keep is not counted", () -> x.keep(), -1);
        s.due("restore is not counted", x.restore(), false);
        s.due("as before", Probe.status(x), "5 7 1");
        s.nse(x, "what is thrown", () -> x.count(18));
        s.iae(x, "what is thrown", () -> x.put(0, 1));
        s.due("as before", Probe.status(x), "5 7 1");
        s.due("done", x.add(0, 1) + x.note(0, true) + Probe.tree(x, "[2]"), 2);
        s.due("as before", Probe.status(x), "5 7 1");
    }

    private static void image() {
        Sentence s = of("AN IMAGE keeps THE TREE, ACTS that are kept, what is NOTED, STATUS.");
        NestQuery x = Probe.lived();
        x.image();
        String seen = Probe.seen(x);
        s.due("STATUS", Probe.status(x), "1 1 1");
        s.due("changed", x.change(0, 0) + x.note(0, false) + x.tree(0) + x.add(3, 1) + x.note(99, true), 2);
        s.due("not as before", Probe.seen(x).equals(seen) || Probe.status(x).equals("1 1 1"), false);
        s.due("restored", x.restore(), true);
        s.due("all as before", Probe.seen(x), seen);
        s.due("STATUS as before", Probe.status(x), "1 1 1");
        s.due("its ACT is undone", x.undo(), 0);
        s.due("to the tree ahead of it", Probe.all(x), "[7,[2,{k:w}]]");
        s.due("what is NOTED", x.count(11), 1);
    }
}
