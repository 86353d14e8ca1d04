/** The sentences of the first part of the Terms: things, tokens, data, paths as texts. */
final class EdgesOfTexts {
    private static final String PART = "1";

    private EdgesOfTexts() {
    }

    static void run() {
        numbers();
        words();
        keys();
        order();
        root();
        sixtyThings();
        depthOfSeven();
        numbering();
        longestText();
        wordTokens();
        digitTokens();
        dotTokens();
        signTokens();
        blanks();
        quotes();
        dataForms();
        firstFault();
        firstByte();
        leastFault();
        cantStand();
        endsTooSoon();
        tooManyDigits();
        tooManyLetters();
        thing61();
        withinEight();
        keyTwice();
        emptyPath();
        stepForms();
        places();
        conditions();
        atoms();
        littles();
        pathFaults();
        ninthStep();
        nestedAtoms();
        test13();
    }

    private static Sentence of(String quote) {
        return new Sentence(PART, quote);
    }

    private static void numbers() {
        Sentence s = of("A THING is a NUMBER (-999 to 999),");
        s.data("999");
        s.data("-999");
        s.data("[-1,0,1]");
        s.data("[-0,-000]", "[0,0]");
        s.fault("1000", 2, 0);
        s.fault("-1000", 2, 1);
        NestQuery x = Probe.with("[999,-999]", "[0]", "[1]");
        s.due("999 and 1", x.add(0, 1), 1);
        s.due("-999 and -1", x.add(1, -1), 1);
        s.due("held there", Probe.all(x), "[999,-999]");
    }

    private static void words() {
        Sentence s = of("a WORD (1 to 6 letters),");
        s.data("a");
        s.data("z");
        s.data("abcdef");
        s.data("[zzzzzz,a]");
        s.fault("abcdefg", 2, 0);
        s.fault("[a,zzzzzzz]", 2, 3);
        s.fault("[,a]", 1, 1);
    }

    private static void keys() {
        Sentence s = of("a LIST of THINGS, a MAP of THINGS by KEYS (1 to 6 letters, unlike ones),");
        s.data("{a:1}");
        s.data("{abcdef:1}");
        s.data("{zzzzzz:1,zzzzz:2,z:3}");
        s.fault("{abcdefg:1}", 2, 1);
        s.fault("{:1}", 1, 1);
        s.fault("{a:1,b:2,a:1}", 3, 9);
        s.data("[]");
        s.data("{}");
        s.data("[1,1,1]");
    }

    private static void order() {
        Sentence s = of("both in their order.");
        s.data("[3,1,2]");
        s.data("{c:3,a:1,b:2}");
        NestQuery x = Probe.with("{c:3,a:[2,1]}");
        s.due("the first one by its KEY", x.thing(1, 6), 3);
        s.due("the first one of the LIST", x.thing(3, 6), 2);
        s.due("the second one", x.thing(4, 6), 1);
    }

    private static void root() {
        Sentence s = of("THE TREE is a THING (ROOT; at first an empty MAP) and all within it:");
        NestQuery x = new NestQuery();
        s.due("its kind", x.thing(0, 0), 3);
        s.due("nothing within it", x.thing(0, 4), 0);
        s.nse(x, "no second one", () -> x.thing(1, 0));
        s.due("told", Probe.all(x), "{}");
        for (String one : new String[] {"5", "w", "[]", "{}"}) {
            s.data(one);
        }
        s.due("a NUMBER alone", Probe.tree(x, "5"), 0);
        s.due("one THING", x.count(0), 1);
    }

    private static void sixtyThings() {
        Sentence s = of("at most 60 THINGS,");
        NestQuery x = Probe.with("[]", "", "[0]");
        s.due("60", Probe.tree(x, Probe.ones(59)), 0);
        s.due("are there", x.count(0), 60);
        s.due("the last one", x.thing(59, 2), 58);
        s.nse(x, "no 61st", () -> x.thing(60, 0));
        s.refusedText(x, "a 61st appended", () -> Probe.append(x, 0, "1"), -1, -1);
        s.refusedText(x, "a 61st put", () -> Probe.put(x, 1, "[1]"), -1, -1);
        s.didOnce(x, "one for one", () -> Probe.put(x, 1, "x"), 1, Probe.ones(59).replace("[1,", "[x,"));
        s.refusedText(x, "61 told", () -> Probe.tree(x, Probe.ones(60)), 2, 119);
        NestQuery y = Probe.with(Probe.ones(59).replace("1]", "[]]"), "[-1]", "..");
        s.refusedText(y, "a 61st within the 60th", () -> Probe.append(y, 0, "1"), -1, -1);
        s.refusedText(y, "more within both LISTS", () -> Probe.append(y, 1, "1"), -1, -1);
        NestQuery z = Probe.with(Probe.ones(59).replace("1]", "{}]"), "[-1]");
        s.refusedText(z, "a 61st by a KEY within the 60th", () -> Probe.key(z, 0, "a", "1"), -1, -1);
        s.didOnce(z, "the 60th DROPPED", () -> z.change(0, 2), 1, Probe.ones(58));
    }

    private static void depthOfSeven() {
        Sentence s = of("none within more than 7 others (its DEPTH).");
        NestQuery x = Probe.with("[[[[[[[1]]]]]]]", "[0][0][0][0][0][0]", "[0][0][0][0][0][0][0]");
        s.due("the greatest DEPTH", x.count(5), 7);
        s.due("its DEPTH", x.thing(7, 3), 7);
        s.due("DEPTH of ROOT", x.thing(0, 3), 0);
        s.didOnce(x, "one more at 7", () -> Probe.append(x, 0, "[]"), 1, "[[[[[[[1,[]]]]]]]]");
        s.refusedText(x, "one at 8 appended", () -> Probe.append(x, 0, "[1]"), -1, -1);
        s.refusedText(x, "one at 8 put", () -> Probe.put(x, 1, "{a:1}"), -1, -1);
        s.didOnce(x, "an empty one at 7", () -> Probe.put(x, 1, "{}"), 1, "[[[[[[[{}]]]]]]]");
        s.refusedText(x, "one at 8 told", () -> Probe.tree(x, "[[[[[[[[1]]]]]]]]"), 2, 8);
    }

    private static void numbering() {
        Sentence s = of("THINGS are numbered from 0 on: each ahead of those within it, these in their order.");
        NestQuery x = Probe.with("[{b:[1],a:2},3,[]]");
        String[] told = {"[{b:[1],a:2},3,[]]", "{b:[1],a:2}", "[1]", "1", "2", "3", "[]"};
        for (int thing = 0; thing < told.length; thing++) {
            s.due("told of " + thing, Probe.text(x, thing, false), told[thing]);
        }
        s.nse(x, "below 0", () -> x.thing(-1, 0));
        s.nse(x, "behind the last", () -> x.thing(7, 0));
    }

    private static void longestText() {
        Sentence s = of("A TEXT has at most 400 bytes.");
        StringBuilder b = new StringBuilder("[a");
        while (b.length() < 398) {
            b.append(' ');
        }
        NestQuery x = Probe.lived();
        s.due("399 and one", Probe.tree(x, b + ",b"), 1);
        s.due("ends too soon at 400", x.fault(), 400);
        s.due("with its last byte", Probe.tree(x, b.toString() + " ]"), 0);
        s.due("told", Probe.all(x), "[a]");
        s.due("401 can't be: the tape has 400", Probe.feed(x, b.toString() + "  ]"), 401);
        s.due("bytes of the tape", x.count(12), 400);
        s.iae(x, "401", () -> x.tree(401));
        s.due("400 of it", x.tree(400), 1);
        s.due("end too soon", x.fault(), 400);
        s.due("as a path", Probe.path(x, 0, b.toString().replace("[a", ".a") + "[0"), 1);
        s.due("ends too soon", x.fault(), 400);
        s.due("its last byte", Probe.path(x, 0, b.toString().replace("[a", ".a") + ".*"), 0);
        s.due("steps", x.steps(0, -1), 2);
    }

    private static void wordTokens() {
        Sentence s = of("TOKENS: words (a .. z, the longest row),");
        s.data("[az]");
        s.fault("[a z]", 1, 3);
        s.fault("abcdefghijkl", 2, 0);
        s.fault("`", 1, 0);
        s.fault("a`", 1, 1);
        s.fault("z{", 1, 1);
        s.fault("aA", 1, 1);
        s.fault("Z", 1, 0);
        s.fault("a1", 1, 1);
        s.pathFault(".aA", 1, 2);
        s.pathFault(".a1", 1, 2);
    }

    private static void digitTokens() {
        Sentence s = of("digits (the longest row),");
        s.data("[109,9,0]");
        s.fault("1234", 2, 0);
        s.fault("123456789012345678901234567890", 2, 0);
        s.fault("4294967297", 2, 0);
        s.fault("12 3", 1, 3);
        s.fault("1/", 1, 1);
        s.fault("/", 1, 0);
        s.fault("9:", 1, 1);
        s.fault(":", 1, 0);
        s.fault("1a", 1, 1);
        s.pathFault("[1 2]", 1, 3);
    }

    private static void dotTokens() {
        Sentence s = of("two dots side by side,");
        s.path("..", 1);
        s.path("....", 2);
        s.path("...a", 2);
        s.path(".. ..", 2);
        s.path(".. .a", 2);
        s.pathFault(".", 1, 1);
        s.pathFault(". .", 1, 2);
        s.pathFault(".\n.", 1, 2);
        s.pathFault("...", 1, 3);
        s.pathFault(". ..", 1, 2);
        s.pathFault("..a", 1, 2);
        s.fault("[1..2]", 1, 2);
        s.fault("..", 1, 0);
    }

    private static void signTokens() {
        Sentence s = of("other signs by themselves,");
        s.data("[[],[[]]]");
        s.fault("--1", 1, 1);
        s.fault("[1,,2]", 1, 3);
        s.fault("{a::1}", 1, 3);
        s.pathFault("?(@==1)", 1, 4);
        s.pathFault("?(@&&@)", 1, 4);
        s.pathFault("?(@||@)", 1, 4);
        s.pathFault("?(@<=1)", 1, 4);
        s.pathFault("??(@)", 1, 1);
        s.path("?(!!@)", 1);
    }

    private static void blanks() {
        Sentence s = of("and blanks (32, 10) between them, which count for nothing.");
        s.data(" \n[ \n1 \n, \n- \n2 \n, \nab \n, \n{ \na \n: \n3 \n} \n] \n", "[1,-2,ab,{a:3}]");
        s.fault("[a b]", 1, 3);
        s.fault("[1\n2]", 1, 3);
        char[] others = {0, 9, 11, 12, 13, 31, 33, 127, 128, 160, 202, 255};
        for (char other : others) {
            s.fault(other + "1", 1, 0);
            s.fault("[1" + other + "]", 1, 2);
            s.pathFault(".a" + other, 1, 2);
        }
        s.path(" \n. \na \n[ \n- \n1 \n: \n] \n? \n( \n! \n@ \n. \nb \n= \n- \n1 \n) \n", 3);
    }

    private static void quotes() {
        Sentence s = of("In quotes is what stands there, [ ] perhaps (not in quotes), * any number of times (not in quotes), "
                + "| one of some (not in quotes).");
        s.data("[1,2,3]");
        s.fault("[1,2|3]", 1, 4);
        s.fault("*", 1, 0);
        s.fault("'-'1", 1, 0);
        s.path(".*", 1);
        s.path("?(@|@)", 1);
        s.pathFault(".a*", 1, 2);
    }

    private static void dataForms() {
        Sentence s = of("DATA: ['-'] NUMBER | WORD | '[' [DATA (',' DATA)*] ']' | '{' [KEY ':' DATA (',' KEY ':' DATA)*] '}'.");
        for (String good : new String[] {"1", "-1", "a", "[]", "[-1]", "[a,1]", "{}", "{a:-1}", "{a:1,b:[],c:{}}", "[[],{}]"}) {
            s.data(good);
        }
        s.fault("-", 1, 1);
        s.fault("-a", 1, 1);
        s.fault("-[]", 1, 1);
        s.fault("-{}", 1, 1);
        s.fault("+1", 1, 0);
        s.fault("[1,]", 1, 3);
        s.fault("[1}", 1, 2);
        s.fault("[1 2]", 1, 3);
        s.fault("{,}", 1, 1);
        s.fault("{a}", 1, 2);
        s.fault("{a,b}", 1, 2);
        s.fault("{a:}", 1, 3);
        s.fault("{a:1,}", 1, 5);
        s.fault("{a:1]", 1, 4);
        s.fault("{a:1 b:2}", 1, 5);
        s.fault("{1:1}", 1, 1);
        s.fault("{-a:1}", 1, 1);
        s.fault("{[]:1}", 1, 1);
        s.fault("[a:1]", 1, 2);
        s.fault("a:1", 1, 1);
    }

    private static void firstFault() {
        Sentence s = of("FAULTS, the first along the text,");
        s.fault("[1000,,abcdefg]", 2, 1);
        s.fault("[,1000]", 1, 1);
        s.fault("{a:1,a:1000}", 3, 5);
        s.fault("{a:1000,a:1}", 2, 3);
        s.fault("{a:1,a}", 3, 5);
        s.fault("{a,a:1}", 1, 2);
        s.pathFault("[1000", 2, 1);
        s.pathFault("[abcdefg:1000]", 1, 1);
    }

    private static void firstByte() {
        Sentence s = of("at a TOKEN's first byte,");
        s.fault("[ab,  abcdefg]", 2, 6);
        s.fault("  1000 ", 2, 2);
        s.fault("{ab:1,\n ab:2}", 3, 8);
        s.fault("[ab  cd]", 1, 5);
        s.fault("[1  ..]", 1, 4);
        s.pathFault(".a  abc", 1, 4);
        s.pathFault("[  1000]", 2, 3);
    }

    private static void leastFault() {
        Sentence s = of("of one TOKEN the least:");
        s.fault("[1 1000]", 1, 3);
        s.fault("[a abcdefg]", 1, 3);
        s.fault("1 abcdefg", 1, 2);
        s.fault("{1000:1}", 1, 1);
        s.fault(Probe.ones(59).replace("]", ",]"), 1, 119);
        s.fault("[[[[[[[[,", 1, 8);
        s.pathFault(".a.a.a.a.a.a.a.a abcdefg", 1, 17);
        s.pathFault("?(!!!!!)", 1, 7);
        s.pathFault("[1 1000]", 1, 3);
    }

    private static void cantStand() {
        Sentence s = of("1 a TOKEN that can't stand there, or is none");
        s.fault("]", 1, 0);
        s.fault("}", 1, 0);
        s.fault("#", 1, 0);
        s.fault("[1,#]", 1, 3);
        s.fault("{a:\"}", 1, 3);
        s.fault("" + (char) 200, 1, 0);
        s.pathFault("a", 1, 0);
        s.pathFault("$.a", 1, 0);
    }

    private static void endsTooSoon() {
        Sentence s = of("(the text's length where it ends too soon; something behind DATA);");
        s.fault("", 1, 0);
        s.fault("   ", 1, 3);
        s.fault("[", 1, 1);
        s.fault("[1", 1, 2);
        s.fault("[1,", 1, 3);
        s.fault("[1 \n", 1, 4);
        s.fault("{", 1, 1);
        s.fault("{a", 1, 2);
        s.fault("{a:", 1, 3);
        s.fault("{a:1", 1, 4);
        s.fault("{a:1,", 1, 5);
        s.fault("- ", 1, 2);
        s.fault("1 1", 1, 2);
        s.fault("1,", 1, 1);
        s.fault("[] ]", 1, 3);
        s.fault("{}a", 1, 2);
        s.fault("{}{}", 1, 2);
        s.data("[]  \n ", "[]");
    }

    private static void tooManyDigits() {
        Sentence s = of("2 one that can, but is too much: digits, more than 3;");
        s.data("000", "0");
        s.fault("0000", 2, 0);
        s.data("[-099]", "[-99]");
        s.fault("[-0099]", 2, 2);
        s.data("{a:999}");
        s.fault("{a:9990}", 2, 3);
    }

    private static void tooManyLetters() {
        Sentence s = of("a word of more than 6 letters;");
        s.data("{abcdef:abcdef}");
        s.fault("{abcdef:abcdefg}", 2, 8);
        s.fault("{abcdefg:abcdef}", 2, 1);
        s.fault("{abcdef:1,abcdefg:2}", 2, 10);
        s.pathFault(".abcdefg", 2, 1);
        s.path(".abcdef", 1);
        s.pathFault("?(@.abcdefg)", 2, 4);
        s.pathFault("?(@=abcdefg)", 2, 4);
        s.path("?(@.abcdef=abcdef)", 1);
    }

    private static void thing61() {
        Sentence s = of("the first TOKEN of the 61st THING,");
        s.data(Probe.ones(59));
        s.data(Probe.ones(58).replace("]", ",[]]"));
        s.data(Probe.ones(58).replace("]", ",{}]"));
        for (String last : new String[] {"1", "-1", "a", "[]", "{}", "[1]", "abcdefg", "1000", "-x"}) {
            s.fault(Probe.ones(59).replace("]", "," + last + "]"), 2, 119);
        }
        s.fault(Probe.ones(58).replace("]", ",[1]]"), 2, 118);
        s.fault(Probe.ones(58).replace("]", ",{a:1}]"), 2, 120);
        StringBuilder b = new StringBuilder("{");
        for (int k = 0; k < 59; k++) {
            b.append(k == 0 ? "" : ",").append((char) ('a' + k / 26)).append((char) ('a' + k % 26)).append(":1");
        }
        s.data(b + "}");
        s.fault(b + ",zz:-1}", 2, b.length() + 4);
        s.fault(b + ",aa:1}", 3, b.length() + 1);
        s.fault(b + ",zz}", 1, b.length() + 3);
    }

    private static void withinEight() {
        Sentence s = of("or of one within 8 others;");
        s.data("[[[[[[[1]]]]]]]");
        s.data("[[[[[[[[]]]]]]]]");
        s.data("[[[[[[[{}]]]]]]]");
        for (String inner : new String[] {"1", "-1", "a", "[]", "{}", "abcdefg", "1000"}) {
            s.fault("[[[[[[[[" + inner + "]]]]]]]]", 2, 8);
        }
        s.data("{a:{a:{a:{a:{a:{a:{a:1}}}}}}}");
        s.data("{a:{a:{a:{a:{a:{a:{a:{}}}}}}}}");
        s.fault("{a:{a:{a:{a:{a:{a:{a:{a:1}}}}}}}}", 2, 24);
        s.fault("[[[[[[[[", 1, 8);
        s.data("[[[[[[[1]]]]]],[[[[[[2]]]]]]]");
    }

    private static void keyTwice() {
        Sentence s = of("3 a KEY that its MAP has told already.");
        s.fault("{a:1,a:2}", 3, 5);
        s.fault("{abcdef:1,abcdef:1}", 3, 10);
        s.fault("{a:{b:1,b:2}}", 3, 8);
        s.fault("{a:{b:1},a:2}", 3, 9);
        s.fault("[{a:1},{b:1,b:1}]", 3, 12);
        s.data("{a:{a:1},b:{a:2}}");
        s.data("{a:{b:1},b:1}");
        s.data("[{a:1},{a:1}]");
        s.data("{ab:1,ba:2,a:3,b:4,aab:5}");
        s.data("{a:a,b:a}");
    }

    private static void emptyPath() {
        Sentence s = of("PATH: STEP*.");
        s.path("", 0);
        s.path("  \n ", 0);
        s.answers("[1]", "", "0");
        s.path(".a", 1);
        s.path(".a.b[0]..?(@)", 5);
        s.pathFault(".a,", 1, 2);
    }

    private static void stepForms() {
        Sentence s = of("STEP: '.' KEY | '.' '*' | '..' | '[' PLACE ']' | '[' [PLACE] ':' [PLACE] ']' | '?' '(' COND ')'.");
        for (String good : new String[] {".a", ".*", "..", "[0]", "[:]", "[1:]", "[:1]", "[1:2]", "[-1:-2]", "?(@)"}) {
            s.path(good, 1);
        }
        s.pathFault(".", 1, 1);
        s.pathFault(".1", 1, 1);
        s.pathFault(".-a", 1, 1);
        s.pathFault(".[0]", 1, 1);
        s.pathFault("..*", 1, 2);
        s.pathFault("*", 1, 0);
        s.pathFault("[]", 1, 1);
        s.pathFault("[", 1, 1);
        s.pathFault("[1", 1, 2);
        s.pathFault("[1:", 1, 3);
        s.pathFault("[:", 1, 2);
        s.pathFault("[*]", 1, 1);
        s.pathFault("[a]", 1, 1);
        s.pathFault("[1:a]", 1, 3);
        s.pathFault("[1:2:3]", 1, 4);
        s.pathFault("[1,2]", 1, 2);
        s.pathFault("[1)", 1, 2);
        s.pathFault("?", 1, 1);
        s.pathFault("?@", 1, 1);
        s.pathFault("?(", 1, 2);
        s.pathFault("?()", 1, 2);
        s.pathFault("?(@", 1, 3);
        s.pathFault("?(@]", 1, 3);
        s.pathFault("?(@))", 1, 4);
        s.pathFault("(@)", 1, 0);
    }

    private static void places() {
        Sentence s = of("PLACE: ['-'] NUMBER.");
        s.path("[0]", 1);
        s.path("[999]", 1);
        s.path("[-999]", 1);
        s.path("[-0]", 1);
        s.path("[-999:999]", 1);
        s.pathFault("[1000]", 2, 1);
        s.pathFault("[-1000]", 2, 2);
        s.pathFault("[0000]", 2, 1);
        s.pathFault("[:1000]", 2, 2);
        s.pathFault("[1:-1000]", 2, 4);
        s.pathFault("[--1]", 1, 2);
        s.pathFault("[-]", 1, 2);
        s.pathFault("[1:-]", 1, 4);
        s.pathFault("[+1]", 1, 1);
    }

    private static void conditions() {
        Sentence s = of("COND: ALL ('|' ALL)*. ALL: ATOM ('&' ATOM)*.");
        s.path("?(@)", 1);
        s.path("?(@|@)", 1);
        s.path("?(@|@|@)", 1);
        s.path("?(@&@)", 1);
        s.path("?(@&@&@|@&@)", 1);
        s.pathFault("?(|@)", 1, 2);
        s.pathFault("?(&@)", 1, 2);
        s.pathFault("?(@|)", 1, 4);
        s.pathFault("?(@&)", 1, 4);
        s.pathFault("?(@|&@)", 1, 4);
        s.pathFault("?(@ @)", 1, 4);
        s.pathFault("?(@,@)", 1, 3);
    }

    private static void atoms() {
        Sentence s = of("ATOM: '!' ATOM | '(' COND ')' | LITTLE [('=' | '<' | '>') (['-'] NUMBER | WORD)].");
        for (String good : new String[] {"!@", "(@)", "(@|@)", "!(@)", "(!@)", "@=1", "@<-1", "@>a", "@=-999", "!@=1", "@=a&@=b"}) {
            s.path("?(" + good + ")", 1);
        }
        s.pathFault("?(!)", 1, 3);
        s.pathFault("?(())", 1, 3);
        s.pathFault("?((@)", 1, 5);
        s.pathFault("?(@!)", 1, 3);
        s.pathFault("?(@(@))", 1, 3);
        s.pathFault("?(1)", 1, 2);
        s.pathFault("?(a=@)", 1, 2);
        s.pathFault("?(@=)", 1, 4);
        s.pathFault("?(@=-)", 1, 5);
        s.pathFault("?(@=-a)", 1, 5);
        s.pathFault("?(@=@)", 1, 4);
        s.pathFault("?(@=[1])", 1, 4);
        s.pathFault("?(@=1=1)", 1, 5);
        s.pathFault("?((@)=1)", 1, 5);
        s.pathFault("?(@=1000)", 2, 4);
        s.pathFault("?(@=-1000)", 2, 5);
        s.path("?(@=-000)", 1);
    }

    private static void littles() {
        Sentence s = of("LITTLE: '@' ('.' KEY | '[' PLACE ']')*.");
        s.path("?(@.a)", 1);
        s.path("?(@[0])", 1);
        s.path("?(@[-1].a.b[2])", 1);
        StringBuilder b = new StringBuilder("?(@");
        for (int k = 0; k < 198; k++) {
            b.append(".a");
        }
        s.path(b + ")", 1);
        s.pathFault("?(.a)", 1, 2);
        s.pathFault("?(@a)", 1, 3);
        s.pathFault("?(@.)", 1, 4);
        s.pathFault("?(@.*)", 1, 4);
        s.pathFault("?(@..)", 1, 3);
        s.pathFault("?(@[])", 1, 4);
        s.pathFault("?(@[:])", 1, 4);
        s.pathFault("?(@[1:2])", 1, 5);
        s.pathFault("?(@[1)", 1, 5);
        s.pathFault("?(@[1000])", 2, 4);
        s.pathFault("?(@?(@))", 1, 3);
    }

    private static void pathFaults() {
        Sentence s = of("FAULTS 1, 2 likewise");
        s.pathFault(".a b", 1, 3);
        s.pathFault("[12", 1, 3);
        s.pathFault("?(@.a  ", 1, 7);
        s.pathFault("..[0001]", 2, 3);
        s.pathFault("..  .abcdefg", 2, 5);
        // A KEY may stand in a PATH again and again: FAULT 3 is one of DATA alone.
        s.path(".a.a", 2);
        s.path("?(@.a.a=1&@.a=1)", 1);
    }

    private static void ninthStep() {
        Sentence s = of("(2 also: the first TOKEN of the 9th STEP;");
        s.path(".a.a.a.a.a.a.a.a", 8);
        s.path("................", 8);
        s.path("[0][0][0][0][0][0][0]?(@.a.a.a)", 8);
        s.pathFault(".a.a.a.a.a.a.a.a.a", 2, 16);
        s.pathFault(".a.a.a.a.a.a.a.a .", 2, 17);
        s.pathFault(".a.a.a.a.a.a.a.a..", 2, 16);
        s.pathFault(".a.a.a.a.a.a.a.a[", 2, 16);
        s.pathFault(".a.a.a.a.a.a.a.a?", 2, 16);
        s.pathFault(".a.a.a.a.a.a.a.a*", 1, 16);
        s.pathFault(".a.a.a.a.a.a.a.a]", 1, 16);
    }

    private static void nestedAtoms() {
        Sentence s = of("a '!', a '(' of an ATOM within 5 others of these;");
        s.path("?(!!!!!@)", 1);
        s.path("?((((((@))))))", 1);
        s.path("?(!(!(!@)))", 1);
        s.pathFault("?(!!!!!!@)", 2, 7);
        s.pathFault("?(((((((@)))))))", 2, 7);
        s.pathFault("?(!(!(!(@))))", 2, 7);
        s.pathFault("?((!(!(!@))))", 2, 7);
        // Side by side they are not within one another, nor is one in the next filter.
        s.path("?(!!!!!@&!!!!!@|(((((@))))))", 1);
        s.path("?(!!!!!@)?(!!!!!@)", 2);
        s.path("?(!(!(!@)&!!@))", 1);
        s.pathFault("?(!(!(!@)&!!!!@))", 2, 13);
        s.pathFault("?(@&!!!!!!", 2, 9);
    }

    private static void test13() {
        Sentence s = of("the 13th '@').");
        String twelve = "?(@|@|@|@|@|@|@|@|@|@|@|@)";
        s.path(twelve, 1);
        s.pathFault(twelve.replace(")", "|@)"), 2, 26);
        s.pathFault(twelve.replace(")", "|!@)"), 2, 27);
        s.pathFault(twelve + "?(@)", 2, 28);
        s.path("?(@&@&@)?(@&@&@)?(@&@&@)?(@&@&@)", 4);
        s.pathFault("?(@&@&@)?(@&@&@)?(@&@&@)?(@&@&@&@", 2, 32);
        // Another PATH counts anew.
        NestQuery x = Probe.with("[1]");
        for (int slot = 0; slot < 4; slot++) {
            s.due("path " + slot, Probe.path(x, slot, twelve), 0);
            s.due("answers of " + slot, Probe.answers(x, slot), "0");
        }
    }
}
