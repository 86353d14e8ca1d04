/** The sentences of promises 1 to 14: texts that come in, and questions. */
final class EdgesOfQuestions {
    private static final int MOST = Integer.MAX_VALUE;
    private static final int LEAST = Integer.MIN_VALUE;

    private EdgesOfQuestions() {
    }

    static void run() {
        newObject();
        feedLays();
        feedBeyond();
        treeReads();
        treeAnew();
        treeAndImage();
        treeThrows();
        pathReads();
        pathThrows();
        faultPlace();
        counts();
        countThrows();
        things();
        thingThrows();
        withins();
        withinThrows();
        tolds();
        toldThrows();
        alikes();
        alikeThrows();
        answers();
        answerThrows();
        steps();
        stepsThrows();
        rows();
        rowThrows();
        rowTexts();
        rowTextThrows();
    }

    private static Sentence of(int promise, String quote) {
        return new Sentence("Promise " + promise, quote);
    }

    private static void newObject() {
        Sentence s = of(1, "An empty MAP, no PATHS.");
        NestQuery x = new NestQuery();
        int[] due = {1, 0, 0, 0, 1, 0, 0, 1, 0, -1, 0, 0, 0, 0, 0, 0, 0, 0};
        for (int what = 0; what < due.length; what++) {
            s.due("count " + what, x.count(what), due[what]);
        }
        s.due("told", Probe.all(x), "{}");
        s.due("no FAULT", x.fault(), -1);
        s.due("nothing to undo, to keep, to look at", x.undo() + x.keep() + x.look(), -3);
        s.due("no image", x.restore(), false);
        s.nse(x, "no ROWS", () -> x.row(0, 0));
        NestQuery y = new NestQuery();
        s.due("of one object", Probe.tree(y, "[1,2]"), 0);
        s.due("not of another one", Probe.all(x), "{}");
    }

    private static void feedLays() {
        Sentence s = of(2, "Twenty bytes come behind the tape, of each number the highest first: how many it has;");
        NestQuery x = new NestQuery();
        s.due("twenty", x.feed('[' << 24 | '1' << 16 | '2' << 8 | ',', '3' << 24 | ',' << 16 | '4' << 8 | '5',
                ',' << 24 | '6' << 16 | ',' << 8 | '7', ',' << 24 | '8' << 16 | ',' << 8 | 'a', 'b' << 24 | 'c' << 16 | ',' << 8 | 'd'), 20);
        s.due("twenty more", x.feed('e' << 24 | ']' << 16, 0, 0, 0, 0), 40);
        s.due("read", x.tree(22), 0);
        s.due("in their order", Probe.all(x), "[12,3,45,6,7,8,abc,de]");
        s.due("anew", x.feed(0, 0, 0, 0, 0), 20);
        s.due("the highest byte of numbers below 0", x.feed(-1, LEAST, MOST, -2, 255), 40);
        s.due("bytes above 127 are signs that can't stand", Probe.tree(x, "") * 10 + x.count(12), 10);
        // Each of the 20 places of a call, found by its own fault.
        for (int at = 0; at < 20; at++) {
            int[] five = new int[5];
            java.util.Arrays.fill(five, 0x20202020);
            five[at / 4] ^= (0x20 ^ 0xC1) << 24 - at % 4 * 8;
            s.due("twenty", x.feed(five[0], five[1], five[2], five[3], five[4]), 20);
            s.due("a fault", x.tree(20), 1);
            s.due("at its place", x.fault(), at);
        }
    }

    private static void feedBeyond() {
        Sentence s = of(2, "NONE, and none come, if it would have more than 400.");
        NestQuery x = new NestQuery();
        for (int k = 1; k <= 19; k++) {
            s.due("up to 380", x.feed(0x20202020, 0x20202020, 0x20202020, 0x20202020, 0x20202020), 20 * k);
        }
        s.due("400", x.feed(0x20202020, 0x20202020, 0x20202020, 0x20202020, 0x20202037), 400);
        s.due("bytes of the tape", x.count(12), 400);
        s.refused(x, "more", () -> x.feed(0x38383838, 0x38383838, 0x38383838, 0x38383838, 0x38383838), -1);
        s.refused(x, "more again", () -> x.feed(0, 0, 0, 0, 0), -1);
        s.due("all 400", x.tree(400), 0);
        s.due("as they came", Probe.all(x), "7");
        s.due("and again from the first", x.feed(0x39202020, 0, 0, 0, 0), 20);
        s.due("one of it", x.tree(1), 0);
        s.due("as it came", Probe.all(x), "9");
    }

    private static void treeReads() {
        Sentence s = of(3, "The tape's first n bytes (it is empty then, also below, whatever comes of it, "
                + "but where IllegalArgumentException is thrown) are DATA:");
        NestQuery x = Probe.with("{}", "");
        Probe.feed(x, "12345");
        s.due("three of them", x.tree(3), 0);
        s.due("told", Probe.all(x), "123");
        s.due("the tape is empty", x.count(12), 0);
        s.iae(x, "so it has not one more", () -> x.tree(1));
        Probe.feed(x, "7");
        s.due("none of them: a fault", x.tree(0), 1);
        s.due("the tape is empty", x.count(12), 0);
        Probe.feed(x, "7");
        s.due("all twenty", x.tree(20), 0);
        s.due("the tape is empty", x.count(12), 0);
        Probe.feed(x, "7");
        s.iae(x, "21 of 20", () -> x.tree(21));
        s.due("the tape stays", x.count(12), 20);
        s.due("and can be read", x.tree(1), 0);
        String[] texts = {"[1]", "[1", "..", "..."};
        for (String text : texts) {
            empties(s, x, text);
        }
    }

    private static void empties(Sentence s, NestQuery x, String text) {
        int n = Probe.feed(x, text);
        s.due("path " + text, x.path(1, n) >= 0, true);
        s.due("the tape", x.count(12), 0);
        for (int slot : new int[] {0, 2, 9}) {
            Probe.feed(x, text);
            s.due("put " + text, x.put(slot, n) != 0, true);
            s.due("the tape", x.count(12), 0);
            Probe.feed(x, text);
            s.due("append " + text, x.append(slot, n) != 0, true);
            s.due("the tape", x.count(12), 0);
            Probe.feed(x, text);
            s.due("key " + text, x.key(slot, 1, n) != 0, true);
            s.due("the tape", x.count(12), 0);
            Probe.feed(x, text);
            s.due("no KEY " + text, x.key(slot, 27, n), -1);
            s.due("the tape", x.count(12), 0);
        }
    }

    private static void treeAnew() {
        Sentence s = of(3, "THE TREE, all else anew but PATHS, what is KEPT, STATUS: 0, or the FAULT (all stays, but STATUS).");
        NestQuery x = Probe.lived();
        s.refusedText(x, "a FAULT", () -> Probe.tree(x, "[1,,]"), 1, 3);
        s.due("STATUS", Probe.status(x), "2 1 1");
        s.due("0", Probe.tree(x, "{k:[5]}"), 0);
        s.due("told", Probe.all(x), "{k:[5]}");
        s.due("no ACTS", x.count(10), 0);
        s.due("nothing to undo", x.undo(), -1);
        s.due("told", Probe.all(x), "{k:[5]}");
        s.due("nothing is NOTED", x.count(11), 0);
        s.due("PATHS stay", x.count(6), 7);
        s.due("and lead through the new one", Probe.answers(x, 1) + " " + Probe.answers(x, 2), "2 1");
        s.due("what is KEPT stays", Probe.rows(x), "+[2] 8");
        s.due("STATUS stays", Probe.status(x), "2 1 1");
        s.due("no FAULT", x.fault(), -1);
        s.due("8 can be NOTED", x.note(0, true) + x.note(0, true) + x.note(0, true), 6);
    }

    private static void treeAndImage() {
        Sentence s = of(3, "The image is gone.");
        NestQuery x = Probe.lived();
        s.due("there is one", x.count(9), 1);
        s.due("a FAULT", Probe.tree(x, "]"), 1);
        s.due("there is one still", x.count(9), 1);
        s.due("the same tree", Probe.tree(x, "[7,[2,{k:w}],8]"), 0);
        s.due("there is none", x.count(9), -1);
        s.due("nothing to restore", x.restore(), false);
        s.due("nor to keep", x.keep(), -1);
        s.due("told", Probe.all(x), "[7,[2,{k:w}],8]");
        x.image();
        s.due("another one", x.restore(), true);
    }

    private static void treeThrows() {
        Sentence s = of(3, "IllegalArgumentException (also below): the tape has not so many, n below 0 (nothing changes).");
        NestQuery x = Probe.lived();
        for (int n : new int[] {1, -1, MOST, LEAST}) {
            throwing(s, x, n);
        }
        Probe.feed(x, "[9]");
        for (int n : new int[] {21, 40, 400, 401, -1, -20, MOST, LEAST}) {
            throwing(s, x, n);
        }
        s.due("20 it has", x.tree(20), 0);
    }

    private static void throwing(Sentence s, NestQuery x, int n) {
        s.iae(x, "tree " + n, () -> x.tree(n));
        s.iae(x, "path " + n, () -> x.path(0, n));
        for (int slot : new int[] {0, 3, -1, 4}) {
            s.iae(x, "put " + n, () -> x.put(slot, n));
            s.iae(x, "append " + n, () -> x.append(slot, n));
            s.iae(x, "key " + n, () -> x.key(slot, 1, n));
            s.iae(x, "no key " + n, () -> x.key(slot, 0, n));
        }
    }

    private static void pathReads() {
        Sentence s = of(4, "The tape's first n bytes are a PATH, in place of one: 0, or the FAULT (the PATH stays).");
        NestQuery x = Probe.with("{a:1,ab:2}");
        Probe.feed(x, ".ab[");
        s.due("two of them", x.path(3, 2), 0);
        s.due("answers", Probe.answers(x, 3), "1");
        Probe.feed(x, ".ab[");
        s.due("three of them, in its place", x.path(3, 3), 0);
        s.due("answers", Probe.answers(x, 3), "2");
        s.due("PATHS", x.count(6), 8);
        s.refusedText(x, "a FAULT", () -> Probe.path(x, 3, ".ab["), 1, 4);
        s.due("answers", Probe.answers(x, 3), "2");
        s.refusedText(x, "a FAULT where there is none", () -> Probe.path(x, 0, "?(@.abcdefg)"), 2, 4);
        s.due("PATHS", x.count(6), 8);
        Probe.feed(x, ".ab");
        s.due("none of them: the empty one", x.path(3, 0), 0);
        s.due("answers", Probe.answers(x, 3), "0");
        s.due("a filter", Probe.path(x, 3, ".*?(@=1|@=2&!@=2)"), 0);
        s.due("answers", Probe.answers(x, 3), "1");
        s.refusedText(x, "a FAULT behind much that is none", () -> Probe.path(x, 3, ".*?(@=2|@=2)[0:1]..x"), 1, 19);
        s.due("answers", Probe.answers(x, 3), "1");
        Probe.feed(x, "....");
        s.refusedText(x, "one dot of four", () -> x.path(3, 1), 1, 1);
        Probe.feed(x, "....");
        s.refusedText(x, "three dots of four", () -> x.path(3, 3), 1, 3);
        StringBuilder b = new StringBuilder(".a");
        while (b.length() < 399) {
            b.append(' ');
        }
        s.refusedText(x, "a dot at the tape's end", () -> Probe.path(x, 3, b + "."), 1, 400);
        again(s);
    }

    /** However often paths are compiled anew, nothing of the old ones is left. */
    private static void again(Sentence s) {
        NestQuery x = Probe.with("{b:[2]}");
        String much = "?(@|!!!!!@.b[0]=3&!!!!@.b[0]=2|!!!!!@|!!!!!@|!!!!!@|!!!!!@|!!!!!@|!!!!!@|!!!!!@|!!!!!@|!!!!!@)..";
        String none = "?(!!!!!@)";
        for (int k = 0; k < 60; k++) {
            s.due("much", Probe.path(x, 1, much), 0);
            s.due("answers", Probe.answers(x, 1), "0,1,2");
            s.refusedText(x, "much, and a FAULT", () -> Probe.path(x, 1, much + "a"), 1, much.length());
            s.due("answers", Probe.answers(x, 1), "0,1,2");
            s.due("none", Probe.path(x, 1, none + "?(@.b.b.b.b.b.b.b.b.b.b.b.b.b.b)"), 0);
            s.due("no answers", Probe.answers(x, 1), "");
            s.due("one", Probe.path(x, 1, "?(@.b[0]=2).b"), 0);
            s.due("its answer", Probe.answers(x, 1), "1");
        }
    }

    private static void pathThrows() {
        Sentence s = of(4, "NoSuchElementException (ahead of that): no such PATH may be (nothing changes).");
        NestQuery x = Probe.lived();
        Probe.feed(x, ".a");
        for (int slot : new int[] {4, -1, 5, MOST, LEAST}) {
            for (int n : new int[] {2, 0, 1, 20, 21, -1, MOST, LEAST}) {
                s.nse(x, "path " + slot + " " + n, () -> x.path(slot, n));
            }
        }
        s.iae(x, "a PATH that may be", () -> x.path(3, 21));
        s.due("the tape is as it was", x.path(3, 2), 0);
    }

    private static void faultPlace() {
        Sentence s = of(5, "The place of the FAULT of the latest text that was read; NONE without.");
        NestQuery x = Probe.with("[1]", "", "[0]");
        s.due("without", x.fault(), -1);
        s.due("tree", Probe.tree(x, "[1,x"), 1);
        s.due("of tree", x.fault(), 4);
        s.due("asked again", x.fault(), 4);
        s.due("path", Probe.path(x, 0, ".a*"), 1);
        s.due("of path", x.fault(), 2);
        s.due("a text that isn't read", Probe.put(x, 3, "[1,,"), -1);
        s.due("no KEY, so it isn't read", x.key(0, 0, Probe.feed(x, "[")), -1);
        s.iae(x, "not so many", () -> x.tree(99));
        s.due("of the latest that was read", x.fault(), 2);
        s.due("put", Probe.put(x, 0, "[1,,"), -2);
        s.due("of put", x.fault(), 3);
        s.due("put, nothing is too much", Probe.put(x, 1, "5"), 1);
        s.due("without", x.fault(), -1);
        s.due("append", Probe.append(x, 0, "1 1"), -2);
        s.due("of append", x.fault(), 2);
        s.due("append: refused, but read", Probe.append(x, 1, "7"), -1);
        s.due("without", x.fault(), -1);
        s.due("key", Probe.key(x, 0, "a", ""), -2);
        s.due("of key", x.fault(), 0);
        s.due("other calls are no texts", x.add(1, 1) + x.undo(), 2);
        x.image();
        s.due("nor restore", x.restore(), true);
        s.due("of key", x.fault(), 0);
        s.due("path", Probe.path(x, 0, ".."), 0);
        s.due("without", x.fault(), -1);
    }

    private static void counts() {
        Sentence s = of(6, "0 THINGS, 1 to 4 NUMBERS, WORDS, LISTS, MAPS, 5 the greatest DEPTH, 6 PATHS that are there (bits), "
                + "7 UNLIKE, 8 ROWS that are KEPT, 9 ROWS of THE PATCH from the image to THE TREE (NONE: no image), "
                + "10 ACTS that are kept, 11 NOTED, 12 bytes of the tape, 13 to 15 STATUS 0 to 2, 16 NUMBERS of all together, 17 FITS.");
        NestQuery x = Probe.lived();
        s.due("fed", Probe.feed(x, "-7"), 2);
        // [7,[2,{k:w}],8], the image without 8; paths "", "..[0]", "...k", noted: 1 is an answer.
        int[] due = {7, 3, 1, 2, 1, 3, 7, 7, 1, 1, 1, 1, 20, 1, 1, 1, 17, 2};
        for (int what = 0; what < due.length; what++) {
            s.due("count " + what, x.count(what), due[what]);
        }
        s.due("a tree of one", x.tree(2), 0);
        int[] then = {1, 1, 0, 0, 0, 0, 7, 1, 1, -1, 0, 0, 0, 1, 1, 1, -7, 7};
        for (int what = 0; what < then.length; what++) {
            s.due("count " + what + " then", x.count(what), then[what]);
        }
        NestQuery y = Probe.with("[-999,-999]", "[0]");
        s.due("below 0", y.count(16), -1998);
        y.image();
        s.due("no ROWS since the image", y.count(9), 0);
    }

    private static void countThrows() {
        Sentence s = of(6, "NoSuchElementException: another what.");
        NestQuery x = Probe.lived();
        for (int what : new int[] {18, -1, 19, 64, MOST, LEAST}) {
            s.nse(x, "count " + what, () -> x.count(what));
        }
        s.due("17", x.count(17), 2);
    }

    private static void things() {
        Sentence s = of(7, "Of a THING: 0 its kind (0 NUMBER, 1 WORD, 2 LIST, 3 MAP), 1 the THING it lies at once within (NONE), "
                + "2 its PLACE there (NONE), 3 DEPTH, 4 how many are at once within it, 5 the last one within it (itself), "
                + "6 the NUMBER (-1000: it is none), 7 letters of its KEY (0: none), 8 TWINS, 9 by how many PATHS it is an ANSWER.");
        NestQuery x = Probe.with("[-999,{abcdef:[w],ab:999},w,[],{}]", "..", ".*", "..?(@=w)", "");
        int[][] due = {
            {2, -1, -1, 0, 5, 8, -1000, 0, 0, 2},
            {0, 0, 0, 1, 0, 1, -999, 0, 0, 2},
            {3, 0, 1, 1, 2, 5, -1000, 0, 0, 2},
            {2, 2, 0, 2, 1, 4, -1000, 6, 0, 1},
            {1, 3, 0, 3, 0, 4, -1000, 0, 1, 2},
            {0, 2, 1, 2, 0, 5, 999, 2, 0, 1},
            {1, 0, 2, 1, 0, 6, -1000, 0, 1, 3},
            {2, 0, 3, 1, 0, 7, -1000, 0, 0, 2},
            {3, 0, 4, 1, 0, 8, -1000, 0, 0, 2}};
        for (int thing = 0; thing < due.length; thing++) {
            for (int what = 0; what < 10; what++) {
                s.due("thing " + thing + " " + what, x.thing(thing, what), due[thing][what]);
            }
        }
        NestQuery y = Probe.with("{a:{b:{}}}");
        s.due("letters of one", y.thing(1, 7), 1);
        NestQuery z = Probe.with("{a:1,z:1,aa:1,zz:1,aaa:1,zzz:1,aaaa:1,zzzz:1,aaaaa:1,zzzzz:1,aaaaaa:1,zzzzzz:1}");
        for (int thing = 1; thing <= 12; thing++) {
            s.due("letters of the KEY of " + thing, z.thing(thing, 7), (thing + 1) / 2);
        }
        s.due("by no PATH", y.thing(0, 9), 0);
        s.due("its PLACE in a MAP", y.thing(2, 2), 0);
    }

    private static void thingThrows() {
        Sentence s = of(7, "NoSuchElementException: no such THING (as everywhere), another what.");
        NestQuery x = Probe.lived();
        for (int thing : new int[] {7, -1, 8, 60, 64, MOST, LEAST}) {
            for (int what : new int[] {0, 9, 10, -1}) {
                s.nse(x, "thing " + thing + " " + what, () -> x.thing(thing, what));
            }
        }
        for (int what : new int[] {10, -1, 11, MOST, LEAST}) {
            s.nse(x, "thing 0 " + what, () -> x.thing(0, what));
        }
        s.due("the last one", x.thing(6, 6), 8);
        NestQuery y = new NestQuery();
        s.due("the only one", y.thing(0, 0), 3);
        s.nse(y, "the second one", () -> y.thing(1, 0));
    }

    private static void withins() {
        Sentence s = of(8, "The i-th (0 on) THING at once within one.");
        NestQuery x = Probe.with("[5,[3,[1]],{a:{b:2},c:w}]");
        int[][] due = {{1, 2, 6}, {}, {3, 4}, {}, {5}, {}, {7, 9}, {8}, {}, {}};
        for (int thing = 0; thing < due.length; thing++) {
            for (int i = 0; i < due[thing].length; i++) {
                s.due("within " + thing + " " + i, x.within(thing, i), due[thing][i]);
            }
        }
        NestQuery y = Probe.with(Probe.ones(59));
        s.due("the 59th", y.within(0, 58), 59);
    }

    private static void withinThrows() {
        Sentence s = of(8, "NoSuchElementException: also there is none.");
        NestQuery x = Probe.with("[5,[3,[1]],{a:{b:2},c:w},[],{}]");
        int[] many = {5, 0, 2, 0, 1, 0, 2, 1, 0, 0, 0, 0};
        for (int thing = 0; thing < many.length; thing++) {
            for (int i : new int[] {many[thing], -1, -2, MOST, LEAST}) {
                int one = thing;
                s.nse(x, "within " + thing + " " + i, () -> x.within(one, i));
            }
        }
        for (int thing : new int[] {12, -1, MOST, LEAST}) {
            s.nse(x, "within " + thing, () -> x.within(thing, 0));
        }
        NestQuery y = Probe.with(Probe.ones(59));
        s.nse(y, "the 60th within one of 59", () -> y.within(0, 59));
        s.nse(y, "within the last of all", () -> y.within(59, 0));
    }

    private static void tolds() {
        Sentence s = of(9, "TOLD (own false), ITS PATH (own true) of a THING: how many bytes (i NONE), the i-th (0 on).");
        NestQuery x = Probe.with("{ab:[-10,w]}");
        s.due("bytes of ROOT", x.told(0, false, -1), 12);
        s.due("the first", x.told(0, false, 0), (int) '{');
        s.due("the last", x.told(0, false, 11), (int) '}');
        s.due("bytes of a NUMBER", x.told(2, false, -1), 3);
        s.due("its first", x.told(2, false, 0), (int) '-');
        s.due("its last", x.told(2, false, 2), (int) '0');
        s.due("bytes of its PATH", x.told(2, true, -1), 6);
        s.due("its first", x.told(2, true, 0), (int) '.');
        s.due("its last", x.told(2, true, 5), (int) ']');
        s.due("bytes of ROOT's PATH", x.told(0, true, -1), 0);
        NestQuery y = Probe.with("{}", "");
        for (int k = 0; k < 59; k++) {
            String key = "zzzz" + (char) ('a' + k / 26) + (char) ('a' + k % 26);
            s.due("key " + key, Probe.key(y, 0, key, "zzzzzz"), 1);
        }
        s.due("the longest that can be", y.told(0, false, -1), 1 + 59 * 14);
        s.due("its last", y.told(0, false, 59 * 14), (int) '}');
        s.nse(y, "behind it", () -> y.told(0, false, 59 * 14 + 1));
    }

    private static void toldThrows() {
        Sentence s = of(9, "NoSuchElementException: also there is none.");
        NestQuery x = Probe.with("{ab:[-10,w]}");
        int[] bytes = {12, 7, 3, 1};
        int[] ofPath = {0, 3, 6, 6};
        for (int thing = 0; thing < 4; thing++) {
            int one = thing;
            for (int more : new int[] {0, 1, 1000}) {
                s.nse(x, "told " + thing, () -> x.told(one, false, bytes[one] + more));
                s.nse(x, "path " + thing, () -> x.told(one, true, ofPath[one] + more));
            }
            for (int i : new int[] {-2, -3, MOST, LEAST}) {
                s.nse(x, "told " + thing, () -> x.told(one, false, i));
                s.nse(x, "path " + thing, () -> x.told(one, true, i));
            }
        }
        for (int thing : new int[] {4, -1, MOST, LEAST}) {
            for (int i : new int[] {-1, 0}) {
                s.nse(x, "told " + thing, () -> x.told(thing, false, i));
                s.nse(x, "path " + thing, () -> x.told(thing, true, i));
            }
        }
    }

    private static void alikes() {
        Sentence s = of(10, "Whether two THINGS are LIKE (1).");
        NestQuery x = Probe.with("[1,[1],1,{a:1},[1],{a:2}]");
        s.due("a NUMBER and another one", x.alike(1, 4), 1);
        s.due("a LIST and another one", x.alike(2, 7), 1);
        s.due("the last one and itself", x.alike(10, 10), 1);
        s.due("a NUMBER and a LIST", x.alike(1, 2), 0);
        s.due("MAPS", x.alike(5, 9), 0);
        s.due("ROOT and one within it", x.alike(0, 2), 0);
    }

    private static void alikeThrows() {
        Sentence s = of(10, "NoSuchElementException.");
        NestQuery x = Probe.lived();
        for (int thing : new int[] {7, -1, 60, MOST, LEAST}) {
            s.nse(x, thing + " and 0", () -> x.alike(thing, 0));
            s.nse(x, "0 and " + thing, () -> x.alike(0, thing));
            s.nse(x, "twice " + thing, () -> x.alike(thing, thing));
        }
        s.due("the last one", x.alike(6, 6), 1);
    }

    private static void answers() {
        Sentence s = of(11, "ANSWERS of a PATH: how many (i NONE), the i-th (0 on).");
        NestQuery x = Probe.with("[5,[6]]", "..", "[1]", "[2]", "..[0]");
        s.due("of ..", Probe.answers(x, 0), "0,1,2,3");
        s.due("how many", x.answer(0, -1), 4);
        s.due("the first", x.answer(0, 0), 0);
        s.due("the last", x.answer(0, 3), 3);
        s.due("of [1]", x.answer(1, -1) * 10 + x.answer(1, 0), 12);
        s.due("of [2]: none", x.answer(2, -1), 0);
        s.due("of ..[0]", Probe.answers(x, 3), "1,3");
        s.did(x, "of the tree as it is then", () -> x.change(1, 2), 1, "[5]");
        s.due("of ..", Probe.answers(x, 0), "0,1");
    }

    private static void answerThrows() {
        Sentence s = of(11, "NoSuchElementException: no such PATH is there (as everywhere below), there is none.");
        NestQuery x = Probe.with("[5,[6]]", "..", "[2]");
        for (int slot : new int[] {2, 3, 4, -1, MOST, LEAST}) {
            for (int i : new int[] {-1, 0, 1}) {
                s.nse(x, "answer " + slot + " " + i, () -> x.answer(slot, i));
            }
        }
        for (int i : new int[] {4, -2, 63, 64, MOST, LEAST}) {
            s.nse(x, "answer 0 " + i, () -> x.answer(0, i));
        }
        s.nse(x, "the first of none", () -> x.answer(1, 0));
        NestQuery y = Probe.with(Probe.ones(59), "..");
        s.due("the 60th", y.answer(0, 59), 59);
        s.nse(y, "the 61st", () -> y.answer(0, 60));
    }

    private static void steps() {
        Sentence s = of(12, "Of a PATH: how many STEPS (i NONE); THINGS behind its i-th STEP (0 on).");
        NestQuery x = Probe.with("[5,[6,7]]", "..[0:1]?(@>5)", "", "[5]..", "[1][1]......?(@)[0][0]");
        s.due("STEPS", x.steps(0, -1), 3);
        s.due("behind each", x.steps(0, 0) * 100 + x.steps(0, 1) * 10 + x.steps(0, 2), 521);
        s.due("no STEPS", x.steps(1, -1), 0);
        s.due("STEPS that lead nowhere", x.steps(2, -1) * 100 + x.steps(2, 0) * 10 + x.steps(2, 1), 200);
        s.due("8 STEPS", x.steps(3, -1), 8);
        s.due("behind the last but two", x.steps(3, 5), 1);
        s.due("behind the last", x.steps(3, 7), 0);
    }

    private static void stepsThrows() {
        Sentence s = of(12, "NoSuchElementException: also there is none.");
        NestQuery x = Probe.with("[5,[6,7]]", "..[0]", "", "................");
        for (int i : new int[] {2, -2, 8, MOST, LEAST}) {
            s.nse(x, "steps 0 " + i, () -> x.steps(0, i));
        }
        s.nse(x, "the first of none", () -> x.steps(1, 0));
        s.due("the 8th", x.steps(2, 7), 5);
        s.nse(x, "the 9th", () -> x.steps(2, 8));
        for (int slot : new int[] {3, 4, -1, MOST, LEAST}) {
            s.nse(x, "steps " + slot, () -> x.steps(slot, -1));
            s.nse(x, "steps " + slot, () -> x.steps(slot, 0));
        }
    }

    private static void rows() {
        Sentence s = of(13, "Of the i-th (0 on) ROW of THE PATCH that is KEPT: 1 it COMES, 2 GOES, 3 BECOMES (what 0), "
                + "STEPS of its PATH (1), THINGS of what was there (2; 0 without), of what is (3; 0 without).");
        NestQuery x = Probe.patch("{a:[1,2],b:{c:[3]},d:5}", "{b:{c:{x:1,y:2}},d:5,e:[[]]}");
        // -.a, =.b.c, +.e
        int[][] due = {{2, 1, 3, 0}, {3, 2, 2, 3}, {1, 1, 0, 2}};
        s.due("rows", x.count(8), 3);
        for (int row = 0; row < 3; row++) {
            for (int what = 0; what < 4; what++) {
                s.due("row " + row + " " + what, x.row(row, what), due[row][what]);
            }
        }
        NestQuery y = Probe.patch("5", Probe.ones(59));
        s.due("of an empty PATH", y.row(0, 0) * 1000 + y.row(0, 1) * 100 + y.row(0, 2), 3001);
        s.due("60 THINGS", y.row(0, 3), 60);
    }

    private static void rowThrows() {
        Sentence s = of(13, "NoSuchElementException: there is none, another what.");
        NestQuery x = Probe.patch("[1,2]", "[3,4]");
        for (int row : new int[] {2, -1, 3, 120, MOST, LEAST}) {
            for (int what : new int[] {0, 3, 4}) {
                s.nse(x, "row " + row + " " + what, () -> x.row(row, what));
            }
        }
        for (int what : new int[] {4, -1, MOST, LEAST}) {
            s.nse(x, "row 0 " + what, () -> x.row(0, what));
        }
        s.due("the last one", x.row(1, 0), 3);
        s.due("as the image", x.restore(), true);
        s.due("none is KEPT then", x.keep(), 0);
        s.nse(x, "the first of none", () -> x.row(0, 0));
        NestQuery y = new NestQuery();
        s.nse(y, "nothing is KEPT", () -> y.row(0, 0));
    }

    private static void rowTexts() {
        Sentence s = of(14, "A ROW as a text: how many bytes (k NONE), the k-th (0 on).");
        NestQuery x = Probe.patch("{ab:[1,2],b:7}", "{ab:[-10]}");
        s.due("bytes", x.rowText(0, -1), 11);
        s.due("the first", x.rowText(0, 0), (int) '=');
        s.due("the last", x.rowText(0, 10), (int) '0');
        s.due("of what GOES", x.rowText(1, -1), 7);
        s.due("the first", x.rowText(1, 0), (int) '-');
        s.due("the last", x.rowText(1, 6), (int) ']');
        s.due("all", Probe.rows(x), "=.ab[0] -10 | -.ab[1] | -.b");
        s.due("whatever the tree is", Probe.tree(x, "5"), 0);
        s.due("all", Probe.rows(x), "=.ab[0] -10 | -.ab[1] | -.b");
        s.due("longer than any text can be", longRow(), 1 + 4 + 1 + 1 + 56 * 14);
    }

    private static int longRow() {
        NestQuery x = Probe.with("{a:{}}", ".a");
        x.image();
        for (int k = 0; k < 56; k++) {
            String key = "zzzz" + (char) ('a' + k / 26) + (char) ('a' + k % 26);
            Probe.key(x, 0, key, "zzzzzz");
        }
        Probe.due("path", Probe.path(x, 1, ""), 0);
        Probe.due("move", x.move(1, 0, Probe.word("abc")), 1);
        Probe.due("keep", x.keep(), 2);
        return x.rowText(1, -1);
    }

    private static void rowTextThrows() {
        Sentence s = of(14, "NoSuchElementException: there is none.");
        NestQuery x = Probe.patch("[1,2]", "[3]");
        // =[0] 3 and -[1]
        for (int row : new int[] {2, -1, 120, MOST, LEAST}) {
            s.nse(x, "row " + row, () -> x.rowText(row, -1));
            s.nse(x, "row " + row, () -> x.rowText(row, 0));
        }
        for (int k : new int[] {6, -2, MOST, LEAST}) {
            s.nse(x, "byte " + k, () -> x.rowText(0, k));
        }
        s.nse(x, "byte 4", () -> x.rowText(1, 4));
        s.due("byte 3", x.rowText(1, 3), (int) ']');
        s.due("byte 5", x.rowText(0, 5), (int) '3');
        NestQuery y = new NestQuery();
        s.nse(y, "nothing is KEPT", () -> y.rowText(0, -1));
    }
}
