import java.util.NoSuchElementException;

/** What the tests share: texts fed to an object, answers gathered from it, wrong answers counted. */
final class Probe {
    interface Call {
        long run();
    }

    private static int wrong = 0;
    private static int asked = 0;

    private Probe() {
    }

    static void due(String what, Object got, Object want) {
        asked++;
        if (!String.valueOf(got).equals(String.valueOf(want))) {
            wrong++;
            if (wrong < 50) {
                System.out.println(what + " answered " + got + ", due is " + want);
            }
        }
    }

    /** The answer of a call as a text, or the exception that it throws. */
    static String told(Call call) {
        try {
            return String.valueOf(call.run());
        } catch (NoSuchElementException e) {
            return "throws.NoSuchElementException";
        } catch (IllegalArgumentException e) {
            return e.getClass() == IllegalArgumentException.class ? "throws.IllegalArgumentException" : "throws." + e;
        } catch (RuntimeException e) {
            return "throws." + e;
        }
    }

    static void nse(String what, Call call) {
        due(what, told(call), "throws.NoSuchElementException");
    }

    static void iae(String what, Call call) {
        due(what, told(call), "throws.IllegalArgumentException");
    }

    static void finish() {
        System.out.println(wrong == 0 ? asked + " answers are as due" : wrong + " of " + asked + " answers are not as due");
        if (wrong != 0) {
            System.exit(1);
        }
    }

    /** Feeds a text, filled up with blanks: its length. */
    static int feed(NestQuery x, String text) {
        for (int at = 0; at < text.length(); at += 20) {
            int[] five = new int[5];
            for (int k = 0; k < 20; k++) {
                int sign = at + k < text.length() ? text.charAt(at + k) : ' ';
                five[k / 4] = five[k / 4] << 8 | sign;
            }
            x.feed(five[0], five[1], five[2], five[3], five[4]);
        }
        return text.length();
    }

    static int tree(NestQuery x, String text) {
        return x.tree(feed(x, text));
    }

    static int path(NestQuery x, int slot, String text) {
        return x.path(slot, feed(x, text));
    }

    static int put(NestQuery x, int slot, String text) {
        return x.put(slot, feed(x, text));
    }

    static int append(NestQuery x, int slot, String text) {
        return x.append(slot, feed(x, text));
    }

    static int key(NestQuery x, int slot, String key, String text) {
        return x.key(slot, word(key), feed(x, text));
    }

    static int word(String letters) {
        int word = 0;
        for (char c : letters.toCharArray()) {
            word = word << 5 | c - 'a' + 1;
        }
        return word;
    }

    static NestQuery with(String data, String... paths) {
        NestQuery x = new NestQuery();
        due("tree " + data, tree(x, data), 0);
        for (int slot = 0; slot < paths.length; slot++) {
            if (paths[slot] != null) {
                due("path " + paths[slot], path(x, slot, paths[slot]), 0);
            }
        }
        return x;
    }

    /** An object that has something of everything: an image, an act, rows, a note, refused calls, no path 3. */
    static NestQuery lived() {
        NestQuery x = with("[7,[2,{k:w}]]", "", "..[0]", "...k");
        due("a faulty text", x.tree(0), 1);
        due("a refused act", x.add(3, 1), -1);
        due("a refused note", x.note(99, true), -1);
        x.image();
        due("an act", append(x, 0, "8"), 1);
        due("rows", x.keep(), 1);
        due("a note", x.note(1, true), 1);
        return x;
    }

    /** A list of so many ones. */
    static String ones(int n) {
        StringBuilder b = new StringBuilder("[");
        for (int k = 0; k < n; k++) {
            b.append(k == 0 ? "1" : ",1");
        }
        return b.append(']').toString();
    }

    /** Keeps the patch from one tree to another one: the object then has the second one, path 0 is ROOT. */
    static NestQuery patch(String from, String to) {
        NestQuery x = with(from, "");
        x.image();
        due("put " + to, put(x, 0, to), 1);
        due("keep", x.keep(), x.count(9));
        return x;
    }

    static String all(NestQuery x) {
        return text(x, 0, false);
    }

    static String text(NestQuery x, int thing, boolean own) {
        StringBuilder b = new StringBuilder();
        int n = x.told(thing, own, NestQuery.NONE);
        for (int i = 0; i < n; i++) {
            b.append((char) x.told(thing, own, i));
        }
        nse("told behind its end", () -> x.told(thing, own, n));
        return b.toString();
    }

    static String rowText(NestQuery x, int row) {
        StringBuilder b = new StringBuilder();
        int n = x.rowText(row, NestQuery.NONE);
        for (int i = 0; i < n; i++) {
            b.append((char) x.rowText(row, i));
        }
        nse("rowText behind its end", () -> x.rowText(row, n));
        return b.toString();
    }

    static String rows(NestQuery x) {
        StringBuilder b = new StringBuilder();
        for (int i = 0; i < x.count(8); i++) {
            b.append(i == 0 ? "" : " | ").append(rowText(x, i));
        }
        return b.toString();
    }

    static String answers(NestQuery x, int slot) {
        StringBuilder b = new StringBuilder();
        int n = x.answer(slot, NestQuery.NONE);
        for (int i = 0; i < n; i++) {
            b.append(i == 0 ? "" : ",").append(x.answer(slot, i));
        }
        nse("answer behind the last", () -> x.answer(slot, n));
        return b.toString();
    }

    /** STATUS 0 to 2. */
    static String status(NestQuery x) {
        return x.count(13) + " " + x.count(14) + " " + x.count(15);
    }

    /** All that can be asked without a change, but for the tape, STATUS, the FAULT. */
    static String seen(NestQuery x) {
        StringBuilder b = new StringBuilder(all(x));
        for (int what = 0; what < 18; what++) {
            b.append(' ').append(what >= 12 && what <= 15 ? 0 : x.count(what));
        }
        for (int slot = 0; slot < 4; slot++) {
            int s = slot;
            b.append(" path ").append(told(() -> x.steps(s, -1)));
            if ((x.count(6) >> slot & 1) != 0) {
                b.append(":").append(answers(x, slot));
            }
        }
        return b.append(" kept ").append(rows(x)).append(" look ").append(x.look()).toString();
    }

    /** All that can be asked without a change, but for the tape. */
    static String state(NestQuery x) {
        return seen(x) + " status " + status(x) + " fault " + x.fault();
    }
}
