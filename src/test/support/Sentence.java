import java.util.ArrayList;
import java.util.List;

/** One sentence of the document, told word for word, and what is asked to show that it holds. */
final class Sentence {
    private static final List<Sentence> ALL = new ArrayList<>();

    final String section;
    final String quote;
    private int asked = 0;

    /** A sentence of a part of the Terms ("1" to "3") or of a promise ("Promise 1" to "Promise 29"). */
    Sentence(String section, String quote) {
        this.section = section;
        this.quote = quote;
        ALL.add(this);
    }

    static List<Sentence> all() {
        return ALL;
    }

    boolean isTested() {
        return asked > 0;
    }

    void due(String what, Object got, Object want) {
        asked++;
        String head = quote.length() > 60 ? quote.substring(0, 60) + ".." : quote;
        Probe.due("(" + section + ") \"" + head + "\": " + what, got, want);
    }

    /** A call that throws, and nothing changes. */
    private void thrown(NestQuery x, String what, Probe.Call call, String exception) {
        String before = everything(x);
        due(what, Probe.told(call), exception);
        due("nothing has changed behind " + what, everything(x), before);
    }

    void nse(NestQuery x, String what, Probe.Call call) {
        thrown(x, what, call, "throws.NoSuchElementException");
    }

    void iae(NestQuery x, String what, Probe.Call call) {
        thrown(x, what, call, "throws.IllegalArgumentException");
    }

    private static String everything(NestQuery x) {
        return Probe.seen(x) + " status " + Probe.status(x) + " fault " + x.fault() + " tape " + x.count(12);
    }

    /** A call without a text that is refused: STATUS has one more there (NONE: nowhere), all else stays. */
    void refused(NestQuery x, String what, Probe.Call call, int status) {
        String before = Probe.seen(x) + x.fault() + " " + x.count(12);
        String then = raised(x, status);
        due(what, Probe.told(call), NestQuery.NONE);
        due("STATUS behind " + what, Probe.status(x), then);
        due("all else behind " + what, Probe.seen(x) + x.fault() + " " + x.count(12), before);
    }

    /** A call with a text that is refused: the tape is empty then, STATUS has one more, all else stays. */
    void refusedText(NestQuery x, String what, Probe.Call call, int answer, int place) {
        String before = Probe.seen(x);
        String then = raised(x, answer == NestQuery.NONE ? 1 : 0);
        due(what, Probe.told(call), answer);
        due("STATUS behind " + what, Probe.status(x), then);
        due("the FAULT's place behind " + what, x.fault(), place);
        due("the tape behind " + what, x.count(12), 0);
        due("all else behind " + what, Probe.seen(x), before);
    }

    private static String raised(NestQuery x, int status) {
        int[] then = {x.count(13), x.count(14), x.count(15)};
        if (status >= 0) {
            then[status]++;
        }
        return then[0] + " " + then[1] + " " + then[2];
    }

    /** An act that is done: what it leaves, that it is kept, that nothing else changes; it stays done. */
    void did(NestQuery x, String what, Probe.Call call, int answer, String then) {
        String status = Probe.status(x);
        int acts = x.count(10);
        due(what, Probe.told(call), answer);
        due("the tree behind " + what, Probe.all(x), then);
        due("ACTS behind " + what, x.count(10), Math.min(40, acts + 1));
        due("STATUS behind " + what, Probe.status(x), status);
    }

    /** An act that is done, then undone. */
    void didOnce(NestQuery x, String what, Probe.Call call, int answer, String then) {
        String before = Probe.seen(x);
        did(x, what, call, answer, then);
        due("undone: " + what, x.undo(), x.count(10));
        due("as before " + what, Probe.seen(x), before);
    }

    /** Data without a fault, which are told as they stand. */
    void data(String text) {
        data(text, text);
    }

    void data(String text, String told) {
        NestQuery x = Probe.lived();
        String status = Probe.status(x);
        due("tree " + text, Probe.tree(x, text), 0);
        due("told of " + text, Probe.all(x), told);
        due("no FAULT of " + text, x.fault(), NestQuery.NONE);
        due("STATUS behind " + text, Probe.status(x), status);
    }

    /** A fault of data, for whatever call reads them. */
    void fault(String text, int fault, int place) {
        NestQuery x = Probe.lived();
        refusedText(x, "tree " + text, () -> Probe.tree(x, text), fault, place);
        refusedText(x, "put " + text, () -> Probe.put(x, 0, text), -2, place);
        refusedText(x, "append " + text, () -> Probe.append(x, 0, text), -2, place);
        refusedText(x, "key " + text, () -> Probe.key(x, 0, "a", text), -2, place);
        due("undone behind " + text, x.undo(), 0);
        due("the tree ahead of the act", Probe.all(x), "[7,[2,{k:w}]]");
        due("the image is there behind " + text, x.restore(), true);
    }

    /** A path without a fault. */
    void path(String text, int steps) {
        NestQuery x = Probe.lived();
        String status = Probe.status(x);
        due("path " + text, Probe.path(x, 1, text), 0);
        due("steps of " + text, x.steps(1, -1), steps);
        due("no FAULT of " + text, x.fault(), NestQuery.NONE);
        due("STATUS behind " + text, Probe.status(x), status);
    }

    void pathFault(String text, int fault, int place) {
        NestQuery x = Probe.lived();
        refusedText(x, "path " + text, () -> Probe.path(x, 0, text), fault, place);
        refusedText(x, "path 3 " + text, () -> Probe.path(x, 3, text), fault, place);
        due("no path 3", x.count(6), 7);
    }

    void answers(String data, String path, String answers) {
        NestQuery x = Probe.with(data);
        due("path " + path, Probe.path(x, 2, path), 0);
        due("answers of " + path + " in " + data, Probe.answers(x, 2), answers);
        due("the tree behind " + path, Probe.all(x), data);
    }
}
