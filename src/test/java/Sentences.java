import java.io.IOException;
import java.io.UncheckedIOException;
import java.nio.file.Files;
import java.nio.file.Path;
import java.util.NoSuchElementException;
import java.util.function.Supplier;
import java.util.function.ToIntFunction;

/** Checks under a sentence of the document: each answer that is not due is printed with it. */
final class Sentences {
    private static final Path DOCUMENT = Path.of("../shared/DOC.md");
    private static final String RICH = "carry 3;office 70;office 90;rate 0 4 120;profit 0 1 30;profit 1 0 25;"
        + "taxable 0 100 1 3;deductible 1 80 2 5;deductible 0 900 2 9;loss 0 50 9;loss 1 40 2;";

    private final Checks checks = new Checks();
    private final String document;
    private String sentence = "";

    Sentences() {
        try {
            document = Files.isReadable(DOCUMENT) ? spaced(Files.readString(DOCUMENT)) : null;
        } catch (IOException e) {
            throw new UncheckedIOException(e);
        }
    }

    /** The checks that follow are of this sentence: where is "Terms", "Promise 7: item" or another section. */
    void of(String where, String words) {
        sentence = where + ", '" + words + "': ";
        if (document != null) {
            int start = document.indexOf("## " + where);
            int stop = start < 0 ? -1 : document.indexOf(" ## ", start);
            String section = start < 0 ? "" : stop < 0 ? document.substring(start) : document.substring(start, stop);
            due("the document says so", section.contains(words) ? 1 : 0, 1);
        }
    }

    private static String spaced(String text) {
        return text.replaceAll("\\s+", " ");
    }

    void due(String call, long got, long want) {
        checks.due(sentence + call, got, want);
    }

    void due(String call, boolean got, boolean want) {
        checks.due(sentence + call, got ? 1 : 0, want ? 1 : 0);
    }

    void same(String call, String got, String want) {
        if (!got.equals(want)) {
            String[] is = got.split("\n");
            String[] was = want.split("\n");
            int k = 0;
            while (k < is.length - 1 && k < was.length - 1 && is[k].equals(was[k])) {
                k++;
            }
            due(call + " shows '" + is[k] + "' in place of '" + was[k] + "'", 1, 0);
        }
    }

    void finish() {
        checks.finish();
    }

    /** A desk that was told a text and closed some years. */
    static DeferredDesk desk(int years, String text) {
        DeferredDesk desk = Checks.desk(text);
        for (int k = 0; k < years; k++) {
            desk.yearEnd();
        }
        return desk;
    }

    /** A desk with two offices, items, losses, closings and acts, of which all can be lost. */
    static DeferredDesk richDesk() {
        DeferredDesk desk = desk(1, RICH);
        desk.enact(1, 5, 300);
        desk.loses(0, 6, 8);
        desk.expect(0, 2, 44);
        desk.yearEnd();
        desk.settle(1);
        desk.arises(1, true, 77, 4, 6);
        return desk;
    }

    /** A text without a fault: a new desk is told it, so that more can be asked of it. */
    DeferredDesk right(String text, int lines) {
        DeferredDesk desk = new DeferredDesk();
        due("lines of '" + text + "'", Checks.read(desk, text), lines);
        due("no fault in '" + text + "'", desk.fault(), 0);
        due("the tape behind '" + text + "'", desk.now(7), 0);
        return desk;
    }

    /** A text with a fault: all stays but the tape and the fault. */
    void faulty(String text, int kind, int place) {
        DeferredDesk desk = richDesk();
        due("text of '" + text + "'", Checks.read(desk, text), -1 - place);
        due("fault of '" + text + "'", desk.fault(), kind);
        due("the tape behind '" + text + "'", desk.now(7), 0);
        same("all stays behind '" + text + "':", Shown.bookOf(desk), Shown.bookOf(richDesk()));
    }

    /** A call that changes nothing: neither the first nor the second time does a desk show it. */
    void changesNothing(String call, int answer, Supplier<DeferredDesk> made, ToIntFunction<DeferredDesk> calling) {
        DeferredDesk desk = made.get();
        due(call, calling.applyAsInt(desk), answer);
        due(call + " again", calling.applyAsInt(desk), answer);
        same(call, Shown.of(desk), Shown.of(made.get()));
    }

    void throwing(String call, Supplier<DeferredDesk> made, ToIntFunction<DeferredDesk> calling) {
        DeferredDesk desk = made.get();
        due(call + " throws", isThrowing(desk, calling), true);
        same(call, Shown.of(desk), Shown.of(made.get()));
    }

    static boolean isThrowing(DeferredDesk desk, ToIntFunction<DeferredDesk> calling) {
        try {
            calling.applyAsInt(desk);
            return false;
        } catch (NoSuchElementException e) {
            return true;
        }
    }

    /** An act that is done: the desk shows it, and undo() brings back what was. */
    void isDone(String act, int answer, Supplier<DeferredDesk> made, ToIntFunction<DeferredDesk> acting) {
        DeferredDesk desk = made.get();
        int acts = desk.now(6);
        due(act, acting.applyAsInt(desk), answer);
        due("what can be undone behind " + act, desk.now(6), acts + 1);
        due("undo of " + act, desk.undo(), acts);
        same("undo of " + act, Shown.of(desk), Shown.of(made.get()));
    }
}
