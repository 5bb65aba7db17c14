import java.util.function.Function;
import java.util.function.Supplier;

/**
 * Two objects with the same calls behind them, one of which gets a call more that is due to change
 * nothing: whatever is asked of both from then on must have the same answers. Each question is put
 * to twins of its own, so that no object is used for more than 512 calls.
 */
final class Twins {
    private final Checks checks;

    Twins(Checks checks) {
        this.checks = checks;
    }

    void changesNothing(String what, Supplier<PointedWords> maker,
            Function<PointedWords, Object> call, Object due) {
        String then = what + ", then ";
        checks.due(what, Checks.answer(() -> call.apply(maker.get())), due);
        alike(then + "segments 0, 1", maker, call, x -> segments(x, -1, 1));
        alike(then + "segments 2, 3", maker, call, x -> segments(x, 2, 4));
        alike(then + "handles", maker, call, Twins::handles);
        alike(then + "going on", maker, call, Twins::goingOn);
        alike(then + "elements", maker, call, Twins::elements);
        alike(then + "the form", maker, call, Twins::latestForm);
        alike(then + "the one kept", maker, call, Twins::keptForm);
        alike(then + "a new form", maker, call, Twins::newForm);
        alike(then + "the form adopted", maker, call, Twins::adopted);
        alike(then + "opened", maker, call, Twins::opened);
    }

    private void alike(String what, Supplier<PointedWords> maker,
            Function<PointedWords, Object> call, Function<PointedWords, String> question) {
        PointedWords called = maker.get();
        Checks.answer(() -> call.apply(called));
        checks.due(what, question.apply(called), question.apply(maker.get()));
    }

    private static String segments(PointedWords x, int from, int to) {
        StringBuilder text = new StringBuilder();
        for (int s = from; s <= to; s++) {
            text.append(x.words(s)).append(':');
            for (int i = -1; i <= 64; i++) {
                text.append(' ').append(x.word(s, i));
            }
        }
        return text.toString();
    }

    private static String handles(PointedWords x) {
        StringBuilder text = new StringBuilder().append(x.left());
        for (int h = -1; h <= 16; h++) {
            int handle = h;
            text.append(", ").append(Words.parts(x, h));
            for (int k = 0; k < 4; k++) {
                int asked = k;
                text.append(' ').append(Checks.answer(() -> x.data(handle, asked)));
            }
        }
        return text.toString();
    }

    private static String goingOn(PointedWords x) {
        StringBuilder text = new StringBuilder();
        for (int h = 0; h < 16; h++) {
            int handle = h;
            for (int k = 0; k < 4; k++) {
                int asked = k;
                text.append(' ').append(Checks.answer(() -> x.go(handle, asked)));
                text.append(' ').append(x.left());
            }
        }
        return text.append(handles(x)).toString();
    }

    private static String elements(PointedWords x) {
        StringBuilder text = new StringBuilder();
        for (int h = 0; h < 16; h++) {
            int handle = h;
            for (int k = 0; k < 3; k++) {
                int asked = k;
                text.append(' ').append(Checks.answer(() -> x.element(handle, asked)));
            }
        }
        return text.append(handles(x)).toString();
    }

    private static String latestForm(PointedWords x) {
        return x.formed(-1) + " " + Words.formText(x, 65) + " " + x.keep() + " " + x.same();
    }

    private static String keptForm(PointedWords x) {
        return x.same() + " " + Checks.answer(x::form) + " " + x.same();
    }

    private static String newForm(PointedWords x) {
        return Checks.answer(x::form) + " " + Words.formText(x, 64);
    }

    private static String adopted(PointedWords x) {
        return x.adopt() + " " + x.left() + " " + segments(x, 0, 0);
    }

    private static String opened(PointedWords x) {
        return Checks.answer(x::open) + " " + handles(x) + " " + Checks.answer(() -> x.go(0, 0))
                + " " + x.left();
    }
}
