import java.util.ArrayList;
import java.util.List;
import java.util.Random;

/** Runs of some 512 calls on the class and on the model, with the same answers due of both. */
public final class RandomRunsTest {
    private static final int RUNS = 4000;
    private static final int CALLS = 512;
    private static final Checks checks = new Checks();
    private static final long[] WILD = {0, 0, 1, 2, 3, 4, 7, -1, -2, -4, Long.MIN_VALUE,
        Long.MAX_VALUE, 0xFFFFFFFCL, 0xFFFFFFFF00000002L, 0xFFFFFFFF00000006L};

    private final Random random;
    private final PointedWords real = new PointedWords();
    private final Model model = new Model();
    private final List<String> calls = new ArrayList<>();
    private int handles = 0;
    private boolean wrong = false;

    private RandomRunsTest(long seed) {
        random = new Random(seed);
    }

    public static void main(String[] args) {
        int wrongRuns = 0;
        for (int run = 0; run < RUNS && wrongRuns < 3; run++) {
            if (new RandomRunsTest(run).differs()) {
                wrongRuns++;
            }
        }
        checks.end();
    }

    /** Sound messages, each asked about, altered a little, and asked about again. */
    private boolean differs() {
        while (calls.size() < CALLS && !wrong) {
            fillSegments();
            int rounds = 1 + some(6);
            for (int round = 0; round < rounds && !wrong; round++) {
                askAll();
                int changes = 1 + some(3);
                for (int c = 0; c < changes; c++) {
                    alter();
                }
            }
        }
        if (wrong) {
            calls.forEach(System.out::println);
        }
        return wrong;
    }

    private void compare(String call, Object got, Object want) {
        calls.add(call + " answered " + got);
        checks.due(call, got, want);
        if (!want.equals(got)) {
            wrong = true;
        }
    }

    private int some(int bound) {
        return random.nextInt(bound);
    }

    private int smallNumber(int bound) {
        return some(20) == 0 ? random.nextInt() : some(bound + 2) - 1;
    }

    private void fillSegments() {
        Builder builder = new Builder(random);
        for (int s = 0; s < 4; s++) {
            compare("cut(" + s + ", 0)", real.cut(s, 0), model.cut(s, 0));
            for (int i = 0; i < builder.sizes[s]; i++) {
                add(s, builder.rows[s][i]);
            }
        }
    }

    private long anyWord(int i) {
        int which = some(12);
        if (which < 2) {
            return 0;
        }
        if (which == 2) {
            return WILD[some(WILD.length)];
        }
        if (which == 3) {
            return random.nextLong();
        }
        if (which == 4) {
            return Words.tag(some(4), some(3), some(3));
        }
        return pointer(i);
    }

    private long pointer(int i) {
        long b = some(4) == 0 ? some(30) - i - 1 : some(6) - (some(3) == 0 ? 1 : 0);
        switch (some(8)) {
            case 0:
            case 1:
            case 2:
                return Words.struct(b, some(3), some(3));
            case 3:
                return Words.list(b, some(6), some(3) == 0 ? some(130) : some(8));
            case 4:
                return Words.list(b, 6, some(4));
            case 5:
                return Words.list(b, 7, some(6));
            case 6:
                return Words.far(some(some(6) == 0 ? 6 : 4), some(12));
            default:
                return Words.farOfTwo(some(some(6) == 0 ? 6 : 4), some(12));
        }
    }

    private void add(int segment, long word) {
        compare("add(" + segment + ", " + word + ")", real.add(segment, word),
                model.add(segment, word));
    }

    private void change(int segment, int i, long word) {
        compare("change(" + segment + ", " + i + ", " + word + ")",
                real.change(segment, i, word), model.change(segment, i, word));
    }

    private void alter() {
        int s = some(3) == 0 ? smallNumber(4) : 0;
        int i = smallNumber(Math.max(1, model.words(s)));
        switch (some(10)) {
            case 0:
                add(s, anyWord(i));
                break;
            case 1:
                int n = model.words(s) - some(4);
                compare("cut(" + s + ", " + n + ")", real.cut(s, n), model.cut(s, n));
                break;
            case 2:
                compare("adopt()", real.adopt(), model.adopt());
                break;
            case 3:
                int budget = some(6) == 0 ? smallNumber(64) : 20 + some(44);
                compare("budget(" + budget + ")", real.budget(budget), model.budget(budget));
                break;
            case 4:
            case 5:
            case 6:
                change(s, i, model.word(s, i) ^ 1L << some(64));
                break;
            default:
                change(s, i, anyWord(i));
                break;
        }
    }

    private void askAll() {
        compareForms();
        openBoth();
        int asks = some(40);
        for (int a = 0; a < asks && !wrong; a++) {
            if (some(20) == 0) {
                askOfMessage();
            } else {
                askOfHandles();
            }
        }
    }

    private void openBoth() {
        Object got = Checks.answer(real::open);
        compare("open()", got, Checks.answer(model::open));
        if (got instanceof Integer) {
            handles = 1;
        }
        compare("left()", real.left(), model.left());
    }

    private void askOfMessage() {
        int a = smallNumber(4);
        int b = smallNumber(64);
        compare("words(" + a + ")", real.words(a), model.words(a));
        compare("word(" + a + ", " + b + ")", real.word(a, b), model.word(a, b));
        compare("formed(" + b + ")", real.formed(b), model.formed(b));
        if (some(3) == 0) {
            compare("keep()", real.keep(), model.keep());
        }
        compare("same()", real.same(), model.same());
        if (some(3) == 0) {
            openBoth();
        }
    }

    private void askOfHandles() {
        int a = some(10) == 0 ? smallNumber(17) : some(Math.max(1, handles));
        int b = smallNumber(some(6) == 0 ? 64 : 4);
        String two = "(" + a + ", " + b + ")";
        int which = some(8);
        if (which < 4) {
            countHandle("go" + two, Checks.answer(() -> real.go(a, b)),
                    Checks.answer(() -> model.go(a, b)));
            compare("left()", real.left(), model.left());
        } else if (which < 6) {
            countHandle("element" + two, Checks.answer(() -> real.element(a, b)),
                    Checks.answer(() -> model.element(a, b)));
        } else if (which == 6) {
            for (int part = -1; part < 8; part++) {
                int asked = part;
                compare("about(" + a + ", " + part + ")",
                        Checks.answer(() -> real.about(a, asked)),
                        Checks.answer(() -> model.about(a, asked)));
            }
        } else {
            compare("data" + two, Checks.answer(() -> real.data(a, b)),
                    Checks.answer(() -> model.data(a, b)));
        }
    }

    private void countHandle(String call, Object got, Object want) {
        compare(call, got, want);
        if (got instanceof Integer && (Integer) got >= handles) {
            handles = (Integer) got + 1;
        }
    }

    private void compareForms() {
        compare("form()", Checks.answer(real::form), Checks.answer(model::form));
        StringBuilder want = new StringBuilder();
        for (int i = 0; i < 64; i++) {
            want.append(i == 0 ? "" : " ").append(model.formed(i));
        }
        compare("the form", Words.formText(real, 64), want.toString());
        compare("same()", real.same(), model.same());
    }
}
