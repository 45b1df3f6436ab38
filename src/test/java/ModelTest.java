import java.util.Random;

/** Runs of 512 drawn calls, the same each time, whose every answer must be the plain model's. */
public final class ModelTest {
    private static final int CALLS = 512;
    private static final int[] EDGES = {
        0, 1, 2, 5, 6, 12, 13, 20, 21, 63, 64, 4095, 4096, 1 << 20, -1, -2,
        Integer.MAX_VALUE, Integer.MIN_VALUE, Integer.MAX_VALUE - 4, Integer.MIN_VALUE + 5
    };

    private final Due due = new Due("ModelTest");

    public static void main(String[] args) {
        ModelTest test = new ModelTest();
        for (int seed = 0; seed < 400 && !test.due.hasWrong(); seed++) {
            test.run(seed, 1 + seed % 5, 4);
        }
        for (int seed = 400; seed < 440 && !test.due.hasWrong(); seed++) {
            test.run(seed, 6 + seed % 2, 40);
        }
        for (int seed = 500; seed < 506 && !test.due.hasWrong(); seed++) {
            test.run(seed, 8 + seed % 5, 400);
        }
        test.due.end();
    }

    /** A run in which about one call in 'calm' begins a new table, of up to 'widest' attributes. */
    private void run(int seed, int widest, int calm) {
        Random random = new Random(seed);
        ConceptTable table = new ConceptTable();
        PlainModel model = new PlainModel();
        int dense = random.nextInt(3);
        int calls = begin(seed, table, model, widest);
        while (calls < CALLS && !due.hasWrong()) {
            if (random.nextInt(12 * calm) == 0) {
                calls += begin(seed, table, model, 1 + random.nextInt(widest));
            }
            calls += call(seed, table, model, random, dense);
        }
    }

    private int begin(int seed, ConceptTable table, PlainModel model, int attributes) {
        due.is(seed + " begin(" + attributes + ")", table.begin(attributes), model.begin(attributes));
        return 1;
    }

    private static int number(Random random, int bound) {
        if (random.nextInt(12) == 0) {
            return EDGES[random.nextInt(EDGES.length)];
        }
        return random.nextInt(Math.max(1, bound));
    }

    private static int set(Random random, int attributes, int dense) {
        if (random.nextInt(25) == 0) {
            return EDGES[random.nextInt(EDGES.length)];
        }
        int set = random.nextInt(1 << attributes);
        if (dense == 1) {
            set |= random.nextInt(1 << attributes);
        }
        if (dense == 2) {
            set = (1 << attributes) - 1 & ~(1 << random.nextInt(attributes));
        }
        return set;
    }

    private int call(int seed, ConceptTable table, PlainModel model, Random random, int dense) {
        int n = model.count(0);
        int size = model.count(1);
        int a = set(random, n, random.nextInt(2));
        switch (random.nextInt(30)) {
            case 0: case 1: case 2: {
                int s = set(random, n, dense);
                return is(seed, "object", s, 0, table.object(s), model.object(s));
            }
            case 3: {
                int g = random.nextInt(3) == 0 ? number(random, size + 1) : EDGES[random.nextInt(EDGES.length)];
                return is(seed, "remove", g, 0, table.remove(g), model.remove(g));
            }
            case 4: {
                int s = number(random, 1 << size);
                return is(seed, "common", s, 0, table.common(s), model.common(s));
            }
            case 5:
                return is(seed, "extent", a, 0, table.extent(a), model.extent(a));
            case 6:
                return is(seed, "closure", a, 0, table.closure(a), model.closure(a));
            case 7:
                return is(seed, "next", a, 0, table.next(a), model.next(a));
            case 8:
                return is(seed, "concepts", 0, 0, table.concepts(), model.concepts());
            case 9: case 10: case 11: case 12: {
                int i = number(random, model.concepts());
                int what = number(random, 9);
                return is(seed, "concept", i, what, table.concept(i, what), model.concept(i, what));
            }
            case 13:
                return is(seed, "base", 0, 0, table.base(), model.base());
            case 14: case 15: {
                int i = number(random, model.base() + 1);
                int what = number(random, 3);
                return is(seed, "rule", i, what, table.rule(i, what), model.rule(i, what));
            }
            case 16: {
                int rules = number(random, model.base() + 2);
                return is(seed, "follows", a, rules, table.follows(a, rules), model.follows(a, rules));
            }
            case 17: {
                int c = set(random, n, 0);
                return is(seed, "holds", a, c, table.holds(a, c), model.holds(a, c));
            }
            case 18: {
                int k = number(random, n);
                return is(seed, "needed", k, 0, table.needed(k), model.needed(k));
            }
            case 19: {
                int g = number(random, size);
                return is(seed, "neededObject", g, 0, table.neededObject(g), model.neededObject(g));
            }
            case 20: {
                int least = number(random, size + 2);
                return is(seed, "frequent", least, 0, table.frequent(least), model.frequent(least));
            }
            case 21:
                return askAll(seed, table, model, random);
            case 22:
                return is(seed, "question", 0, 0, table.question(), model.question());
            case 23:
                return is(seed, "yes", 0, 0, table.yes(), model.yes());
            case 24: case 25:
                return is(seed, "no", a, 0, table.no(a), model.no(a));
            case 26: case 27: {
                int i = number(random, model.count(2) + 1);
                int what = number(random, 2);
                return is(seed, "accepted", i, what, table.accepted(i, what), model.accepted(i, what));
            }
            default: {
                int what = number(random, 5);
                return is(seed, "count", what, 0, table.count(what), model.count(what));
            }
        }
    }

    /** Begins to ask and gives up to a dozen answers, so that runs get deep into ASKING. */
    private int askAll(int seed, ConceptTable table, PlainModel model, Random random) {
        int calls = is(seed, "ask", 0, 0, table.ask(), model.ask());
        int answers = random.nextInt(12);
        for (int k = 0; k < answers; k++) {
            int asked = model.question();
            calls += is(seed, "question", 0, 0, table.question(), asked);
            if (random.nextInt(3) == 0) {
                int s = Math.max(asked, 0) | random.nextInt(1 << model.count(0));
                calls += is(seed, "no", s, 0, table.no(s), model.no(s));
            } else {
                calls += is(seed, "yes", 0, 0, table.yes(), model.yes());
            }
        }
        return calls;
    }

    private int is(int seed, String name, int a, int b, int got, int want) {
        due.is("run " + seed + ", " + name + "(" + a + ", " + b + ")", got, want);
        return 1;
    }
}
