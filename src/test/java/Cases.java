import java.util.HashSet;
import java.util.List;
import java.util.Set;
import java.util.function.Consumer;
import java.util.function.ToLongFunction;

/** Cases of one promise, each a test of its own with a name; the last line tells how many passed. */
final class Cases {
    private final String promise;
    private final Set<String> names = new HashSet<>();
    private int passed;
    private int failed;

    Cases(String promise) {
        this.promise = promise;
    }

    void test(String name, Consumer<Due> one) {
        Due due = new Due();
        try {
            one.accept(due);
        } catch (RuntimeException thrown) {
            due.due(name + " threw " + thrown, 1, 0);
        }
        if (names.add(name) && due.holds()) {
            passed++;
        } else {
            failed++;
            System.out.println("FAILED: promise " + promise + ": " + name);
        }
    }

    /** One answer. */
    void is(String name, long got, long want) {
        test(name, due -> due.due(name, got, want));
    }

    /** The call is refused wherever it is tried, and all that calls tell is the same before and after it. */
    void refused(String name, long want, List<Standing> where, ToLongFunction<ColdDepots> call) {
        test(name, due -> {
            for (Standing standing : where) {
                due.due(name + ", " + standing.name(), call.applyAsLong(standing.make()), want);
                changesNothing(due, standing, call);
            }
        });
    }

    /** The call only tells: all that calls tell is the same before and after it. */
    void tellsOnly(String name, List<Standing> where, ToLongFunction<ColdDepots> call) {
        test(name + " changes nothing", due -> {
            for (Standing standing : where) {
                changesNothing(due, standing, call);
            }
        });
    }

    void end() {
        System.out.println(passed + " passed, " + failed + " failed");
        System.exit(failed == 0 ? 0 : 1);
    }

    private static void changesNothing(Due due, Standing standing, ToLongFunction<ColdDepots> call) {
        List<String> after = Told.of(() -> {
            ColdDepots x = standing.make();
            call.applyAsLong(x);
            return x;
        });
        due.same("behind it, " + standing.name(), after, standing.told());
    }
}
