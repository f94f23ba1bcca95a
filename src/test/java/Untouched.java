import java.util.ArrayList;
import java.util.List;
import java.util.function.Supplier;
import java.util.function.ToLongFunction;

/** A call that changes nothing: its answer, and that all is behind it as in a twin that never had the call. */
final class Untouched {
    private Untouched() {
    }

    static void by(Due due, String text, Supplier<PairChoice> made, ToLongFunction<PairChoice> call, long want) {
        PairChoice called = made.get();
        due.is(text, call.applyAsLong(called), want);
        List<String> readings = readings(called);
        List<String> asBefore = readings(made.get());
        for (int i = 0; i < asBefore.size(); i++) {
            boolean same = readings.get(i).equals(asBefore.get(i));
            due.is(text + ", then: " + readings.get(i) + ", before: " + asBefore.get(i), same, true);
        }
    }

    /** With a choice and its eggs, and a look ahead. */
    static void by(Due due, String text, ToLongFunction<PairChoice> call, long want) {
        by(due, text, Herds::busy, call, want);
    }

    /** What can be read without a change goes first; what is left is read by changing it. */
    private static List<String> readings(PairChoice x) {
        List<String> list = new ArrayList<>();
        readChoice(x, list);
        for (int y = 0; y < 5; y++) {
            for (int what = 0; what < 3; what++) {
                list.add("after " + y + " " + what + " = " + x.after(y, what));
            }
        }
        for (int n = 1; n <= 6; n++) {
            list.add("test " + n + " = " + x.test(n, 5));
        }
        readHerd(x, list);
        list.add("even = " + x.even(0));
        list.add("limit = " + x.limit(1000));
        for (int f = 0; f < 8; f++) {
            list.add("line " + f + " = " + x.line(f, 0));
        }
        list.add("next animal = " + x.animal(0, 0, 0));
        return list;
    }

    private static void readChoice(PairChoice x, List<String> list) {
        for (int what = 0; what < 4; what++) {
            list.add("told " + what + " = " + x.told(what));
        }
        for (int k = 0; k < 7; k++) {
            list.add("pairOf " + k + " = " + x.pairOf(k, 0) + " " + x.pairOf(k, 1));
            list.add("eggsOf " + k + " = " + x.eggsOf(k));
            list.add("backUp " + k + " = " + x.backUp(k));
        }
    }

    private static void readHerd(PairChoice x, List<String> list) {
        for (int a = 0; a < 13; a++) {
            list.add("worth " + a + " = " + x.worth(a, 0));
            for (int b = 0; b <= a; b++) {
                list.add("kin " + a + " " + b + " = " + x.kin(a, b, 0));
                list.add("bar " + a + " " + b + " = " + x.bar(a, b, true));
            }
        }
    }
}
