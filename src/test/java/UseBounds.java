/** The boundary cases of the section "What it is": how long an object is used. */
final class UseBounds {
    private static final int CALLS = 512;

    private UseBounds() {
    }

    @Says(promise = Says.USE, words = "An object is used for at most 512 calls after it has been made")
    static void lastOfTheCallsAnswersAsTheFirst(Due due) {
        PairChoice x = Herds.plain(6, 6);
        for (int call = 12; call < CALLS - 2; call++) {
            due.is("call " + (call + 1), x.worth(call % 12, call), call < 24 ? 0 : call - 12);
        }
        due.is("call 511", x.run(6), 6);
        // The last twelve changes were those of the calls 499 to 510, counted from 1.
        due.is("call 512", x.told(0), (498 + 509) * 6);
    }

    @Says(promise = Says.USE, words = "An object is used for at most 512 calls after it has been made")
    static void dearestCallAllTheTime(Due due) {
        PairChoice x = Herds.plain(6, 6);
        for (int call = 12; call < CALLS; call += 2) {
            due.is("call " + (call + 1), x.limit(999 - call % 4), call == 12 ? 1000 : 999 - (call - 2) % 4);
            due.is("call " + (call + 2), x.ahead(20, 0, call, 3), 12);
        }
    }
}
