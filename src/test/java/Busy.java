/** A house in which a JOB and an act that reckons were done and STEPS wait, so that a refused call has much to spoil. */
final class Busy {
    private static final int[] DONE = {1, 1, 1, Due.RAISED, 4, 1, -1};
    private static final int TOTAL = 77;
    private static final int WAITING = 2;
    private static final int BAND = 10;

    final Calls calls = new Calls();

    /** Place 10 holds a BAND, all others are EMPTY. */
    Busy() {
        calls.give(BAND, Due.INT, TOTAL, 1, 2);
        calls.steps(new int[] {0, 5}, new int[] {5, BAND, Due.INT, 0}, new int[] {2}, new int[] {7}, new int[] {3}, new int[] {1});
        calls.ask("job");
        calls.steps(new int[] {8, 0, 1}, new int[] {7});
        told("a job and steps");
    }

    private void told(String why) {
        calls.done(why, DONE);
        Due.is(why + ": total", calls.ask("total"), TOTAL);
    }

    void refuses(String why, int fault, String name, long... a) {
        refuses(why, fault, 0, name, a);
    }

    /** Asks all that told(), gone(), done(), total(), the places and the STEPS say behind an act with a FAULT. */
    void refuses(String why, int fault, int gone, String name, long... a) {
        String behind = why + ": behind " + Calls.text(name, a);
        String held = calls.places();
        calls.ask("stat", 2, BAND);
        calls.went("stat", 3);
        calls.no(why, fault, name, a);
        calls.went(behind, gone);
        told(behind);
        String now = calls.places();
        Due.is(behind + " the places hold " + now + ", ahead of it " + held, now.equals(held) ? 1 : 0, 1);
        Due.is(behind + " steps", calls.ask("step", 7, 0, 0, 0), WAITING + 1);
        calls.ask("job");
    }
}
