/**
 * Lines given by write and line, two calls each: an object is used for at most 512 calls, and
 * typing a line takes as many as it has characters.
 */
final class Lines {
    private Lines() { }

    static void put(PauseLog log, int shape, int id, int time, int due) {
        put(log, shape, id, time, new int[] {0, 0, 0, 0}, due);
    }

    /** The numbers are a, b, c and took. */
    static void put(PauseLog log, int shape, int id, int time, int[] numbers, int due) {
        log.write(shape, id, time, numbers[0], numbers[1], numbers[2], numbers[3]);
        Check.same("line() of shape " + shape + ", id " + id + ", time " + time, log.line(), due);
    }

    static void begin(PauseLog log, int id, int time, int due) {
        put(log, 0, id, time, due);
    }

    static void end(PauseLog log, int id, int time, int due) {
        put(log, 1, id, time, due);
    }

    static void end(PauseLog log, int id, int time, int[] numbers, int due) {
        put(log, 1, id, time, numbers, due);
    }

    static void eden(PauseLog log, int id, int time, int before, int after, int due) {
        put(log, 2, id, time, new int[] {before, after, 0, 0}, due);
    }

    static void old(PauseLog log, int id, int time, int before, int after, int due) {
        put(log, 3, id, time, new int[] {before, after, 0, 0}, due);
    }

    static void mark(PauseLog log, int id, int time, int due) {
        put(log, 4, id, time, due);
    }

    static void marked(PauseLog log, int id, int time, int took, int due) {
        put(log, 5, id, time, new int[] {0, 0, 0, took}, due);
    }

    static void abort(PauseLog log, int id, int time, int due) {
        put(log, 6, id, time, due);
    }

    /** Events from id 0 on, all at time 0, every second one a pause and the others marks. */
    static void events(PauseLog log, int many) {
        for (int id = 0; id < many; id++) {
            boolean pause = id % 2 == 0;
            put(log, pause ? 0 : 4, id, 0, 0);
            put(log, pause ? 1 : 6, id, 0, 1);
        }
    }
}
