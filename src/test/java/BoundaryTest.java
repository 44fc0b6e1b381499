import java.util.Arrays;

/**
 * One test for each sentence of the document that names a boundary, on both sides of it; the
 * sentence stands at the head of its test. A record that no ride would leave is put into the tag
 * by tears alone: each leaves one word of junk, from the last word of the record to the first.
 */
public final class BoundaryTest {
    private static final String ARGUMENT = "IllegalArgumentException";
    private static final String STATE = "IllegalStateException";
    private static final String INDEX = "IndexOutOfBoundsException";
    private static final int LOW = Integer.MIN_VALUE;
    private static final int HIGH = Integer.MAX_VALUE;

    private static int wrong = 0;
    private static int sentences = 0;
    private static String sentence = "";

    public static void main(String[] args) {
        memory();
        oneTimeBits();
        records();
        twins();
        kinds();
        purseRecords();
        gates();
        transferRecords();
        voidRides();
        journeys();
        presenting();
        openRides();
        freeRides();
        passes();
        carnets();
        purses();
        tears();
        topUps();
        reasons();
        dialogues();
        answers();
        inspections();
        counts();
        System.out.println(sentences + " sentences, " + wrong + " wrong answers");
        if (wrong != 0) {
            System.exit(1);
        }
    }

    private static void sentence(String text) {
        sentence = text;
        sentences++;
    }

    private static void wrong(String what) {
        wrong++;
        System.out.println(sentence + ": " + what);
    }

    private static void due(String call, long got, long want) {
        if (got != want) {
            wrong(call + " answered " + got + ", due is " + want);
        }
    }

    private static void due(String call, boolean got, boolean want) {
        due(call, got ? 1 : 0, want ? 1 : 0);
    }

    /** A call that throws leaves the memory, the counts, the reason and the dialogue alone. */
    private static void throwsDue(String call, String want, TicketTag x, Runnable run) {
        int[] before = seen(x);
        String got = "nothing";
        try {
            run.run();
        } catch (RuntimeException e) {
            got = e.getClass().getSimpleName();
        }
        if (!got.equals(want)) {
            wrong(call + " threw " + got + ", due is " + want);
        }
        if (!Arrays.equals(before, seen(x))) {
            wrong(call + " threw and changed the tag");
        }
    }

    private static void refusedDue(TicketTag x, int why, java.util.function.IntSupplier run) {
        int[] before = seen(x);
        due("a refused call", run.getAsInt(), 3);
        due("reason()", x.reason(), why);
        int[] after = seen(x);
        before[0] = after[0];
        if (!Arrays.equals(before, after)) {
            wrong("a refused call changed the tag");
        }
    }

    private static int[] seen(TicketTag x) {
        return new int[] {x.reason(), x.count(0), x.count(1), x.count(2), x.count(3), x.rides(),
            x.cents(), x.lastRide(6), x.lastRide(7), x.word(0, 0), x.word(4, 0), x.word(41, 0)};
    }

    private static TicketTag issued(int kind, int p1, int p2, int p3) {
        TicketTag x = new TicketTag();
        due("issue", x.issue(kind, p1, p2, p3), true);
        return x;
    }

    private static TicketTag atGate(int gate, int kind, int p1, int p2, int p3) {
        TicketTag x = issued(kind, p1, p2, p3);
        due("present", x.present(gate), kind);
        return x;
    }

    private static TicketTag carnet(int rides) {
        return atGate(0, 1, rides, 0, 0);
    }

    private static TicketTag pass() {
        return atGate(0, 2, 65535, 0, 65535);
    }

    private static TicketTag purse(int cap, int cents) {
        return atGate(0, 3, cap, cents, 0);
    }

    private static int[] summed(int... words) {
        int[] record = Arrays.copyOf(words, 8);
        long sum = 0;
        for (int w = 0; w < 7; w++) {
            sum += record[w];
        }
        record[7] = sum == 0 ? 65535 : (int) (65534 - (sum - 1) % 65535);
        return record;
    }

    private static void dueRecord(TicketTag x, int block, int... eight) {
        for (int w = 0; w < 8; w++) {
            int b = block + w / 4;
            due("word(" + b + ", " + w % 4 + ")", x.word(b, w % 4), eight[w]);
        }
    }

    private static void setTime(TicketTag x, int gate, int time) {
        x.setClock(gate, time / 1440, time % 1440);
    }

    /**
     * The record of a ride, over the twin that is not the latest (block tells which one it is).
     * The tag is away behind it. Gate 10 is far off in time, so that no record is right before
     * its last word is there; and when the counter is the due one already, it stays.
     */
    private static void forgeRide(TicketTag x, int block, int... eight) {
        x.away();
        x.setClock(10, 1234, 567);
        for (int w = 7; w >= 0 && !isDone(x, block, w, eight); w--) {
            x.present(10);
            x.tearAfter(w, eight[w]);
            due("a ride torn for its word " + w, x.validate(99, 0, 9), 4);
        }
        dueRecord(x, block, eight);
    }

    private static void forgeValue(TicketTag x, int block, int... eight) {
        x.away();
        for (int w = 7; w >= 0 && !isDone(x, block, w, eight); w--) {
            x.present(10);
            x.tearAfter(w, eight[w]);
            due("a top-up torn for its word " + w, x.topUp(1), 4);
        }
        dueRecord(x, block, eight);
    }

    /** The journey that present() would write for the last ride. */
    private static void forgeJourney(TicketTag x, int block, int... eight) {
        x.away();
        for (int w = 7; w >= 0 && !isDone(x, block, w, eight); w--) {
            x.tearAfter(w, eight[w]);
            due("a journey torn for its word " + w, x.present(10), 4);
        }
        dueRecord(x, block, eight);
    }

    private static boolean isDone(TicketTag x, int block, int w, int... eight) {
        return w == 0 && x.word(block, 0) == eight[0];
    }

    // ---- The memory.

    private static void memory() {
        sentence("BLOCKS 0 .. 63 of four WORDS, all 0 at first");
        TicketTag x = new TicketTag();
        for (int i = 0; i < 256; i++) {
            due("word", x.word(i / 4, i % 4), 0);
        }
        sentence("IndexOutOfBoundsException: there is no such word");
        TicketTag y = issued(2, 65535, 2, 3);
        int[][] none = {{-1, 0}, {64, 0}, {0, -1}, {0, 4}, {63, 4}, {-1, 4}, {1, -1}, {64, -1},
            {LOW, 0}, {HIGH, 0}, {0, LOW}, {0, HIGH}, {1 << 30, 0}, {3 << 30, 3}};
        for (int[] at : none) {
            throwsDue("word", INDEX, y, () -> y.word(at[0], at[1]));
        }
        due("word(0, 0)", y.word(0, 0), 2);
        due("word(0, 3)", y.word(0, 3), 3);
        due("word(63, 0)", y.word(63, 0), 0);
        due("word(63, 3)", y.word(63, 3), 0);
        sentence("WORDS (0 .. 65535)");
        for (int junk : new int[] {0, 1, 65534, 65535}) {
            TicketTag z = purse(0, 1000);
            z.tearAfter(1, junk);
            due("torn", z.topUp(1), 4);
            due("word(7, 1)", z.word(7, 1), junk);
        }
    }

    private static void oneTimeBits() {
        sentence("bit b is bit b % 16 of word b / 16");
        TicketTag x = carnet(60);
        for (int ride = 1; ride <= 60; ride++) {
            x.validate(0, 0, ride % 2);
            for (int w = 0; w < 4; w++) {
                int on = Math.max(0, Math.min(16, ride - 16 * w));
                due("word(4, " + w + ") by " + ride, x.word(4, w), (1 << on) - 1);
            }
        }
        sentence("a word that is written there keeps all bits that it has");
        for (int before : new int[] {1, 15, 16, 17}) {
            TicketTag y = carnet(60);
            for (int ride = 0; ride < before; ride++) {
                y.validate(0, 0, ride % 2);
            }
            y.tearAfter(8, 0);
            due("torn", y.validate(0, 0, before % 2), 4);
            due("kept", y.count(1), before);
        }
        sentence("in block 4: the bits that it had, and those of the word that junk has");
        int[] junks = {0, 4, 8, 3, 0xfffb, 0xfff8, 0xfffc, 0xffff};
        int[] words = {3, 7, 3, 3, 3, 3, 7, 7};
        for (int i = 0; i < junks.length; i++) {
            TicketTag y = carnet(60);
            y.validate(0, 0, 0);
            y.validate(0, 0, 1);
            y.tearAfter(8, junks[i]);
            due("torn", y.validate(0, 0, 0), 4);
            due("word(4, 0) by " + junks[i], y.word(4, 0), words[i]);
            due("lastRide(6) by " + junks[i], y.lastRide(6), words[i] == 7 ? 3 : 2);
        }
        for (int junk : new int[] {1, 0xfffe}) {
            TicketTag y = carnet(60);
            for (int ride = 0; ride < 16; ride++) {
                y.validate(0, 0, ride % 2);
            }
            y.tearAfter(8, junk);
            due("torn", y.validate(0, 0, 0), 4);
            due("word(4, 0)", y.word(4, 0), 65535);
            due("word(4, 1)", y.word(4, 1), junk == 1 ? 1 : 0);
        }
    }

    // ---- Records and twins.

    /** The counter of the other twin is 40000: so every counter that is tried is ahead of it. */
    private static void dueRight(boolean right, int... eight) {
        TicketTag x = pass();
        forgeRide(x, 41, summed(40000, 0, 0, 0, 32));
        forgeRide(x, 43, eight);
        due("lastRide(6) of " + Arrays.toString(eight), x.lastRide(6), right ? eight[0] : 40000);
    }

    private static void records() {
        sentence("RIGHT when its last word is 65535 less the SUM of the others");
        dueRight(true, 7, 100, 200, 300, 32, 5, 6, 65535 - 650);
        dueRight(false, 7, 100, 200, 300, 32, 5, 6, 65535 - 651);
        dueRight(false, 7, 100, 200, 300, 32, 5, 6, 65535 - 649);
        dueRight(true, 0, 0, 0, 0, 0, 0, 0, 65535);
        dueRight(false, 0, 0, 0, 0, 0, 0, 0, 65534);
        dueRight(false, 0, 0, 0, 0, 0, 0, 0, 0);
        dueRight(true, 1, 0, 0, 0, 0, 0, 0, 65534);
        sentence("words are added, and whenever that is above 65535, 65535 is taken off");
        dueRight(true, 1, 65533, 0, 0, 0, 0, 0, 1);
        dueRight(true, 1, 65534, 0, 0, 0, 0, 0, 0);
        dueRight(false, 1, 65534, 0, 0, 0, 0, 0, 65535);
        dueRight(true, 2, 65534, 0, 0, 0, 0, 0, 65534);
        dueRight(false, 2, 65534, 0, 0, 0, 0, 0, 65535);
        dueRight(false, 2, 65534, 0, 0, 0, 0, 0, 0);
        dueRight(true, 65535, 0, 0, 0, 0, 0, 0, 0);
        dueRight(false, 65535, 0, 0, 0, 0, 0, 0, 65535);
        dueRight(true, 65535, 1, 0, 0, 0, 0, 0, 65534);
        dueRight(true, 65535, 65535, 0, 0, 0, 0, 0, 0);
        dueRight(false, 65535, 65535, 0, 0, 0, 0, 0, 65535);
        dueRight(true, 65535, 65535, 0, 0, 0, 0, 1, 65534);
        dueRight(true, 65535, 65535, 65535, 65535, 65535, 65535, 65535, 0);
        dueRight(false, 65535, 65535, 65535, 65535, 65535, 65535, 65535, 65535);
        int[] cents = {0, 65532, 65533, 65534, 65535};
        int[] sums = {65534, 2, 1, 0, 65534};
        for (int i = 0; i < cents.length; i++) {
            TicketTag x = issued(3, 0, cents[i], 0);
            due("word(6, 3) of " + cents[i], x.word(6, 3), sums[i]);
            due("cents()", x.cents(), cents[i]);
        }
        TicketTag rich = purse(0, 64984);
        due("topUp(549)", rich.topUp(549), 0);
        dueRecord(rich, 7, 2, 65533, 0, 0, 0, 0, 0, 0);
        due("cents()", rich.cents(), 65533);
        due("topUp(1)", rich.topUp(1), 0);
        dueRecord(rich, 5, 3, 65534, 0, 0, 0, 0, 0, 65533);
        due("cents()", rich.cents(), 65534);
    }

    private static void twins() {
        aheadOfFirst();
        aheadOfSecond();
        noneRight();
        sentence("written over the one that is not the latest (without a latest: the first)");
        TicketTag x = pass();
        x.validate(0, 0, 0);
        due("the first", x.word(41, 0), 1);
        due("not the second", x.word(43, 0), 0);
        x.validate(0, 0, 0);
        due("not the first", x.word(41, 0), 1);
        due("the second", x.word(43, 0), 2);
        x.validate(0, 0, 0);
        due("the first", x.word(41, 0), 3);
        due("not the second", x.word(43, 0), 2);
        sentence("its counter one more than the latest's (modulo 65536; without: 1)");
        TicketTag rides = pass();
        forgeRide(rides, 41, summed(65533));
        rides.present(0);
        int[] counters = {65534, 65535, 0, 1};
        for (int i = 0; i < 4; i++) {
            rides.validate(1, 0, 0);
            due("its block", rides.word(i % 2 == 0 ? 43 : 41, 0), counters[i]);
            due("lastRide(6)", rides.lastRide(6), counters[i]);
        }
        TicketTag values = purse(0, 1000);
        due("without: 1", values.word(5, 0), 1);
        forgeValue(values, 7, summed(32768, 1000));
        forgeValue(values, 5, summed(65533, 2000));
        values.present(0);
        for (int i = 0; i < 4; i++) {
            due("topUp(1)", values.topUp(1), 0);
            due("its block", values.word(i % 2 == 0 ? 7 : 5, 0), counters[i]);
            due("cents()", values.cents(), 2001 + i);
        }
        TicketTag torn = pass();
        torn.tearAfter(7, 1);
        due("torn", torn.validate(1, 0, 0), 4);
        torn.present(0);
        due("the first again", torn.validate(2, 0, 0), 2);
        due("without: 1", torn.word(41, 0), 1);
        due("not the second", torn.word(43, 0), 0);
    }

    /** The first one's counter is 1. */
    private static void aheadOfFirst() {
        sentence("ahead (by 1 .. 32767, modulo 65536), and if none is ahead, the first");
        int[] counters = {0, 1, 2, 3, 32767, 32768, 32769, 32770, 65534, 65535};
        boolean[] ahead = {false, false, true, true, true, true, false, false, false, false};
        for (int i = 0; i < counters.length; i++) {
            TicketTag rides = pass();
            rides.validate(50, 0, 0);
            forgeRide(rides, 43, summed(counters[i], 0, 0, 77, 32));
            due("lastRide(4) by " + counters[i], rides.lastRide(4), ahead[i] ? 77 : 50);
            TicketTag values = purse(0, 1000);
            forgeValue(values, 7, summed(counters[i], 7777));
            due("cents() by " + counters[i], values.cents(), ahead[i] ? 7777 : 1000);
        }
    }

    /** The second one's counter is 2; counters that are equal make the first one the latest. */
    private static void aheadOfSecond() {
        int[] counters = {0, 1, 2, 3, 32768, 32769, 32770, 32771, 65535};
        boolean[] first = {false, false, true, true, true, true, true, false, false};
        for (int i = 0; i < counters.length; i++) {
            TicketTag rides = pass();
            rides.validate(49, 0, 0);
            rides.validate(50, 0, 0);
            forgeRide(rides, 41, summed(counters[i], 0, 0, 77, 32));
            due("lastRide(4) by " + counters[i], rides.lastRide(4), first[i] ? 77 : 50);
            TicketTag values = purse(0, 999);
            values.topUp(1);
            forgeValue(values, 5, summed(counters[i], 7777));
            due("cents() by " + counters[i], values.cents(), first[i] ? 7777 : 1000);
        }
    }

    private static void noneRight() {
        sentence("there is none when none is right");
        TicketTag x = pass();
        due("at first", x.lastRide(6), -1);
        forgeRide(x, 41, 3, 0, 0, 0, 0, 0, 0, 65533);
        due("not right", x.lastRide(6), -1);
        x = pass();
        x.validate(1, 0, 0);
        due("the first alone", x.lastRide(6), 1);
        forgeRide(x, 43, 2, 0, 0, 0, 0, 0, 0, 65532);
        due("the first alone", x.lastRide(6), 1);
        x = pass();
        x.validate(1, 0, 0);
        x.validate(1, 0, 0);
        forgeRide(x, 41, 3, 0, 0, 0, 0, 0, 0, 65531);
        due("the second alone", x.lastRide(6), 2);
    }

    // ---- Promises 1 to 4: what there is, and which numbers are so.

    private static void dueIssue(boolean so, int kind, int p1, int p2, int p3) {
        TicketTag x = new TicketTag();
        if (so) {
            due("issue", x.issue(kind, p1, p2, p3), true);
            int[] words = {kind, p1, p2, p3};
            for (int w = 0; w < 4; w++) {
                due("word(0, " + w + ")", x.word(0, w), words[w]);
            }
        } else {
            throwsDue("issue", ARGUMENT, x, () -> x.issue(kind, p1, p2, p3));
            due("present(0)", x.present(0), 0);
        }
    }

    private static void kinds() {
        sentence("no such kind");
        for (int kind : new int[] {LOW, -1, 0, 1, 2, 3, 4, HIGH}) {
            dueIssue(kind >= 1 && kind <= 3, kind, 1, 0, 0);
        }
        sentence("CARNET of P1 rides (1 .. 60)");
        for (int p1 : new int[] {LOW, -1, 0, 1, 59, 60, 61, 65535, 65536, HIGH}) {
            dueIssue(p1 >= 1 && p1 <= 60, 1, p1, 0, 0);
        }
        sentence("PASS for the zones whose bits P1 has (1 .. 65535)");
        for (int p1 : new int[] {LOW, -1, 0, 1, 2, 65534, 65535, 65536, 65537, HIGH}) {
            dueIssue(p1 >= 1 && p1 <= 65535, 2, p1, 0, 0);
        }
        sentence("P2 not above P3");
        for (int p2 : new int[] {-1, 0, 1, 7, 8, 9, 65535}) {
            dueIssue(p2 >= 0 && p2 <= 8, 2, 1, p2, 8);
        }
        dueIssue(true, 2, 1, 65535, 65535);
        dueIssue(true, 2, 1, 0, 65535);
        dueIssue(false, 2, 1, 0, -1);
        dueIssue(false, 2, 1, -1, -1);
        sentence("Numbers that are not told must be 0");
        for (int p : new int[] {LOW, -1, 1, 65535, HIGH}) {
            dueIssue(false, 1, 5, p, 0);
            dueIssue(false, 1, 5, 0, p);
            dueIssue(false, 3, 5, 5, p);
        }
        sentence("none may be above 65535");
        dueIssue(true, 3, 65535, 65535, 0);
        dueIssue(true, 3, 0, 0, 0);
        dueIssue(false, 3, 65536, 0, 0);
        dueIssue(false, 3, 0, 65536, 0);
        dueIssue(false, 3, -1, 0, 0);
        dueIssue(false, 3, 0, -1, 0);
        dueIssue(false, 2, 1, 0, 65536);
        dueIssue(false, 2, 1, 65536, 65536);
        sentence("true; false when it is issued already");
        TicketTag x = new TicketTag();
        due("issue", x.issue(1, 2, 0, 0), true);
        due("issue", x.issue(1, 2, 0, 0), false);
        due("issue", x.issue(3, 2, 2, 0), false);
        due("word(0, 0)", x.word(0, 0), 1);
        due("count(0)", x.count(0), 4);
        throwsDue("issue", ARGUMENT, x, () -> x.issue(1, 61, 0, 0));
        sentence("IllegalStateException: a dialogue goes on (issue)");
        TicketTag near = new TicketTag();
        near.present(0);
        throwsDue("issue", STATE, near, () -> near.issue(1, 2, 0, 0));
        near.away();
        due("issue", near.issue(1, 2, 0, 0), true);
        near.present(0);
        throwsDue("issue of an issued one", STATE, near, () -> near.issue(1, 2, 0, 0));
        sentence("neither torn");
        for (int n : new int[] {0, 3, 4, 11}) {
            TicketTag told = new TicketTag();
            told.tearAfter(n, 9);
            due("issue", told.issue(3, 1, 500, 0), true);
            due("word(0, 3)", told.word(0, 3), 0);
            dueRecord(told, 5, summed(1, 500));
            due("count(0)", told.count(0), 12);
            due("count(2)", told.count(2), 0);
        }
    }

    private static void gates() {
        sentence("GATES 0 .. 11");
        TicketTag x = issued(1, 60, 0, 0);
        for (int gate : new int[] {LOW, -1, 12, HIGH}) {
            throwsDue("setClock", ARGUMENT, x, () -> x.setClock(gate, 0, 0));
            throwsDue("bar", ARGUMENT, x, () -> x.bar(gate, true));
            throwsDue("present", ARGUMENT, x, () -> x.present(gate));
        }
        for (int gate : new int[] {0, 11}) {
            x.setClock(gate, 1 + gate, 2);
            x.bar(gate, true);
            due("present", x.present(gate), 1);
            refusedDue(x, 1, () -> x.validate(0, 0, 0));
            x.bar(gate, false);
            due("validate", x.validate(0, 0, 0), 0);
            due("journey(0, 0)", x.journey(0, 0), 1 + gate);
            due("journey(0, 6)", x.journey(0, 6), gate);
            x.away();
        }
        sentence("a day 0 .. 9999, a minute 0 .. 1439");
        int[][] times = {{-1, 0}, {10000, 0}, {0, -1}, {0, 1440}, {LOW, 0}, {HIGH, 0}, {0, LOW},
            {0, HIGH}, {10000, 1440}};
        TicketTag y = carnet(60);
        y.setClock(0, 9999, 1439);
        for (int[] time : times) {
            throwsDue("setClock", ARGUMENT, y, () -> y.setClock(0, time[0], time[1]));
            throwsDue("inspect", ARGUMENT, y, () -> y.inspect(time[0], time[1], 0));
        }
        due("validate", y.validate(0, 0, 0), 0);
        due("journey(0, 0)", y.journey(0, 0), 9999);
        due("journey(0, 1)", y.journey(0, 1), 1439);
        y.setClock(0, 0, 0);
        due("validate", y.validate(0, 0, 1), 0);
        due("journey(0, 0)", y.journey(0, 0), 0);
        due("journey(0, 1)", y.journey(0, 1), 0);
        sentence("0, 0 at first; gates that bar nothing");
        for (int gate = 0; gate < 12; gate++) {
            TicketTag z = atGate(gate, 1, 1, 0, 0);
            due("validate", z.validate(0, 0, 0), 0);
            due("lastRide(0)", z.lastRide(0), 0);
            due("lastRide(1)", z.lastRide(1), 0);
        }
        sentence("barred by a gate, or not any more");
        TicketTag z = carnet(9);
        z.bar(1, true);
        due("by another gate", z.validate(0, 0, 0), 0);
        z.bar(0, true);
        z.bar(0, true);
        refusedDue(z, 1, () -> z.validate(0, 0, 0));
        z.bar(0, false);
        due("not any more", z.validate(0, 0, 0), 1);
        z.away();
        z.present(1);
        refusedDue(z, 1, () -> z.validate(0, 0, 0));
    }

    // ---- What rides write.

    private static void purseRecords() {
        sentence("cents CHARGED on that day (65535 at most)");
        int[] before = {0, 65384, 65385, 65386, 65534, 65535};
        int[] behind = {150, 65534, 65535, 65535, 65535, 65535};
        for (int i = 0; i < before.length; i++) {
            TicketTag x = purse(0, 1000);
            forgeValue(x, 7, summed(2, 1000, 0, before[i]));
            x.present(0);
            due("validate", x.validate(0, 0, 0), 0);
            dueRecord(x, 5, summed(3, 850, 0, behind[i]));
        }
        TicketTag rich = purse(0, 65535);
        for (int ride = 1; ride <= 118; ride++) {
            due("ride " + ride, rich.validate(3, 15, ride % 2), 0);
        }
        due("charged", rich.word(5, 3), 65490);
        rich.topUp(600);
        due("one more", rich.validate(3, 15, 1), 0);
        due("charged", rich.word(5, 3), 65535);
        due("cents()", rich.cents(), 65535 + 600 - 119 * 555);
        sentence("On another day none are charged yet");
        for (int day : new int[] {4, 5, 6}) {
            TicketTag x = issued(3, 0, 1000, 0);
            x.setClock(0, 5, 1439);
            x.present(0);
            x.validate(0, 0, 0);
            x.setClock(0, day, 1439);
            due("validate", x.validate(0, 0, 1), 0);
            dueRecord(x, 5, summed(3, 700, day, day == 5 ? 300 : 150));
        }
    }

    private static void transferRecords() {
        sentence("a line is 0 .. 255, a zone or direction 0 .. 15");
        TicketTag x = pass();
        int[][] bad = {{-1, 0, 0}, {256, 0, 0}, {0, -1, 0}, {0, 16, 0}, {0, 0, -1}, {0, 0, 16},
            {LOW, 0, 0}, {0, HIGH, 0}, {0, 0, LOW}, {HIGH, HIGH, HIGH}};
        for (int[] ride : bad) {
            throwsDue("validate", ARGUMENT, x, () -> x.validate(ride[0], ride[1], ride[2]));
        }
        due("the least", x.validate(0, 0, 0), 2);
        dueRecord(x, 41, summed(1, 0, 0, 0, 32));
        due("the greatest", x.validate(255, 15, 15), 2);
        dueRecord(x, 43, summed(2, 0, 0, 255 + 256 * 15, 15 + 32));
        due("the next zone", x.validate(0, 1, 0), 2);
        due("journey(0, 2)", x.journey(0, 2), 0);
        due("journey(0, 3)", x.journey(0, 3), 1);
        due("the line before", x.validate(255, 0, 0), 2);
        due("journey(0, 2)", x.journey(0, 2), 255);
        due("journey(0, 3)", x.journey(0, 3), 0);
        sentence("a transfer record: line with 256 times the zone, direction with 16 times the"
                + " code, with 256 times the gate");
        TicketTag y = issued(1, 60, 0, 0);
        y.setClock(11, 9999, 1364);
        y.present(11);
        due("paid", y.validate(255, 15, 15), 0);
        dueRecord(y, 41, summed(1, 9999, 1364, 4095, 15 + 256 * 11, 256));
        dueRecord(y, 11, summed(1, 9999, 1364, 4095, 15 + 256 * 11, 0, 0));
        y.setClock(11, 9999, 1439);
        due("free", y.validate(255, 15, 15), 1);
        dueRecord(y, 43, summed(2, 9999, 1364 + 4096, 4095, 31 + 256 * 11, 256 + 75));
        dueRecord(y, 13, summed(2, 9999, 1439, 4095, 31 + 256 * 11, 0, 1));
        due("free", y.validate(0, 0, 15), 1);
        dueRecord(y, 41, summed(3, 9999, 1364 + 8192, 0, 31 + 256 * 11, 256 + 75));
        dueRecord(y, 15, summed(3, 9999, 1439, 0, 31 + 256 * 11, 0, 2));
        int[] ride = {9999, 1439, 255, 15, 15, 1, 11, 0, 1};
        for (int what = 0; what < 9; what++) {
            due("journey(1, " + what + ")", y.journey(1, what), ride[what]);
        }
        due("journey(2, 5)", y.journey(2, 5), 0);
        due("lastRide(5)", y.lastRide(5), 1);
        sentence("words of a record that are full are read as they are made");
        TicketTag z = pass();
        forgeRide(z, 41, 65535, 65535, 65535, 65535, 65535, 65535, 65535, 0);
        int[] last = {65535, 4095, 15, 15, 255, 15, 65535, 1};
        for (int what = 0; what < 8; what++) {
            due("lastRide(" + what + ")", z.lastRide(what), last[what]);
        }
        z.present(0);
        int minutes = 4095 + 255;
        int[] told = {(65535 + minutes / 1440) % 65536, minutes % 1440, 255, 255, 15, 15, 255,
            65535, 15};
        for (int what = 0; what < 9; what++) {
            due("journey(0, " + what + ")", z.journey(0, what), told[what]);
        }
    }

    /** One paid ride is there, of number 1; a second record is ahead of it. */
    private static void dueVoid(boolean isVoid, TicketTag x, int code, int expects) {
        due("paid", x.validate(5, 0, 3), 0);
        forgeRide(x, 43, summed(2, 0, 0, 7, 16 * code, 256 * expects));
        due("lastRide(6) by code " + code + ", expects " + expects, x.lastRide(6), isVoid ? 1 : 2);
        int written = x.count(0);
        x.present(0);
        due("count(0)", x.count(0), written + 8);
        due("word(43, 0)", x.word(43, 0), isVoid ? 0 : 2);
        due("lastRide(7)", x.lastRide(7), 0);
    }

    private static void voidRides() {
        sentence("VOID: on a carnet, when it expects more than the one-time bits that are on");
        dueVoid(false, carnet(9), 0, 0);
        dueVoid(false, carnet(9), 0, 1);
        dueVoid(true, carnet(9), 0, 2);
        dueVoid(true, carnet(9), 0, 255);
        sentence("VOID when its code is 0");
        dueVoid(false, carnet(9), 1, 2);
        dueVoid(false, carnet(9), 2, 255);
        dueVoid(false, carnet(9), 15, 255);
        dueVoid(false, purse(0, 1000), 1, 3);
        dueVoid(false, purse(0, 1000), 15, 3);
        sentence("VOID: on a purse, when it expects the latest value's counter and 1");
        dueVoid(false, purse(0, 1000), 0, 2);
        dueVoid(true, purse(0, 1000), 0, 3);
        dueVoid(false, purse(0, 1000), 0, 4);
        dueVoid(false, purse(0, 1000), 0, 255);
        sentence("(modulo 256)");
        int[] counters = {253, 254, 255, 256, 511, 512, 32766};
        for (int counter : counters) {
            for (int more = 0; more <= 2; more++) {
                TicketTag x = purse(0, 1000);
                forgeValue(x, 7, summed(counter - 1, 1000));
                x.present(0);
                dueVoid(more == 1, x, 0, (counter + more) % 256);
            }
        }
        expecting();
        sentence("VOID: on carnets and purses alone");
        for (int expects : new int[] {0, 1, 2, 3, 4, 255}) {
            TicketTag onPass = pass();
            forgeRide(onPass, 41, summed(9, 0, 0, 7, 0, 256 * expects));
            due("lastRide(6)", onPass.lastRide(6), 9);
        }
        otherRide();
    }

    private static void expecting() {
        sentence("expects the latest value's counter and 1 modulo 256; free: what is");
        int[] counters = {253, 254, 255, 256, 32767};
        for (int counter : counters) {
            TicketTag x = purse(0, 1000);
            forgeValue(x, 7, summed(counter, 1000));
            x.present(0);
            due("paid", x.validate(0, 0, 0), 0);
            due("expects", x.word(42, 1), (counter + 1) % 256 * 256);
            due("lastRide(6)", x.lastRide(6), 1);
            due("free", x.validate(0, 0, 0), 1);
            due("expects", x.word(44, 1), (counter + 1) % 256 * 256);
            x.tearAfter(15, 0);
            due("torn in its value", x.validate(0, 0, 1), 4);
            due("expects", x.word(42, 1), (counter + 2) % 256 * 256);
            due("void", x.lastRide(6), 2);
            x.present(0);
            due("taken back", x.word(42, 1), 0);
        }
        sentence("expects the bits that are on and 1; free: the one-time bits that are on");
        TicketTag y = carnet(60);
        for (int ride = 1; ride <= 60; ride++) {
            due("paid", y.validate(0, 0, ride % 2), 0);
            due("expects", y.word(ride % 2 == 1 ? 42 : 44, 1), 256 * ride);
        }
        due("free", y.validate(0, 0, 0), 1);
        due("expects", y.word(42, 1), 256 * 60);
    }

    private static void otherRide() {
        sentence("unless it is void; then it is the other one, if that is right (none otherwise)");
        for (int rides = 0; rides <= 2; rides++) {
            TicketTag x = carnet(9);
            for (int ride = 0; ride < rides; ride++) {
                x.validate(5, 0, ride % 2);
            }
            x.tearAfter(8, 0);
            due("not paid", x.validate(6, 0, 4), 4);
            due("lastRide(6)", x.lastRide(6), rides == 0 ? -1 : rides);
            due("lastRide(4)", x.lastRide(4), rides == 0 ? -1 : 5);
        }
        TicketTag y = carnet(9);
        y.validate(5, 0, 0);
        forgeRide(y, 43, 2, 0, 0, 7, 0, 512, 0, 0);
        due("not right: the other is the latest", y.lastRide(6), 1);
        // Both would be void; of the other one it is only asked that it is right.
        TicketTag z = purse(0, 1000);
        due("paid, expects 2", z.validate(5, 0, 0), 0);
        forgeRide(z, 43, summed(0, 0, 0, 7, 0, 512));
        due("the paid one", z.lastRide(6), 1);
        forgeValue(z, 5, summed(257, 500));
        due("the other one", z.lastRide(6), 0);
    }

    // ---- Journeys.

    private static void journeys() {
        sentence("at place NUMBER modulo 16 of the journeys (blocks 9, 11, .. 39)");
        for (int number : new int[] {0, 1, 14, 15, 16, 17, 31, 32, 32768, 65520, 65534, 65535}) {
            TicketTag x = pass();
            forgeRide(x, 41, summed(number, 3, 4, 5, 32, 0, 6));
            due("lastRide(7)", x.lastRide(7), 1);
            x.present(0);
            dueRecord(x, 9 + number % 16 * 2, summed(number, 3, 4, 5, 32, 6, 0));
            due("lastRide(7)", x.lastRide(7), 0);
            due("journey(0, 7)", x.journey(0, 7), 6);
        }
        sentence("day (modulo 65536) and minute of the ride");
        int[][] began = {{65534, 1439, 1}, {65535, 1439, 0}, {65535, 1439, 1}, {65535, 1440, 0},
            {65535, 4095, 255}, {9999, 1439, 75}, {0, 1439, 0}, {0, 1440, 0}};
        int[][] rode = {{65535, 0}, {65535, 1439}, {0, 0}, {0, 0}, {2, 30}, {10000, 74},
            {0, 1439}, {1, 0}};
        for (int i = 0; i < began.length; i++) {
            TicketTag x = pass();
            forgeRide(x, 41, summed(1, began[i][0], began[i][1], 5, 32, began[i][2]));
            x.present(0);
            due("journey(0, 0)", x.journey(0, 0), rode[i][0]);
            due("journey(0, 1)", x.journey(0, 1), rode[i][1]);
            due("lastRide(0)", x.lastRide(0), began[i][0]);
            due("lastRide(1)", x.lastRide(1), began[i][1]);
        }
        wantingJourneys();
        newestJourneys();
    }

    private static void wantingJourneys() {
        sentence("WANTING when there is no right record with its number at its place");
        int[][] journeys = {
            summed(1, 8, 9), {1, 8, 9, 0, 0, 0, 0, 65516}, {1, 8, 9, 0, 0, 0, 0, 65518},
            summed(17, 8, 9), summed(0, 8, 9), summed(2, 8, 9), summed(65521, 8, 9),
        };
        for (int i = 0; i < journeys.length; i++) {
            TicketTag x = pass();
            x.tearAfter(8, 1);
            due("torn", x.validate(5, 0, 0), 4);
            forgeJourney(x, 11, journeys[i]);
            due("lastRide(7) " + i, x.lastRide(7), i == 0 ? 0 : 1);
            due("journey(0, 0) " + i, x.journey(0, 0), i == 0 ? 8 : -1);
            int written = x.count(0);
            x.present(0);
            due("count(0)", x.count(0), written + (i == 0 ? 0 : 8));
            due("journey(0, 0)", x.journey(0, 0), i == 0 ? 8 : 0);
        }
        TicketTag y = pass();
        for (int ride = 1; ride <= 16; ride++) {
            y.validate(ride, 0, 0);
            due("lastRide(7)", y.lastRide(7), 0);
        }
        y.tearAfter(8, 17);
        due("torn", y.validate(17, 0, 0), 4);
        due("its number, but not right", y.lastRide(7), 1);
        y.present(0);
        due("lastRide(7)", y.lastRide(7), 0);
    }

    private static void newestJourneys() {
        sentence("-1 when there is no last ride, no such what, or k is not 0 .. 15");
        TicketTag x = pass();
        for (int what = 0; what <= 8; what++) {
            due("no ride", x.journey(0, what), -1);
        }
        for (int ride = 1; ride <= 20; ride++) {
            x.validate(ride, 0, 0);
            for (int k : new int[] {-1, 0, 1, 14, 15, 16, 17}) {
                boolean told = k >= 0 && k <= 15 && k < ride;
                due("journey(" + k + ", 2)", x.journey(k, 2), told ? ride - k : -1);
            }
        }
        for (int k : new int[] {LOW, -65536, -16, -1, 16, 65536, 65537, HIGH}) {
            due("journey(" + k + ", 2)", x.journey(k, 2), -1);
        }
        for (int what : new int[] {LOW, -1, 9, 16, HIGH}) {
            due("journey(0, " + what + ")", x.journey(0, what), -1);
        }
        due("journey(0, 0)", x.journey(0, 0), 0);
        due("journey(0, 8)", x.journey(0, 8), 0);
        // The 17th ride's journey is wanting, and that of the 1st stands at its place still.
        TicketTag full = pass();
        for (int ride = 1; ride <= 16; ride++) {
            full.validate(ride, 0, 0);
        }
        full.tearAfter(8, 1);
        due("torn", full.validate(17, 0, 0), 4);
        due("lastRide(6)", full.lastRide(6), 17);
        dueRecord(full, 11, summed(1, 0, 0, 1, 32));
        due("journey(0, 2)", full.journey(0, 2), -1);
        due("journey(15, 2)", full.journey(15, 2), 2);
        due("journey(16, 2)", full.journey(16, 2), -1);
        sentence("numbers falling by 1 modulo 65536");
        TicketTag y = pass();
        forgeRide(y, 41, summed(65534, 0, 0, 200, 32));
        y.present(0);
        for (int ride = 1; ride <= 3; ride++) {
            y.validate(200 + ride, 0, 0);
            for (int k = 0; k <= ride; k++) {
                due("journey(" + k + ", 2)", y.journey(k, 2), 200 + ride - k);
            }
            due("none before", y.journey(ride + 1, 2), -1);
        }
        due("lastRide(6)", y.lastRide(6), 1);
        sentence("if its journey is right at its place with that number");
        TicketTag z = pass();
        z.validate(1, 0, 0);
        z.validate(2, 0, 0);
        z.tearAfter(8 + 7, 1);
        due("torn", z.validate(3, 0, 0), 4);
        due("not right", z.journey(0, 2), -1);
        due("right", z.journey(1, 2), 2);
        due("right", z.journey(2, 2), 1);
        due("empty", z.journey(3, 2), -1);
    }

    // ---- Present, and the ride that is open.

    private static void presenting() {
        sentence("the kind (0: not issued); 4 when it was torn");
        due("present", new TicketTag().present(0), 0);
        for (int kind = 1; kind <= 3; kind++) {
            due("present", issued(kind, 5, 0, 0).present(0), kind);
        }
        sentence("when the latest transfer record is void, eight words 0 are written over it");
        for (int n = 0; n <= 8; n++) {
            TicketTag x = carnet(9);
            x.tearAfter(8, 0);
            due("not paid", x.validate(6, 0, 4), 4);
            x.tearAfter(n, 4);
            int written = x.count(0);
            due("present", x.present(0), n < 8 ? 4 : 1);
            due("count(0)", x.count(0), written + Math.min(8, n + 1));
            due("count(3)", x.count(3), n < 8 ? 0 : 1);
            due("count(2)", x.count(2), n < 8 ? 2 : 1);
            int[] left = summed(1, 0, 0, 6, 4, 256);
            for (int w = 0; w < 8; w++) {
                due("word " + w, x.word(41 + w / 4, w % 4), w < n ? 0 : w > n ? left[w] : 4);
            }
        }
        sentence("then, if there is a last ride and its journey is wanting, that is written");
        for (int n = 0; n <= 16; n++) {
            TicketTag x = voidBehindWanting();
            x.tearAfter(n, 3);
            int written = x.count(0);
            due("present", x.present(0), n < 16 ? 4 : 3);
            due("count(0)", x.count(0), written + Math.min(16, n + 1));
            due("lastRide(6)", x.lastRide(6), 1);
            due("lastRide(7)", x.lastRide(7), n < 16 ? 1 : 0);
        }
        TicketTag y = voidBehindWanting();
        y.present(0);
        due("open", y.validate(5, 0, 9), 0);
        dueRecord(y, 11, summed(1, 0, 0, 5, 3, 185));
        dueRecord(y, 43, 0, 0, 0, 0, 0, 0, 0, 0);
        sentence("nothing is written when the latest is not void and no journey is wanting");
        for (int kind = 1; kind <= 3; kind++) {
            TicketTag z = atGate(0, kind, 9, kind == 1 ? 0 : kind == 2 ? 0 : 500, 0);
            z.validate(0, 0, 0);
            z.away();
            int written = z.count(0);
            z.present(1);
            due("count(0)", z.count(0), written);
        }
    }

    /**
     * The last ride's journey was overwritten by that of a ride of number 17, and this one became
     * void by a top-up: so present() has both to do.
     */
    private static TicketTag voidBehindWanting() {
        TicketTag x = purse(0, 1000);
        due("paid", x.validate(5, 0, 3), 0);
        forgeRide(x, 43, summed(17, 0, 0, 7, 0, 4 * 256));
        x.present(0);
        due("its journey", x.word(11, 0), 17);
        due("topUp", x.topUp(1), 0);
        x.away();
        due("lastRide(6)", x.lastRide(6), 1);
        due("lastRide(7)", x.lastRide(7), 1);
        return x;
    }

    /** A carnet's ride at day 5, minute 1437, whose journey gate 1 has just written. */
    private static TicketTag openAfter(int minutes) {
        TicketTag x = issued(1, 9, 0, 0);
        setTime(x, 0, 5 * 1440 + 1437);
        setTime(x, 1, 5 * 1440 + 1437 + minutes);
        x.present(0);
        x.tearAfter(9, 0);
        due("torn", x.validate(8, 2, 2), 4);
        due("present", x.present(1), 1);
        return x;
    }

    private static void openRides() {
        sentence("open ... and was at most 5 minutes ago (not ahead)");
        for (int minutes : new int[] {-1440, -1, 0, 1, 4, 5, 6, 1440}) {
            boolean open = minutes >= 0 && minutes <= 5;
            TicketTag x = openAfter(minutes);
            int written = x.count(0);
            due("after " + minutes, x.validate(8, 0, 7), 0);
            due("rides() after " + minutes, x.rides(), open ? 8 : 7);
            due("count(0)", x.count(0), written + (open ? 0 : 17));
        }
        sentence("of the same line");
        for (int line : new int[] {0, 7, 8, 9, 255}) {
            TicketTag x = openAfter(0);
            due("by line " + line, x.validate(line, 2, 7), 0);
            due("rides()", x.rides(), line == 8 ? 8 : 7);
        }
        sentence("the ride's minutes, not those of the beginning of its transfer");
        for (int after : new int[] {0, 1, 75, 255}) {
            for (int minutes : new int[] {-1, 0, 5, 6}) {
                TicketTag x = pass();
                setTime(x, 1, 100 + after + minutes);
                forgeRide(x, 41, summed(1, 0, 100, 7, 16 * 5, after));
                x.present(1);
                boolean open = minutes >= 0 && minutes <= 5;
                due("its code", x.validate(7, 0, 0), open ? 5 : 2);
            }
        }
        sentence("its code is the answer, nothing is written, and it is open no more");
        for (int code : new int[] {0, 1, 2, 3, 15}) {
            TicketTag x = pass();
            forgeRide(x, 41, summed(1, 0, 0, 7, 16 * code));
            x.present(0);
            int written = x.count(0);
            due("its code", x.validate(7, 0, 0), code);
            due("reason()", x.reason(), 0);
            due("count(0)", x.count(0), written);
            due("open no more", x.validate(7, 0, 0), 2);
            due("count(0)", x.count(0), written + 16);
        }
        openOnlyThen();
    }

    private static void openOnlyThen() {
        sentence("OPEN in this dialogue (only then)");
        TicketTag x = openAfter(0);
        x.away();
        x.present(1);
        due("in the next one", x.validate(8, 2, 2), 1);
        TicketTag whole = carnet(9);
        whole.validate(8, 2, 2);
        due("in its own one", whole.validate(8, 2, 7), 0);
        whole.away();
        whole.present(0);
        due("its journey was not wanting", whole.validate(8, 2, 8), 0);
        due("rides()", whole.rides(), 6);
        TicketTag torn = openAfter(0);
        torn.away();
        forgeRide(torn, 43, summed(2, 5, 1437, 8, 2 + 16));
        torn.tearAfter(7, 0);
        due("torn", torn.present(0), 4);
        torn.present(0);
        due("by the one that finished it", torn.validate(8, 0, 2), 1);
        due("lastRide(6)", torn.lastRide(6), 2);
        sentence("What is open is so no more behind any validate() that is not refused");
        TicketTag other = openAfter(0);
        due("another line", other.validate(9, 2, 7), 0);
        due("open no more", other.validate(8, 2, 5), 0);
        due("rides()", other.rides(), 6);
        TicketTag refused = openAfter(0);
        refused.bar(1, true);
        refusedDue(refused, 1, () -> refused.validate(8, 2, 7));
        refused.bar(1, false);
        due("open still", refused.validate(8, 2, 7), 0);
        due("rides()", refused.rides(), 8);
        TicketTag last = carnet(1);
        last.tearAfter(9, 0);
        last.validate(8, 2, 2);
        last.present(0);
        refusedDue(last, 5, () -> last.validate(9, 2, 7));
        due("open still", last.validate(8, 2, 7), 0);
        refusedDue(last, 5, () -> last.validate(8, 2, 7));
        TicketTag topped = purse(0, 1000);
        topped.tearAfter(16, 0);
        topped.validate(8, 2, 2);
        topped.present(0);
        due("topUp(1)", topped.topUp(1), 0);
        due("open still", topped.validate(8, 2, 7), 0);
        due("cents()", topped.cents(), 1000 - 190 + 1);
    }

    // ---- The rides of promise 6.

    private static void freeRides() {
        sentence("began at most 75 minutes ago (not ahead)");
        for (int kind = 1; kind <= 3; kind += 2) {
            for (int minutes : new int[] {-1440, -1, 0, 1, 74, 75, 76, 120, 1440}) {
                TicketTag x = issued(kind, kind == 1 ? 9 : 0, kind == 1 ? 0 : 900, 0);
                setTime(x, 0, 5 * 1440 + 1400);
                x.present(0);
                due("paid", x.validate(0, 0, 3), 0);
                setTime(x, 0, 5 * 1440 + 1400 + minutes);
                boolean free = minutes >= 0 && minutes <= 75;
                due("after " + minutes, x.validate(0, 0, 3), free ? 1 : 0);
                due("minutes after the beginning", x.word(44, 1) % 256, free ? minutes : 0);
            }
        }
        sentence("began ... ago: of the transfer, not of the ride");
        TicketTag y = carnet(9);
        y.validate(0, 0, 3);
        setTime(y, 0, 75);
        due("free", y.validate(0, 0, 3), 1);
        due("lastRide(1)", y.lastRide(1), 0);
        setTime(y, 0, 76);
        due("paid", y.validate(0, 0, 3), 0);
        due("lastRide(1)", y.lastRide(1), 76);
        sentence("in the same direction");
        for (int direction : new int[] {0, 6, 7, 8, 15}) {
            TicketTag x = carnet(9);
            x.validate(0, 0, 7);
            due("by " + direction, x.validate(0, 0, direction), direction == 7 ? 1 : 0);
        }
        sentence("with fewer than 2 free rides used");
        for (int used : new int[] {0, 1, 2, 3, 15}) {
            TicketTag x = carnet(9);
            forgeRide(x, 41, summed(1, 0, 4096 * used, 7, 3 + 16));
            x.present(0);
            due("used " + used, x.validate(8, 0, 3), used < 2 ? 1 : 0);
            due("word(43, 2)", x.word(43, 2), used < 2 ? 4096 * (used + 1) : 0);
        }
        TicketTag z = carnet(9);
        for (int ride = 0; ride < 7; ride++) {
            due("ride " + ride, z.validate(0, 0, 3), ride % 3 == 0 ? 0 : 1);
            due("lastRide(2)", z.lastRide(2), ride % 3);
        }
        sentence("when there is a last ride");
        due("none", carnet(9).validate(0, 0, 0), 0);
        sentence("on carnets and purses: FREE");
        TicketTag x = pass();
        due("a pass", x.validate(0, 0, 0), 2);
        due("a pass", x.validate(0, 0, 0), 2);
        due("lastRide(2)", x.lastRide(2), 0);
        TicketTag spent = carnet(1);
        due("paid", spent.validate(0, 0, 0), 0);
        due("free, though none is left", spent.validate(0, 0, 0), 1);
        TicketTag poor = purse(0, 150);
        due("paid", poor.validate(0, 0, 0), 0);
        due("free, though none is left", poor.validate(0, 0, 0), 1);
        due("count(0)", poor.count(0), 12 + 24 + 16);
    }

    private static void passes() {
        sentence("from day P2 to day P3: reason 3 when the day is not in it");
        int[][] days = {{10, 12}, {10, 10}, {0, 0}, {0, 9999}, {9999, 65535}};
        for (int[] between : days) {
            for (int day : new int[] {0, 1, 9, 10, 11, 12, 13, 9998, 9999}) {
                TicketTag x = issued(2, 1, between[0], between[1]);
                x.setClock(0, day, 1439);
                x.present(0);
                boolean in = day >= between[0] && day <= between[1];
                due("inspect by " + day, x.inspect(day, 0, 0), in ? 0 : 3);
                if (in) {
                    due("by " + day, x.validate(0, 0, 0), 2);
                } else {
                    refusedDue(x, 3, () -> x.validate(0, 0, 0));
                }
            }
        }
        sentence("for the zones whose bits P1 has: 4 when the zone is not");
        int[] zones = {1, 0x8000, 0x7ffe, 0xfffe, 0x7fff, 0xffff};
        for (int bits : zones) {
            TicketTag x = atGate(0, 2, bits, 0, 0);
            for (int zone = 0; zone <= 15; zone++) {
                int z = zone;
                boolean in = (bits >> zone) % 2 == 1;
                due("inspect by " + zone, x.inspect(0, 0, zone), in ? 0 : 4);
                if (in) {
                    due("by " + zone, x.validate(0, zone, 0), 2);
                } else {
                    refusedDue(x, 4, () -> x.validate(0, z, 0));
                }
            }
        }
        sentence("the first of these reasons: 3 before 4");
        TicketTag x = issued(2, 1, 1, 1);
        x.present(0);
        refusedDue(x, 3, () -> x.validate(0, 1, 0));
        due("inspect", x.inspect(0, 0, 1), 3);
    }

    private static void carnets() {
        sentence("reason 5 when as many one-time bits are on as it has rides (or more)");
        for (int rides : new int[] {1, 2, 15, 16, 17, 59, 60}) {
            TicketTag x = carnet(rides);
            for (int ride = 1; ride <= rides; ride++) {
                due("ride " + ride, x.validate(0, 0, ride % 2), 0);
                due("rides()", x.rides(), rides - ride);
            }
            refusedDue(x, 5, () -> x.validate(0, 0, 7));
            due("rides()", x.rides(), 0);
            due("count(1)", x.count(1), rides);
        }
        sentence("then the word of block 4 with the least bit that is not on");
        for (int n = 7; n <= 9; n++) {
            TicketTag x = carnet(9);
            x.validate(0, 0, 0);
            x.tearAfter(n, 2);
            due("torn", x.validate(0, 0, 1), 4);
            due("word(4, 0)", x.word(4, 0), n == 7 ? 1 : 3);
            due("lastRide(6)", x.lastRide(6), n == 7 ? 1 : 2);
        }
        sentence("Rides that a carnet has left (0 at least); -1 of others");
        due("not issued", new TicketTag().rides(), -1);
        due("rides()", issued(1, 1, 0, 0).rides(), 1);
        due("rides()", issued(1, 60, 0, 0).rides(), 60);
        due("a pass", issued(2, 60, 0, 0).rides(), -1);
        due("a purse", issued(3, 60, 0, 0).rides(), -1);
    }

    private static void purses() {
        sentence("the FARE, 150 cents, 20 more for each zone, 35 more for each of line % 4");
        int[][] fares = {{0, 0, 150}, {1, 0, 185}, {3, 0, 255}, {4, 0, 150}, {255, 0, 255},
            {252, 0, 150}, {0, 1, 170}, {0, 15, 450}, {255, 15, 555}};
        for (int[] fare : fares) {
            TicketTag x = purse(0, 1000);
            due("paid", x.validate(fare[0], fare[1], 0), 0);
            due("cents()", x.cents(), 1000 - fare[2]);
            due("journey(0, 7)", x.journey(0, 7), fare[2]);
            due("word(42, 2)", x.word(42, 2), fare[2]);
            dueRecord(x, 7, summed(2, 1000 - fare[2], 0, fare[2]));
        }
        sentence("Reason 5 when there are fewer cents");
        for (int cents : new int[] {0, 149, 150, 151, 554, 555, 556}) {
            TicketTag x = purse(0, cents);
            if (cents < 555) {
                refusedDue(x, 5, () -> x.validate(3, 15, 0));
            } else {
                due("by " + cents, x.validate(3, 15, 0), 0);
            }
            if (cents < 150) {
                refusedDue(x, 5, () -> x.validate(0, 0, 1));
            } else if (cents < 555) {
                due("by " + cents, x.validate(0, 0, 1), 0);
                due("cents()", x.cents(), cents - 150);
            }
        }
        caps();
        sentence("expects ..., then a value record, the journey");
        for (int n : new int[] {0, 7, 8, 15, 16, 23, 24}) {
            TicketTag x = purse(0, 1000);
            x.tearAfter(n, 1);
            due("by " + n, x.validate(0, 0, 0), n < 24 ? 4 : 0);
            due("cents()", x.cents(), n < 16 ? 1000 : 850);
            due("lastRide(6)", x.lastRide(6), n < 16 ? -1 : 1);
            due("lastRide(7)", x.lastRide(7), n < 16 ? -1 : n < 24 ? 1 : 0);
        }
    }

    private static void caps() {
        sentence("at most what the cap leaves on that day; a daily cap P1 (0: none)");
        int[] caps = {0, 1, 149, 150, 151, 299, 300, 301, 65535};
        int[] first = {150, 1, 149, 150, 150, 150, 150, 150, 150};
        int[] second = {150, 0, 0, 0, 1, 149, 150, 150, 150};
        for (int i = 0; i < caps.length; i++) {
            TicketTag x = purse(caps[i], 1000);
            due("capLeft(0)", x.capLeft(0), caps[i] == 0 ? -1 : caps[i]);
            due("paid", x.validate(0, 0, 0), 0);
            due("journey(0, 7)", x.journey(0, 7), first[i]);
            due("capLeft(0)", x.capLeft(0), caps[i] == 0 ? -1 : caps[i] - first[i]);
            due("paid", x.validate(0, 0, 1), 0);
            due("journey(0, 7)", x.journey(0, 7), second[i]);
            due("cents()", x.cents(), 1000 - first[i] - second[i]);
            x.setClock(0, 1, 0);
            due("paid on another day", x.validate(0, 0, 2), 0);
            due("journey(0, 7)", x.journey(0, 7), first[i]);
        }
        for (int cents : new int[] {9, 10, 11}) {
            TicketTag x = purse(10, cents);
            if (cents < 10) {
                refusedDue(x, 5, () -> x.validate(0, 0, 0));
            } else {
                due("by " + cents, x.validate(0, 0, 0), 0);
                due("nothing more is charged", x.validate(0, 0, 1), 0);
                due("cents()", x.cents(), cents - 10);
            }
        }
        sentence("What a purse's cap leaves on a day (0 at least)");
        for (int charged : new int[] {0, 199, 200, 201, 65535}) {
            TicketTag x = purse(200, 1000);
            forgeValue(x, 7, summed(2, 1000, 6, charged));
            due("capLeft(6) by " + charged, x.capLeft(6), Math.max(0, 200 - charged));
            for (int day : new int[] {LOW, -1, 0, 5, 7, 65535, 65536 + 6, HIGH}) {
                due("capLeft(" + day + ")", x.capLeft(day), 200);
            }
            x.setClock(0, 6, 0);
            x.present(0);
            due("paid", x.validate(0, 0, 0), 0);
            due("cents()", x.cents(), 1000 - Math.min(150, Math.max(0, 200 - charged)));
        }
        sentence("-1 without a cap, or a value record");
        due("not issued", new TicketTag().capLeft(0), -1);
        due("a carnet", issued(1, 60, 0, 0).capLeft(0), -1);
        due("a pass", issued(2, 60, 0, 0).capLeft(0), -1);
        due("without a cap", issued(3, 0, 60, 0).capLeft(0), -1);
        due("the least cap", issued(3, 1, 60, 0).capLeft(0), 1);
        due("the greatest cap", issued(3, 65535, 60, 0).capLeft(0), 65535);
    }

    // ---- Tears.

    private static void tears() {
        sentence("n 0 .. 100, junk 0 .. 65535");
        TicketTag x = carnet(60);
        int[][] bad = {{-1, 0}, {101, 0}, {0, -1}, {0, 65536}, {LOW, 0}, {HIGH, 0}, {0, LOW},
            {0, HIGH}, {101, 65536}};
        for (int[] told : bad) {
            throwsDue("tearAfter", ARGUMENT, x, () -> x.tearAfter(told[0], told[1]));
        }
        due("nothing was told", x.validate(0, 0, 0), 0);
        sentence("n more words are written as they should; the next one becomes junk instead");
        for (int n : new int[] {0, 1, 7, 8, 9, 15, 16, 17, 32, 33, 34, 99, 100}) {
            TicketTag y = carnet(60);
            y.tearAfter(n, 65535);
            for (int ride = 1; ride <= n / 17; ride++) {
                due("ride " + ride + " by " + n, y.validate(0, 0, ride % 2), 0);
            }
            due("torn by " + n, y.validate(0, 0, n / 17 % 2 == 0 ? 1 : 0), 4);
            due("count(0)", y.count(0), 4 + n + 1);
            due("count(2)", y.count(2), 1);
            due("count(3)", y.count(3), 0);
        }
        for (int n = 0; n < 8; n++) {
            TicketTag y = purse(0, 1000);
            y.tearAfter(n, 4321);
            due("torn", y.topUp(1), 4);
            int[] whole = summed(2, 1001);
            for (int w = 0; w < 8; w++) {
                int want = w < n ? whole[w] : w == n ? 4321 : 0;
                due("word " + w, y.word(7 + w / 4, w % 4), want);
            }
            due("cents()", y.cents(), 1000);
        }
        sentence("calls that write nothing are not torn");
        TicketTag told = openAfter(0);
        told.tearAfter(0, 1);
        due("the open ride", told.validate(8, 0, 0), 0);
        told.bar(1, true);
        refusedDue(told, 1, () -> told.validate(8, 0, 0));
        told.bar(1, false);
        due("the next word", told.validate(8, 0, 0), 4);
        due("count(2)", told.count(2), 2);
        sentence("it is told anew with each call");
        TicketTag anew = purse(0, 1000);
        anew.tearAfter(0, 1);
        anew.tearAfter(8, 2);
        due("eight more words", anew.topUp(1), 0);
        anew.tearAfter(1, 3);
        due("one more word", anew.topUp(1), 4);
        due("word(5, 0)", anew.word(5, 0), 3);
        due("word(5, 1)", anew.word(5, 1), 3);
        sentence("What tearAfter() told is forgotten when a dialogue is over, also when torn");
        anew.present(0);
        due("forgotten when torn", anew.topUp(1), 0);
        anew.tearAfter(0, 1);
        due("away()", anew.away(), true);
        anew.present(0);
        due("forgotten behind away()", anew.topUp(1), 0);
        anew.tearAfter(0, 1);
        due("not forgotten before", anew.topUp(1), 4);
        anew.tearAfter(0, 1);
        due("away()", anew.away(), false);
        anew.present(0);
        due("nothing is done by that", anew.topUp(1), 4);
    }

    // ---- Promises 7, 8 and 10.

    private static void topUps() {
        sentence("Adds cents (1 .. 65535)");
        TicketTag x = purse(0, 0);
        for (int cents : new int[] {LOW, -1, 0, 65536, HIGH}) {
            throwsDue("topUp", ARGUMENT, x, () -> x.topUp(cents));
        }
        due("the least", x.topUp(1), 0);
        due("cents()", x.cents(), 1);
        TicketTag y = purse(0, 0);
        due("the greatest", y.topUp(65535), 0);
        due("cents()", y.cents(), 65535);
        sentence("7 there would be more than 65535");
        for (int cents : new int[] {0, 1, 2, 65534, 65535}) {
            TicketTag z = purse(0, cents);
            if (cents > 0) {
                refusedDue(z, 7, () -> z.topUp(65536 - cents));
                refusedDue(z, 7, () -> z.topUp(65535));
            }
            if (cents < 65535) {
                due("up to 65535", z.topUp(65535 - cents), 0);
                due("reason()", z.reason(), 0);
            }
            due("cents()", z.cents(), 65535);
            refusedDue(z, 7, () -> z.topUp(1));
        }
        sentence("by a value record with the same day and what was charged");
        TicketTag same = purse(0, 0);
        forgeValue(same, 7, summed(2, 5, 65535, 65535));
        same.setClock(0, 9, 9);
        same.present(0);
        due("topUp(1)", same.topUp(1), 0);
        dueRecord(same, 5, summed(3, 6, 65535, 65535));
        sentence("6 no purse");
        for (int kind = 1; kind <= 2; kind++) {
            TicketTag z = atGate(0, kind, 5, 0, 0);
            refusedDue(z, 6, () -> z.topUp(1));
            refusedDue(z, 6, () -> z.topUp(65535));
        }
        sentence("the first of these reasons: 1, 2 as above, 6, 7");
        TicketTag none = new TicketTag();
        none.present(0);
        refusedDue(none, 2, () -> none.topUp(1));
        refusedDue(none, 2, () -> none.validate(0, 0, 0));
        none.bar(0, true);
        refusedDue(none, 1, () -> none.topUp(1));
        refusedDue(none, 1, () -> none.validate(0, 0, 0));
        TicketTag rich = purse(0, 65535);
        rich.bar(0, true);
        refusedDue(rich, 1, () -> rich.topUp(1));
        TicketTag carnet = carnet(1);
        carnet.bar(0, true);
        refusedDue(carnet, 1, () -> carnet.topUp(1));
    }

    private static void reasons() {
        sentence("The reason of the latest validate() or topUp(); 0 when it was not refused, or"
                + " there was none");
        TicketTag x = purse(0, 149);
        due("there was none", x.reason(), 0);
        refusedDue(x, 5, () -> x.validate(0, 0, 0));
        refusedDue(x, 7, () -> x.topUp(65535));
        due("topUp(1)", x.topUp(1), 0);
        due("not refused", x.reason(), 0);
        refusedDue(x, 7, () -> x.topUp(65535));
        due("validate", x.validate(0, 0, 0), 0);
        due("not refused", x.reason(), 0);
        refusedDue(x, 5, () -> x.validate(0, 0, 1));
        due("free", x.validate(0, 0, 0), 1);
        due("not refused", x.reason(), 0);
        refusedDue(x, 5, () -> x.validate(0, 0, 1));
        x.away();
        due("behind away()", x.reason(), 5);
        x.present(0);
        due("behind present()", x.reason(), 5);
        x.tearAfter(0, 0);
        due("torn", x.topUp(1), 4);
        due("torn is not refused", x.reason(), 0);
    }

    private static void dialogues() {
        sentence("IllegalStateException: a dialogue goes on (present), no dialogue goes on");
        TicketTag x = issued(3, 0, 1000, 0);
        throwsDue("validate", STATE, x, () -> x.validate(0, 0, 0));
        throwsDue("topUp", STATE, x, () -> x.topUp(1));
        x.present(3);
        throwsDue("present", STATE, x, () -> x.present(3));
        throwsDue("present", STATE, x, () -> x.present(4));
        due("validate", x.validate(0, 0, 0), 0);
        due("at the dialogue's gate", x.journey(0, 6), 3);
        due("topUp", x.topUp(1), 0);
        sentence("The dialogue is over: true; false when none went on (nothing is done)");
        due("away()", new TicketTag().away(), false);
        due("away()", x.away(), true);
        due("away()", x.away(), false);
        due("count(3)", x.count(3), 0);
        throwsDue("validate", STATE, x, () -> x.validate(0, 0, 0));
        throwsDue("topUp", STATE, x, () -> x.topUp(1));
        sentence("A DIALOGUE goes on ... until the tag is TORN away");
        x.present(3);
        x.tearAfter(0, 0);
        due("torn", x.topUp(1), 4);
        due("count(3)", x.count(3), 0);
        throwsDue("validate", STATE, x, () -> x.validate(0, 0, 0));
        throwsDue("topUp", STATE, x, () -> x.topUp(1));
        due("away()", x.away(), false);
        due("present", x.present(4), 3);
        due("count(3)", x.count(3), 1);
    }

    // ---- What is asked of the tag.

    private static void answers() {
        sentence("Cents of the latest value record of a purse; -1 without");
        due("not issued", new TicketTag().cents(), -1);
        due("a carnet", issued(1, 60, 0, 0).cents(), -1);
        due("a pass", issued(2, 60, 0, 60).cents(), -1);
        due("none", issued(3, 60, 0, 0).cents(), 0);
        due("full", issued(3, 60, 65535, 0).cents(), 65535);
        sentence("lastRide: -1 without one, or no such what");
        TicketTag x = carnet(9);
        for (int what = -1; what <= 8; what++) {
            due("lastRide(" + what + ")", x.lastRide(what), -1);
        }
        x.setClock(0, 7, 8);
        x.validate(1, 2, 3);
        int[] last = {7, 8, 0, 3, 1, 0, 1, 0};
        for (int what = 0; what <= 7; what++) {
            due("lastRide(" + what + ")", x.lastRide(what), last[what]);
        }
        for (int what : new int[] {LOW, -1, 8, HIGH}) {
            due("lastRide(" + what + ")", x.lastRide(what), -1);
        }
        sentence("whether its journey is wanting (1, 0)");
        for (int n : new int[] {9, 16, 17}) {
            TicketTag y = carnet(9);
            y.tearAfter(n, 0);
            due("by " + n, y.validate(1, 2, 3), n < 17 ? 4 : 0);
            due("lastRide(7)", y.lastRide(7), n < 17 ? 1 : 0);
        }
    }

    private static void inspections() {
        sentence("began at most 120 minutes ago (not ahead), else 5");
        for (int kind = 1; kind <= 3; kind += 2) {
            TicketTag x = issued(kind, 9, kind == 1 ? 0 : 900, 0);
            due("without a ride", x.inspect(0, 0, 0), 5);
            setTime(x, 0, 5 * 1440 + 1400);
            x.present(0);
            x.validate(0, 0, 3);
            setTime(x, 0, 5 * 1440 + 1400 + 75);
            for (int ride = 0; ride < 2; ride++) {
                for (int minutes : new int[] {-1440, -1, 0, 1, 119, 120, 121, 1440}) {
                    int time = 5 * 1440 + 1400 + minutes;
                    int verdict = minutes >= 0 && minutes <= 120 ? 0 : 5;
                    due("after " + minutes, x.inspect(time / 1440, time % 1440, 15), verdict);
                }
                due("free", x.validate(0, 0, 3), 1);
            }
        }
        sentence("no such day, minute, zone");
        TicketTag x = issued(2, 65535, 0, 9999);
        int[][] bad = {{-1, 0, 0}, {10000, 0, 0}, {0, -1, 0}, {0, 1440, 0}, {0, 0, -1},
            {0, 0, 16}, {LOW, 0, 0}, {0, HIGH, 0}, {0, 0, LOW}, {0, 0, HIGH}, {0, 0, 32}};
        for (int[] at : bad) {
            throwsDue("inspect", ARGUMENT, x, () -> x.inspect(at[0], at[1], at[2]));
        }
        due("the least", x.inspect(0, 0, 0), 0);
        due("the greatest", x.inspect(9999, 1439, 15), 0);
        sentence("2 not issued");
        TicketTag none = new TicketTag();
        due("not issued", none.inspect(0, 0, 0), 2);
        throwsDue("inspect", ARGUMENT, none, () -> none.inspect(0, 0, 16));
        sentence("by the memory alone");
        TicketTag y = carnet(9);
        y.bar(0, true);
        y.setClock(0, 9, 0);
        due("inspect", y.inspect(0, 0, 0), 5);
        y.bar(0, false);
        y.tearAfter(8, 0);
        y.validate(0, 0, 0);
        due("a void ride", y.inspect(9, 0, 0), 5);
        y.present(0);
        y.tearAfter(8, 1);
        y.validate(0, 0, 0);
        due("a ride without its journey", y.inspect(9, 0, 0), 0);
        due("reason()", y.reason(), 0);
        TicketTag ahead = carnet(9);
        forgeRide(ahead, 41, summed(1, 65535, 4095, 0, 16));
        due("a beginning beyond all days", ahead.inspect(9999, 1439, 0), 5);
        ahead.setClock(0, 9999, 1439);
        ahead.present(0);
        due("paid", ahead.validate(0, 0, 0), 0);
        due("lastRide(0)", ahead.lastRide(0), 9999);
    }

    private static void counts() {
        sentence("how many words were written ever (torn ones, and those of issue(), too)");
        due("a carnet's", issued(1, 5, 0, 0).count(0), 4);
        due("a pass's", issued(2, 5, 0, 0).count(0), 4);
        due("a purse's", issued(3, 5, 0, 0).count(0), 12);
        TicketTag x = purse(0, 1000);
        x.tearAfter(0, 0);
        due("torn", x.topUp(1), 4);
        due("count(0)", x.count(0), 13);
        sentence("how often it was torn, whether a dialogue goes on");
        due("count(2)", x.count(2), 1);
        due("count(3)", x.count(3), 0);
        x.present(0);
        due("count(3)", x.count(3), 1);
        x.tearAfter(0, 0);
        due("torn", x.validate(0, 0, 0), 4);
        due("count(2)", x.count(2), 2);
        sentence("how many one-time bits are on");
        TicketTag y = carnet(60);
        due("count(1)", y.count(1), 0);
        for (int ride = 1; ride <= 60; ride++) {
            y.validate(0, 0, ride % 2);
            due("count(1)", y.count(1), ride);
        }
        due("a purse has none on", x.count(1), 0);
        sentence("count: -1 for others");
        for (int what : new int[] {LOW, -1, 4, HIGH}) {
            due("count(" + what + ")", y.count(what), -1);
        }
    }
}
