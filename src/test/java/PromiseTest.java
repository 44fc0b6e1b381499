/** For each promise of the document: ordinary inputs, the edges that it names, wrong inputs. */
public final class PromiseTest {
    private static final String ARGUMENT = "IllegalArgumentException";
    private static final String STATE = "IllegalStateException";
    private static final String INDEX = "IndexOutOfBoundsException";

    private static int wrong = 0;
    private static String promise = "";

    public static void main(String[] args) {
        newObject();
        issue();
        issueWrongNumbers();
        setClock();
        bar();
        present();
        presentTakesBack();
        presentFinishes();
        presentWritesNothingElse();
        validateWrongInputs();
        validateReasons();
        validateOpen();
        validateOpenEdges();
        validateOpenOnPass();
        validateFree();
        validateFreeOnPurse();
        validatePass();
        validateCarnet();
        validatePurse();
        validatePurseCap();
        topUp();
        topUpRefused();
        reason();
        tearAfter();
        tearAfterKeepsOneTimeBits();
        away();
        rides();
        cents();
        capLeft();
        journey();
        journeysGoRound();
        lastRide();
        lastRideVoid();
        inspect();
        word();
        count();
        rightByChance();
        counterGoesRound();
        countersFarApart();
        voidNoMore();
        expectsModulo256();
        voidByTopUps();
        System.out.println(wrong == 0 ? "all promises hold" : wrong + " answers are wrong");
        if (wrong != 0) {
            System.exit(1);
        }
    }

    private static void due(String call, long got, long want) {
        if (got != want) {
            wrong++;
            System.out.println(promise + ": " + call + " answered " + got + ", due is " + want);
        }
    }

    private static void due(String call, boolean got, boolean want) {
        due(call, got ? 1 : 0, want ? 1 : 0);
    }

    private static void throwsDue(String call, String want, Runnable run) {
        String got = "nothing";
        try {
            run.run();
        } catch (RuntimeException e) {
            got = e.getClass().getSimpleName();
        }
        if (!got.equals(want)) {
            wrong++;
            System.out.println(promise + ": " + call + " threw " + got + ", due is " + want);
        }
    }

    private static void dueRecord(TicketTag x, int block, int... want) {
        int sum = 0;
        for (int i = 0; i < 8; i++) {
            int b = block + i / 4;
            int expected = i < want.length ? want[i] : 0;
            if (i == 7) {
                expected = 65535 - sum;
            }
            due("word(" + b + ", " + i % 4 + ")", x.word(b, i % 4), expected);
            sum += expected;
            sum = sum > 65535 ? sum - 65535 : sum;
        }
    }

    private static TicketTag issued(int kind, int p1, int p2, int p3) {
        TicketTag x = new TicketTag();
        due("issue", x.issue(kind, p1, p2, p3), true);
        return x;
    }

    private static TicketTag atGate(int gate, int kind, int p1, int p2, int p3) {
        TicketTag x = issued(kind, p1, p2, p3);
        due("present(" + gate + ")", x.present(gate), kind);
        return x;
    }

    private static void newObject() {
        promise = "promise 1";
        TicketTag x = new TicketTag();
        for (int b = 0; b < 64; b++) {
            for (int w = 0; w < 4; w++) {
                due("word(" + b + ", " + w + ")", x.word(b, w), 0);
            }
        }
        for (int what = 0; what < 4; what++) {
            due("count(" + what + ")", x.count(what), 0);
        }
        due("reason()", x.reason(), 0);
        due("rides()", x.rides(), -1);
        due("cents()", x.cents(), -1);
        due("capLeft(0)", x.capLeft(0), -1);
        due("journey(0, 0)", x.journey(0, 0), -1);
        due("lastRide(6)", x.lastRide(6), -1);
        due("inspect(0, 0, 0)", x.inspect(0, 0, 0), 2);
        due("away()", x.away(), false);
        for (int gate = 0; gate < 12; gate++) {
            x = atGate(gate, 1, 1, 0, 0);
            due("validate(0, 0, 0)", x.validate(0, 0, 0), 0);
            due("journey(0, 0)", x.journey(0, 0), 0);
            due("journey(0, 1)", x.journey(0, 1), 0);
            due("journey(0, 6)", x.journey(0, 6), gate);
        }
    }

    private static void issue() {
        promise = "promise 2";
        TicketTag x = issued(1, 60, 0, 0);
        due("word(0, 0)", x.word(0, 0), 1);
        due("word(0, 1)", x.word(0, 1), 60);
        due("count(0)", x.count(0), 4);
        due("issue again", x.issue(3, 0, 5, 0), false);
        due("word(0, 0)", x.word(0, 0), 1);
        due("count(0)", x.count(0), 4);
        TicketTag near = new TicketTag();
        near.present(0);
        throwsDue("issue in a dialogue", STATE, () -> near.issue(3, 0, 0, 0));
        throwsDue("issue in a dialogue", ARGUMENT, () -> near.issue(3, 0, 0, 1));
        due("word(0, 0)", near.word(0, 0), 0);
        near.away();
        due("issue", near.issue(3, 0, 0, 0), true);
        near.present(0);
        throwsDue("issue again in a dialogue", STATE, () -> near.issue(3, 0, 0, 0));
        x = issued(2, 65535, 7, 7);
        due("word(0, 1)", x.word(0, 1), 65535);
        due("word(0, 2)", x.word(0, 2), 7);
        due("word(0, 3)", x.word(0, 3), 7);
        due("count(0)", x.count(0), 4);
        x = new TicketTag();
        x.tearAfter(0, 77);
        due("issue is not torn", x.issue(3, 300, 4000, 0), true);
        due("word(0, 0)", x.word(0, 0), 3);
        due("word(0, 1)", x.word(0, 1), 300);
        due("word(0, 2)", x.word(0, 2), 4000);
        due("word(0, 3)", x.word(0, 3), 0);
        dueRecord(x, 5, 1, 4000, 0, 0);
        due("word(7, 0)", x.word(7, 0), 0);
        due("count(0)", x.count(0), 12);
        due("count(2)", x.count(2), 0);
        due("present(0)", x.present(0), 3);
        due("what was told waits for the gate", x.topUp(1), 4);
        due("word(7, 0)", x.word(7, 0), 77);
    }

    private static void issueWrongNumbers() {
        int[][] bad = {
            {0, 1, 0, 0}, {4, 1, 0, 0}, {-1, 1, 0, 0}, {Integer.MIN_VALUE, 0, 0, 0},
            {1, 0, 0, 0}, {1, 61, 0, 0}, {1, -1, 0, 0}, {1, 5, 1, 0}, {1, 5, 0, 1}, {1, 5, -1, 0},
            {2, 0, 0, 0}, {2, 65536, 0, 0}, {2, -1, 0, 0}, {2, 1, 4, 3}, {2, 1, -1, 3},
            {2, 1, 0, 65536}, {2, 1, 65536, 65536}, {2, 1, 0, -1},
            {3, -1, 0, 0}, {3, 65536, 0, 0}, {3, 0, -1, 0}, {3, 0, 65536, 0}, {3, 0, 0, 1},
            {3, 0, 0, -1},
        };
        for (int[] p : bad) {
            TicketTag x = new TicketTag();
            throwsDue("issue", ARGUMENT, () -> x.issue(p[0], p[1], p[2], p[3]));
            due("word(0, 0)", x.word(0, 0), 0);
            due("count(0)", x.count(0), 0);
        }
        int[][] good = {
            {1, 1, 0, 0}, {2, 1, 0, 0}, {2, 1, 0, 65535}, {2, 1, 65535, 65535},
            {3, 0, 0, 0}, {3, 65535, 65535, 0},
        };
        for (int[] p : good) {
            due("word(0, 0)", issued(p[0], p[1], p[2], p[3]).word(0, 0), p[0]);
        }
        TicketTag x = issued(1, 1, 0, 0);
        throwsDue("issue of an issued one", ARGUMENT, () -> x.issue(1, 0, 0, 0));
    }

    private static void setClock() {
        promise = "promise 3";
        TicketTag x = issued(1, 9, 0, 0);
        x.setClock(3, 9999, 1439);
        throwsDue("setClock", ARGUMENT, () -> x.setClock(-1, 0, 0));
        throwsDue("setClock", ARGUMENT, () -> x.setClock(12, 0, 0));
        throwsDue("setClock", ARGUMENT, () -> x.setClock(3, -1, 0));
        throwsDue("setClock", ARGUMENT, () -> x.setClock(3, 10000, 0));
        throwsDue("setClock", ARGUMENT, () -> x.setClock(3, 0, -1));
        throwsDue("setClock", ARGUMENT, () -> x.setClock(3, 0, 1440));
        x.setClock(2, 1, 1);
        x.present(3);
        due("validate(0, 0, 0)", x.validate(0, 0, 0), 0);
        due("journey(0, 0)", x.journey(0, 0), 9999);
        due("journey(0, 1)", x.journey(0, 1), 1439);
        x.setClock(3, 4, 5);
        due("validate(0, 0, 0)", x.validate(0, 0, 0), 0);
        due("journey(0, 0)", x.journey(0, 0), 4);
        due("journey(0, 1)", x.journey(0, 1), 5);
    }

    private static void bar() {
        promise = "promise 4";
        TicketTag x = atGate(11, 1, 9, 0, 0);
        x.bar(11, true);
        x.bar(10, true);
        due("validate(0, 0, 0)", x.validate(0, 0, 0), 3);
        due("reason()", x.reason(), 1);
        x.bar(11, false);
        due("validate(0, 0, 0)", x.validate(0, 0, 0), 0);
        due("reason()", x.reason(), 0);
        x.away();
        due("a barred tag is presented", x.present(10), 1);
        due("validate(0, 0, 0)", x.validate(0, 0, 0), 3);
        throwsDue("bar", ARGUMENT, () -> x.bar(-1, true));
        throwsDue("bar", ARGUMENT, () -> x.bar(12, false));
    }

    private static void present() {
        promise = "promise 5";
        TicketTag x = new TicketTag();
        throwsDue("present(-1)", ARGUMENT, () -> x.present(-1));
        throwsDue("present(12)", ARGUMENT, () -> x.present(12));
        due("count(3)", x.count(3), 0);
        due("present(0)", x.present(0), 0);
        due("count(3)", x.count(3), 1);
        throwsDue("present(1)", STATE, () -> x.present(1));
        throwsDue("present(12)", ARGUMENT, () -> x.present(12));
        for (int kind = 1; kind <= 3; kind++) {
            due("present(11)", issued(kind, 5, 0, 0).present(11), kind);
        }
    }

    private static void presentTakesBack() {
        TicketTag x = atGate(0, 1, 5, 0, 0);
        x.tearAfter(8, 0);
        due("validate(1, 2, 3)", x.validate(1, 2, 3), 4);
        due("word(41, 0)", x.word(41, 0), 1);
        due("lastRide(6)", x.lastRide(6), -1);
        int written = x.count(0);
        x.tearAfter(3, 9);
        due("present(0)", x.present(0), 4);
        due("word(41, 2)", x.word(41, 2), 0);
        due("word(41, 3)", x.word(41, 3), 9);
        due("word(42, 1)", x.word(42, 1), 256);
        due("count(0)", x.count(0), written + 4);
        due("count(3)", x.count(3), 0);
        due("present of what is not right writes nothing", x.present(0), 1);
        due("count(0)", x.count(0), written + 4);
        due("validate(1, 2, 3)", x.validate(1, 2, 3), 0);
        due("lastRide(6)", x.lastRide(6), 1);
        TicketTag y = tornPurse();
        due("lastRide(6)", y.lastRide(6), -1);
        int before = y.count(0);
        due("present(0)", y.present(0), 3);
        due("count(0)", y.count(0), before + 8);
        for (int w = 0; w < 8; w++) {
            due("erased word", y.word(41 + w / 4, w % 4), 0);
        }
        due("validate(0, 0, 0)", y.validate(0, 0, 0), 0);
        due("cents()", y.cents(), 850);
    }

    private static TicketTag tornPurse() {
        TicketTag x = atGate(0, 3, 0, 1000, 0);
        x.tearAfter(15, 0);
        due("validate(0, 0, 0)", x.validate(0, 0, 0), 4);
        due("cents()", x.cents(), 1000);
        return x;
    }

    private static TicketTag withWantingJourney(int gate) {
        TicketTag x = issued(3, 0, 1000, 0);
        x.setClock(gate, 10, 1400);
        x.present(gate);
        x.tearAfter(16, 0);
        due("validate(5, 2, 3)", x.validate(5, 2, 3), 4);
        due("lastRide(7)", x.lastRide(7), 1);
        return x;
    }

    private static void presentFinishes() {
        TicketTag x = withWantingJourney(4);
        due("journey(0, 0)", x.journey(0, 0), -1);
        int written = x.count(0);
        due("present(2)", x.present(2), 3);
        due("count(0)", x.count(0), written + 8);
        due("lastRide(7)", x.lastRide(7), 0);
        dueRecord(x, 11, 1, 10, 1400, 5 + 512, 3 + 1024, 225, 0);
        TicketTag y = withWantingJourney(4);
        y.tearAfter(7, 1);
        due("present torn", y.present(2), 4);
        due("lastRide(7)", y.lastRide(7), 1);
        due("present(2)", y.present(2), 3);
        due("lastRide(7)", y.lastRide(7), 0);
        due("count(0)", y.count(0), written + 16);
    }

    private static void presentWritesNothingElse() {
        TicketTag x = atGate(0, 1, 5, 0, 0);
        x.validate(1, 2, 3);
        x.away();
        int written = x.count(0);
        due("present(0)", x.present(0), 1);
        due("count(0)", x.count(0), written);
    }

    private static void validateWrongInputs() {
        promise = "promise 6";
        TicketTag x = atGate(0, 1, 5, 0, 0);
        throwsDue("validate", ARGUMENT, () -> x.validate(-1, 0, 0));
        throwsDue("validate", ARGUMENT, () -> x.validate(256, 0, 0));
        throwsDue("validate", ARGUMENT, () -> x.validate(0, -1, 0));
        throwsDue("validate", ARGUMENT, () -> x.validate(0, 16, 0));
        throwsDue("validate", ARGUMENT, () -> x.validate(0, 0, -1));
        throwsDue("validate", ARGUMENT, () -> x.validate(0, 0, 16));
        due("validate(255, 15, 15)", x.validate(255, 15, 15), 0);
        dueRecord(x, 41, 1, 0, 0, 255 + 256 * 15, 15, 256, 0);
        x.away();
        throwsDue("validate", STATE, () -> x.validate(0, 0, 0));
        throwsDue("validate", ARGUMENT, () -> x.validate(0, 0, 16));
    }

    private static void validateReasons() {
        TicketTag x = new TicketTag();
        x.present(0);
        due("validate(0, 0, 0)", x.validate(0, 0, 0), 3);
        due("reason()", x.reason(), 2);
        x.bar(0, true);
        due("validate(0, 0, 0)", x.validate(0, 0, 0), 3);
        due("reason()", x.reason(), 1);
        due("count(0)", x.count(0), 0);
    }

    private static TicketTag openCarnet(int minute, int gate) {
        TicketTag x = issued(1, 2, 0, 0);
        x.setClock(0, 5, 1439);
        x.setClock(gate, minute / 1440, minute % 1440);
        x.present(0);
        x.tearAfter(9, 0);
        due("validate(9, 1, 1)", x.validate(9, 1, 1), 4);
        due("present", x.present(gate), 1);
        return x;
    }

    private static void validateOpen() {
        int rode = 5 * 1440 + 1439;
        TicketTag x = openCarnet(rode + 5, 1);
        int written = x.count(0);
        x.bar(1, true);
        due("barred", x.validate(9, 1, 1), 3);
        x.bar(1, false);
        due("the open ride", x.validate(9, 7, 6), 0);
        due("reason()", x.reason(), 0);
        due("count(0)", x.count(0), written);
        due("open no more", x.validate(9, 1, 1), 1);
        x = openCarnet(rode + 5, 1);
        x.away();
        x.present(1);
        due("open in the other dialogue only", x.validate(9, 1, 1), 1);
        x = openCarnet(rode + 5, 1);
        due("another line", x.validate(8, 1, 1), 1);
        due("open no more", x.validate(9, 1, 1), 1);
        due("lastRide(2)", x.lastRide(2), 2);
        due("not even where the open one was", x.validate(9, 1, 1), 0);
        due("rides()", x.rides(), 0);
        x = openCarnet(rode + 5, 1);
        due("another line, paid", x.validate(8, 1, 2), 0);
        due("rides()", x.rides(), 0);
    }

    private static void validateOpenEdges() {
        int rode = 5 * 1440 + 1439;
        TicketTag x = openCarnet(rode, 1);
        due("0 minutes ago", x.validate(9, 1, 2), 0);
        due("rides()", x.rides(), 1);
        x = openCarnet(rode + 6, 1);
        due("6 minutes ago", x.validate(9, 1, 1), 1);
        x = openCarnet(rode - 1, 1);
        due("ahead", x.validate(9, 1, 1), 0);
        due("rides()", x.rides(), 0);
        x = openCarnet(rode + 76, 1);
        due("validate(9, 1, 1)", x.validate(9, 1, 1), 0);
        x.away();
        // Five minutes are counted from the ride, not from the beginning of its transfer.
        x = issued(1, 2, 0, 0);
        x.present(0);
        x.validate(9, 1, 1);
        x.setClock(0, 0, 70);
        x.tearAfter(8, 0);
        due("a free ride torn", x.validate(9, 1, 1), 4);
        x.setClock(0, 0, 75);
        x.present(0);
        due("the open free ride", x.validate(9, 1, 1), 1);
        due("lastRide(2)", x.lastRide(2), 1);
        due("another free ride", x.validate(9, 1, 1), 1);
        due("lastRide(2)", x.lastRide(2), 2);
        // A refusal leaves what is open as it is.
        x = issued(1, 1, 0, 0);
        x.present(0);
        x.tearAfter(9, 0);
        x.validate(9, 1, 1);
        x.present(0);
        due("none left", x.validate(8, 1, 2), 3);
        due("reason()", x.reason(), 5);
        due("open still", x.validate(9, 1, 2), 0);
        due("open no more", x.validate(9, 1, 2), 3);
    }

    private static void validateOpenOnPass() {
        TicketTag x = issued(2, 1, 0, 3);
        x.setClock(0, 3, 1438);
        x.setClock(1, 4, 2);
        x.present(0);
        x.tearAfter(15, 0);
        due("validate(7, 0, 1)", x.validate(7, 0, 1), 4);
        x.present(1);
        int written = x.count(0);
        due("open, though the pass is over", x.validate(7, 0, 1), 2);
        due("count(0)", x.count(0), written);
        due("open no more", x.validate(7, 0, 1), 3);
        due("reason()", x.reason(), 3);
    }

    private static void validateFree() {
        TicketTag x = issued(1, 9, 0, 0);
        x.setClock(6, 7, 1430);
        x.present(6);
        due("paid", x.validate(1, 2, 3), 0);
        dueRecord(x, 41, 1, 7, 1430, 1 + 512, 3 + 256 * 6, 256, 0);
        dueRecord(x, 11, 1, 7, 1430, 1 + 512, 3 + 256 * 6, 0, 0);
        x.setClock(6, 8, 20);
        due("free", x.validate(200, 15, 3), 1);
        dueRecord(x, 43, 2, 7, 1430 + 4096, 200 + 256 * 15, 3 + 16 + 256 * 6, 30 + 256, 0);
        dueRecord(x, 13, 2, 8, 20, 200 + 256 * 15, 3 + 16 + 256 * 6, 0, 1);
        x.setClock(6, 8, 65);
        due("75 minutes", x.validate(4, 0, 3), 1);
        dueRecord(x, 41, 3, 7, 1430 + 2 * 4096, 4, 3 + 16 + 256 * 6, 75 + 256, 0);
        dueRecord(x, 15, 3, 8, 65, 4, 3 + 16 + 256 * 6, 0, 2);
        due("a third one", x.validate(4, 0, 3), 0);
        due("rides()", x.rides(), 7);
        due("another direction", x.validate(4, 0, 4), 0);
        x.setClock(6, 8, 64);
        due("ahead", x.validate(4, 0, 4), 0);
        x.setClock(6, 8, 140);
        due("76 minutes", x.validate(4, 0, 4), 0);
        due("rides()", x.rides(), 4);
        due("count(0)", x.count(0), 4 + 5 * 17 + 2 * 16);
    }

    private static void validateFreeOnPurse() {
        TicketTag x = atGate(1, 3, 0, 150, 0);
        due("paid", x.validate(0, 0, 9), 0);
        due("free without cents", x.validate(3, 15, 9), 1);
        dueRecord(x, 43, 2, 0, 4096, 3 + 256 * 15, 9 + 16 + 256, 2 * 256, 0);
        due("count(0)", x.count(0), 12 + 24 + 16);
        due("cents()", x.cents(), 0);
        due("topUp(1)", x.topUp(1), 0);
        due("free", x.validate(3, 15, 9), 1);
        dueRecord(x, 41, 3, 0, 2 * 4096, 3 + 256 * 15, 9 + 16 + 256, 3 * 256, 0);
        due("refused", x.validate(3, 15, 9), 3);
        due("reason()", x.reason(), 5);
    }

    private static void validatePass() {
        TicketTag x = issued(2, 0x8002, 10, 12);
        x.setClock(0, 9, 1439);
        x.setClock(1, 10, 0);
        x.setClock(2, 12, 1439);
        x.setClock(3, 13, 0);
        int[] codes = {3, 2, 2, 3};
        for (int gate = 0; gate < 4; gate++) {
            x.present(gate);
            due("by day", x.validate(1, 15, 0), codes[gate]);
            due("reason()", x.reason(), codes[gate] == 3 ? 3 : 0);
            due("by zone", x.validate(1, 14, 0), 3);
            due("reason()", x.reason(), codes[gate] == 3 ? 3 : 4);
            due("no free rides", x.validate(1, 1, 0), codes[gate]);
            x.away();
        }
        due("count(0)", x.count(0), 4 + 4 * 16);
        dueRecord(x, 43, 4, 12, 1439, 1 + 256, 16 * 2 + 512, 0, 0);
        dueRecord(x, 17, 4, 12, 1439, 1 + 256, 16 * 2 + 512, 0, 0);
    }

    private static void validateCarnet() {
        TicketTag x = atGate(0, 1, 60, 0, 0);
        for (int ride = 1; ride <= 60; ride++) {
            due("ride " + ride, x.validate(1, 1, ride % 2), 0);
            due("count(1)", x.count(1), ride);
            due("rides()", x.rides(), 60 - ride);
            int full = (ride - 1) / 16;
            due("the least bit", x.word(4, full), (1 << (ride - 16 * full)) - 1);
        }
        due("none left", x.validate(1, 1, 1), 3);
        due("reason()", x.reason(), 5);
        due("word(4, 3)", x.word(4, 3), 0x0fff);
        due("count(0)", x.count(0), 4 + 60 * 17);
        dueRecord(x, 43, 60, 0, 0, 1 + 256, 0, 256 * 60, 0);
    }

    private static void validatePurse() {
        TicketTag x = issued(3, 0, 1000, 0);
        x.setClock(9, 300, 7);
        x.present(9);
        due("validate(6, 4, 2)", x.validate(6, 4, 2), 0);
        int fare = 150 + 20 * 4 + 35 * 2;
        dueRecord(x, 41, 1, 300, 7, 6 + 1024, 2 + 256 * 9, 2 * 256, fare);
        dueRecord(x, 7, 2, 1000 - fare, 300, fare, 0, 0, 0);
        dueRecord(x, 11, 1, 300, 7, 6 + 1024, 2 + 256 * 9, fare, 0);
        dueRecord(x, 5, 1, 1000, 0, 0, 0, 0, 0);
        due("validate(255, 15, 3)", x.validate(255, 15, 3), 0);
        int dearest = 150 + 300 + 105;
        dueRecord(x, 5, 3, 1000 - fare - dearest, 300, fare + dearest, 0, 0, 0);
        due("fewer cents", x.validate(0, 0, 4), 3);
        due("reason()", x.reason(), 5);
        due("count(0)", x.count(0), 12 + 2 * 24);
        x.topUp(5);
        due("as many cents", x.validate(0, 0, 4), 0);
        due("cents()", x.cents(), 0);
        x.topUp(65535);
        x.setClock(9, 301, 7);
        due("another day", x.validate(0, 0, 4), 0);
        dueRecord(x, 5, 7, 65385, 301, 150, 0, 0, 0);
        x.setClock(9, 300, 7);
        x.validate(0, 0, 4);
        dueRecord(x, 7, 8, 65235, 300, 150, 0, 0, 0);
    }

    private static void validatePurseCap() {
        TicketTag x = atGate(0, 3, 300, 1000, 0);
        due("150", x.validate(0, 0, 0), 0);
        due("140", x.validate(0, 3, 1), 0);
        due("cents()", x.cents(), 1000 - 300);
        due("nothing more", x.validate(0, 3, 2), 0);
        dueRecord(x, 7, 4, 700, 0, 300, 0, 0, 0);
        due("journey(0, 7)", x.journey(0, 7), 0);
        due("journey(1, 7)", x.journey(1, 7), 150);
        x.setClock(0, 1, 0);
        due("another day", x.validate(0, 15, 3), 0);
        due("cents()", x.cents(), 400);
        TicketTag poor = atGate(0, 3, 1, 0, 0);
        due("fewer than the cap leaves", poor.validate(0, 0, 0), 3);
        poor.topUp(1);
        due("as many as the cap leaves", poor.validate(0, 0, 0), 0);
        due("nothing is charged, none are there", poor.validate(0, 0, 1), 0);
        TicketTag rich = atGate(0, 3, 0, 65535, 0);
        for (int ride = 0; ride < 125; ride++) {
            rich.validate(3, 15, ride % 2);
            if (rich.cents() < 555) {
                rich.topUp(60000);
            }
        }
        due("charged at most 65535", rich.word(5, 3) > rich.word(7, 3)
                ? rich.word(5, 3) : rich.word(7, 3), 65535);
    }

    private static void topUp() {
        promise = "promise 7";
        TicketTag x = issued(3, 500, 1000, 0);
        x.setClock(0, 44, 0);
        x.present(0);
        x.validate(0, 0, 0);
        x.setClock(0, 45, 0);
        due("topUp(7)", x.topUp(7), 0);
        dueRecord(x, 5, 3, 857, 44, 150, 0, 0, 0);
        due("count(0)", x.count(0), 12 + 24 + 8);
        due("topUp to 65535", x.topUp(65535 - 857), 0);
        dueRecord(x, 7, 4, 65535, 44, 150, 0, 0, 0);
        due("one more", x.topUp(1), 3);
        due("reason()", x.reason(), 7);
        throwsDue("topUp(0)", ARGUMENT, () -> x.topUp(0));
        throwsDue("topUp(-1)", ARGUMENT, () -> x.topUp(-1));
        throwsDue("topUp(65536)", ARGUMENT, () -> x.topUp(65536));
        due("reason()", x.reason(), 7);
        x.away();
        throwsDue("topUp(1)", STATE, () -> x.topUp(1));
        throwsDue("topUp(0)", ARGUMENT, () -> x.topUp(0));
        for (int n = 0; n < 8; n++) {
            TicketTag y = atGate(0, 3, 0, 1000, 0);
            y.tearAfter(n, 60000);
            due("torn", y.topUp(5), 4);
            due("cents()", y.cents(), 1000);
            due("count(0)", y.count(0), 12 + n + 1);
            due("reason()", y.reason(), 0);
        }
    }

    private static void topUpRefused() {
        TicketTag x = new TicketTag();
        x.present(0);
        due("not issued", x.topUp(1), 3);
        due("reason()", x.reason(), 2);
        for (int kind = 1; kind <= 2; kind++) {
            TicketTag y = atGate(3, kind, 5, 0, 0);
            due("no purse", y.topUp(65535), 3);
            due("reason()", y.reason(), 6);
            y.bar(3, true);
            due("barred", y.topUp(1), 3);
            due("reason()", y.reason(), 1);
            due("count(0)", y.count(0), 4);
        }
        TicketTag z = atGate(3, 3, 0, 1, 0);
        due("too many", z.topUp(65535), 3);
        due("reason()", z.reason(), 7);
        z.bar(3, true);
        due("barred", z.topUp(1), 3);
        due("reason()", z.reason(), 1);
        z.away();
        z.present(4);
        due("another gate", z.topUp(1), 0);
    }

    private static void reason() {
        promise = "promise 8";
        TicketTag x = atGate(0, 3, 0, 149, 0);
        due("reason()", x.reason(), 0);
        x.validate(0, 0, 0);
        due("reason()", x.reason(), 5);
        x.away();
        x.present(1);
        due("reason() in the next dialogue", x.reason(), 5);
        throwsDue("validate", ARGUMENT, () -> x.validate(256, 0, 0));
        due("reason() behind wrong inputs", x.reason(), 5);
        x.topUp(1);
        due("reason()", x.reason(), 0);
        x.topUp(65535);
        due("reason()", x.reason(), 7);
        x.validate(0, 0, 0);
        due("reason()", x.reason(), 0);
        x.topUp(65535);
        x.topUp(1);
        due("reason()", x.reason(), 7);
        x.tearAfter(0, 0);
        due("torn", x.validate(0, 0, 0), 4);
        due("reason()", x.reason(), 0);
    }

    private static void tearAfter() {
        promise = "promise 9";
        TicketTag x = atGate(0, 1, 60, 0, 0);
        throwsDue("tearAfter", ARGUMENT, () -> x.tearAfter(-1, 0));
        throwsDue("tearAfter", ARGUMENT, () -> x.tearAfter(101, 0));
        throwsDue("tearAfter", ARGUMENT, () -> x.tearAfter(0, -1));
        throwsDue("tearAfter", ARGUMENT, () -> x.tearAfter(0, 65536));
        due("wrong ones tell nothing", x.validate(1, 1, 0), 0);
        x.tearAfter(0, 65535);
        x.tearAfter(100, 65535);
        for (int ride = 1; ride <= 5; ride++) {
            due("told anew", x.validate(1, 1, ride % 2), 0);
        }
        int written = x.count(0);
        due("the next word but 100", x.validate(1, 1, 0), 4);
        due("count(0)", x.count(0), written + 16);
        due("word(24, 2)", x.word(24, 2), 65535);
        due("count(2)", x.count(2), 1);
        due("count(3)", x.count(3), 0);
        x.tearAfter(0, 4321);
        due("present torn", x.present(0), 4);
        due("word(23, 0)", x.word(23, 0), 4321);
        due("count(2)", x.count(2), 2);
        due("forgotten", x.present(0), 1);
        due("validate(1, 1, 0)", x.validate(1, 1, 0), 0);
    }

    private static void tearAfterKeepsOneTimeBits() {
        TicketTag x = atGate(0, 1, 60, 0, 0);
        x.validate(1, 1, 0);
        x.validate(1, 1, 1);
        x.tearAfter(8, 0xfff8);
        due("torn", x.validate(1, 1, 0), 4);
        due("bits of the word alone", x.word(4, 0), 3);
        x.present(0);
        due("taken back", x.lastRide(6), 2);
        x.tearAfter(8, 0x0004);
        due("torn", x.validate(1, 1, 0), 4);
        due("the bit of the word", x.word(4, 0), 7);
        due("count(1)", x.count(1), 3);
        due("paid", x.lastRide(6), 3);
    }

    private static void away() {
        promise = "promise 10";
        TicketTag x = issued(1, 5, 0, 0);
        x.tearAfter(0, 6);
        due("away()", x.away(), false);
        x.present(0);
        due("not forgotten when none went on", x.validate(0, 0, 0), 4);
        due("away()", x.away(), false);
        x.present(0);
        x.tearAfter(0, 6);
        due("away()", x.away(), true);
        due("away()", x.away(), false);
        x.present(0);
        due("forgotten", x.validate(0, 0, 0), 0);
        due("away()", x.away(), true);
        throwsDue("validate", STATE, () -> x.validate(0, 0, 0));
    }

    private static void rides() {
        promise = "promise 11";
        due("rides()", issued(1, 60, 0, 0).rides(), 60);
        due("rides()", issued(2, 60, 0, 0).rides(), -1);
        due("rides()", issued(3, 60, 0, 0).rides(), -1);
        TicketTag x = atGate(0, 1, 2, 0, 0);
        x.validate(0, 0, 0);
        due("rides()", x.rides(), 1);
        x.validate(0, 0, 0);
        due("rides() behind a free one", x.rides(), 1);
        x.validate(0, 0, 1);
        due("rides()", x.rides(), 0);
        x.away();
        due("rides()", x.rides(), 0);
    }

    private static void cents() {
        promise = "promise 12";
        due("cents()", issued(1, 60, 0, 0).cents(), -1);
        due("cents()", issued(2, 60, 0, 0).cents(), -1);
        due("cents()", issued(3, 0, 0, 0).cents(), 0);
        due("cents()", issued(3, 0, 65535, 0).cents(), 65535);
        TicketTag x = atGate(0, 3, 0, 400, 0);
        x.tearAfter(16, 0);
        due("paid, the journey torn", x.validate(0, 0, 0), 4);
        due("cents()", x.cents(), 250);
    }

    private static void capLeft() {
        promise = "promise 13";
        due("capLeft(0)", issued(1, 60, 0, 0).capLeft(0), -1);
        due("capLeft(0)", issued(2, 60, 0, 0).capLeft(0), -1);
        due("capLeft(0)", issued(3, 0, 9, 0).capLeft(0), -1);
        TicketTag x = issued(3, 200, 1000, 0);
        due("capLeft(0)", x.capLeft(0), 200);
        x.setClock(0, 7, 0);
        x.present(0);
        x.validate(0, 0, 0);
        due("capLeft(7)", x.capLeft(7), 50);
        due("capLeft(6)", x.capLeft(6), 200);
        due("capLeft(-1)", x.capLeft(-1), 200);
        due("capLeft", x.capLeft(Integer.MAX_VALUE), 200);
        x.validate(0, 0, 1);
        due("capLeft(7)", x.capLeft(7), 0);
        // A tear can leave a record that is right and has more charged than the cap.
        x = atGate(0, 3, 200, 1000, 0);
        x.topUp(1);
        x.topUp(1);
        x.tearAfter(3, 65531);
        due("torn, but right", x.topUp(1), 4);
        due("cents()", x.cents(), 1003);
        due("word(7, 3)", x.word(7, 3), 65531);
        due("capLeft(0)", x.capLeft(0), 0);
        x.present(0);
        due("validate(0, 0, 0)", x.validate(0, 0, 0), 0);
        dueRecord(x, 5, 5, 1003, 0, 65531, 0, 0, 0);
    }

    private static void journey() {
        promise = "promise 14";
        TicketTag x = issued(3, 0, 5000, 0);
        x.setClock(11, 9999, 1439);
        x.present(11);
        x.validate(255, 15, 14);
        x.validate(7, 9, 14);
        int[] newest = {9999, 1439, 7, 9, 14, 1, 11, 0, 1};
        int[] older = {9999, 1439, 255, 15, 14, 0, 11, 555, 0};
        for (int what = 0; what < 9; what++) {
            due("journey(0, " + what + ")", x.journey(0, what), newest[what]);
            due("journey(1, " + what + ")", x.journey(1, what), older[what]);
            due("journey(2, " + what + ")", x.journey(2, what), -1);
        }
        due("journey(0, -1)", x.journey(0, -1), -1);
        due("journey(0, 9)", x.journey(0, 9), -1);
        due("journey(-1, 0)", x.journey(-1, 0), -1);
        due("journey(16, 0)", x.journey(16, 0), -1);
        due("journey(65536, 0)", x.journey(65536, 0), -1);
        due("journey", x.journey(Integer.MIN_VALUE, Integer.MAX_VALUE), -1);
        due("no ride", issued(1, 1, 0, 0).journey(0, 0), -1);
    }

    private static void journeysGoRound() {
        TicketTag x = atGate(0, 2, 1, 0, 9);
        for (int ride = 1; ride <= 24; ride++) {
            x.validate(ride, 0, 0);
            for (int k = 0; k < 16; k++) {
                due("line", x.journey(k, 2), k < ride ? ride - k : -1);
            }
            due("journey(16, 2)", x.journey(16, 2), -1);
        }
        x.tearAfter(11, 1);
        due("torn", x.validate(25, 0, 0), 4);
        due("lastRide(6)", x.lastRide(6), 25);
        due("journey(0, 2)", x.journey(0, 2), -1);
        due("journey(1, 2)", x.journey(1, 2), 24);
        due("journey(15, 2)", x.journey(15, 2), 10);
    }

    private static void lastRide() {
        promise = "promise 15";
        TicketTag x = issued(1, 9, 0, 0);
        x.setClock(2, 77, 1435);
        x.present(2);
        x.validate(1, 2, 3);
        x.setClock(2, 78, 5);
        x.validate(250, 2, 3);
        int[] due = {77, 1435, 1, 3, 250, 1, 2, 0};
        for (int what = 0; what < 8; what++) {
            due("lastRide(" + what + ")", x.lastRide(what), due[what]);
            due("none", issued(1, 9, 0, 0).lastRide(what), -1);
        }
        due("lastRide(-1)", x.lastRide(-1), -1);
        due("lastRide(8)", x.lastRide(8), -1);
    }

    private static void lastRideVoid() {
        for (int n = 0; n <= 16; n++) {
            TicketTag x = atGate(0, 1, 9, 0, 0);
            x.validate(1, 2, 3);
            x.tearAfter(n, 0);
            due("torn", x.validate(1, 2, 4), 4);
            // The ride counts from its one-time bit on; what is torn before is the ride before.
            due("lastRide(6)", x.lastRide(6), n < 9 ? 1 : 2);
            due("lastRide(3)", x.lastRide(3), n < 9 ? 3 : 4);
            due("lastRide(7)", x.lastRide(7), n < 9 ? 0 : 1);
            due("rides()", x.rides(), n < 9 ? 8 : 7);
        }
    }

    private static void inspect() {
        promise = "promise 16";
        TicketTag x = issued(1, 9, 0, 0);
        due("no ride", x.inspect(0, 0, 0), 5);
        x.setClock(0, 5, 1400);
        x.present(0);
        x.validate(0, 0, 0);
        due("at once", x.inspect(5, 1400, 15), 0);
        due("120 minutes", x.inspect(6, 80, 0), 0);
        due("121 minutes", x.inspect(6, 81, 0), 5);
        due("ahead", x.inspect(5, 1399, 0), 5);
        x.setClock(0, 6, 30);
        due("free", x.validate(0, 0, 0), 1);
        due("from the beginning on", x.inspect(6, 81, 0), 5);
        due("in a dialogue", x.inspect(6, 80, 0), 0);
        throwsDue("inspect", ARGUMENT, () -> x.inspect(-1, 0, 0));
        throwsDue("inspect", ARGUMENT, () -> x.inspect(10000, 0, 0));
        throwsDue("inspect", ARGUMENT, () -> x.inspect(0, -1, 0));
        throwsDue("inspect", ARGUMENT, () -> x.inspect(0, 1440, 0));
        throwsDue("inspect", ARGUMENT, () -> x.inspect(0, 0, -1));
        throwsDue("inspect", ARGUMENT, () -> x.inspect(0, 0, 16));
        due("inspect(9999, 1439, 15)", new TicketTag().inspect(9999, 1439, 15), 2);
        throwsDue("inspect", ARGUMENT, () -> new TicketTag().inspect(0, 0, 16));
        TicketTag pass = issued(2, 0x8001, 3, 4);
        due("pass", pass.inspect(3, 0, 0), 0);
        due("pass", pass.inspect(4, 1439, 15), 0);
        due("pass", pass.inspect(2, 1439, 1), 3);
        due("pass", pass.inspect(5, 0, 0), 3);
        due("pass", pass.inspect(3, 0, 14), 4);
        due("reason()", pass.reason(), 0);
        TicketTag purse = atGate(0, 3, 0, 150, 0);
        due("purse", purse.inspect(0, 0, 0), 5);
        purse.tearAfter(15, 1);
        purse.validate(0, 0, 0);
        due("not paid", purse.inspect(0, 0, 0), 5);
        purse.present(0);
        purse.validate(0, 0, 0);
        due("paid", purse.inspect(0, 120, 0), 0);
    }

    private static void word() {
        promise = "promise 17";
        TicketTag x = issued(2, 2, 3, 4);
        for (int w = 0; w < 4; w++) {
            due("word(0, " + w + ")", x.word(0, w), new int[] {2, 2, 3, 4}[w]);
        }
        due("word(63, 3)", x.word(63, 3), 0);
        throwsDue("word(-1, 3)", INDEX, () -> x.word(-1, 3));
        throwsDue("word(64, 0)", INDEX, () -> x.word(64, 0));
        throwsDue("word(0, -1)", INDEX, () -> x.word(0, -1));
        throwsDue("word(0, 4)", INDEX, () -> x.word(0, 4));
        throwsDue("word(1 << 30, 0)", INDEX, () -> x.word(1 << 30, 0));
    }

    private static void count() {
        promise = "promise 18";
        TicketTag x = atGate(0, 1, 9, 0, 0);
        due("count(0)", x.count(0), 4);
        due("count(3)", x.count(3), 1);
        x.tearAfter(12, 0);
        x.validate(0, 0, 0);
        due("count(0)", x.count(0), 17);
        due("count(1)", x.count(1), 1);
        due("count(2)", x.count(2), 1);
        due("count(3)", x.count(3), 0);
        due("count(-1)", x.count(-1), -1);
        due("count(4)", x.count(4), -1);
    }

    /** A torn record can be right all the same; then it is read as any other one. */
    private static void rightByChance() {
        promise = "records right by chance";
        TicketTag x = atGate(0, 1, 9, 0, 0);
        x.tearAfter(8, 0);
        x.validate(1, 2, 3);
        x.tearAfter(7, 65535);
        due("the last zero torn", x.present(0), 4);
        dueRecord(x, 41);
        due("an empty ride of number 0", x.lastRide(6), 0);
        due("lastRide(7)", x.lastRide(7), 1);
        due("present(0)", x.present(0), 1);
        dueRecord(x, 9);
        due("open", x.validate(0, 5, 5), 0);
        due("count(1)", x.count(1), 0);
        due("free", x.validate(1, 2, 0), 1);
        dueRecord(x, 43, 1, 0, 4096, 1 + 512, 16, 0, 0);
    }

    /** One word 65535 among zeros is a right record: so a counter can come to its end. */
    private static void counterGoesRound() {
        promise = "counters go round";
        TicketTag x = atGate(0, 1, 9, 0, 0);
        x.tearAfter(0, 65535);
        due("torn", x.validate(1, 2, 3), 4);
        due("lastRide(6)", x.lastRide(6), 65535);
        x.setClock(0, 0, 76);
        due("present(0)", x.present(0), 1);
        dueRecord(x, 39, 65535);
        due("validate(1, 2, 3)", x.validate(1, 2, 3), 0);
        dueRecord(x, 43, 0, 0, 76, 1 + 512, 3, 256, 0);
        dueRecord(x, 9, 0, 0, 76, 1 + 512, 3, 0, 0);
        due("0 is ahead", x.lastRide(6), 0);
        due("journey(1, 0)", x.journey(1, 0), 0);
        due("journey(2, 0)", x.journey(2, 0), -1);
        due("validate(1, 2, 4)", x.validate(1, 2, 4), 0);
        due("1 is ahead", x.lastRide(6), 1);
        due("journey(2, 1)", x.journey(2, 1), 0);
    }

    /**
     * The counters are 1 and some other one: two tears, of a ride's place and of the next one's
     * counter, can put any counter into a record that is right.
     */
    private static void countersFarApart() {
        promise = "counters far apart";
        int[] counters = {1, 2, 32767, 32768, 32769, 32770, 65534, 65535};
        boolean[] ahead = {false, true, true, true, false, false, false, false};
        for (int i = 0; i < counters.length; i++) {
            TicketTag x = atGate(0, 1, 9, 0, 0);
            due("validate(1, 2, 3)", x.validate(1, 2, 3), 0);
            x.tearAfter(3, 65535 - counters[i]);
            due("torn", x.validate(1, 2, 4), 4);
            x.present(0);
            x.tearAfter(0, counters[i]);
            due("torn", x.validate(1, 2, 4), 4);
            dueRecord(x, 43, counters[i], 0, 0, 65535 - counters[i]);
            due("lastRide(3) by " + counters[i], x.lastRide(3), ahead[i] ? 0 : 3);
            due("lastRide(6)", x.lastRide(6), ahead[i] ? counters[i] : 1);
        }
    }

    /** What is torn while a void ride is taken back can be a ride with another code. */
    private static void voidNoMore() {
        promise = "void no more";
        TicketTag x = atGate(0, 1, 9, 0, 0);
        x.tearAfter(8, 0);
        x.validate(40, 2, 3);
        x.tearAfter(1, 1);
        due("the counter moved into the day", x.present(0), 4);
        dueRecord(x, 41, 0, 1, 0, 40 + 512, 3, 256, 0);
        x.tearAfter(0, 65535);
        due("the same sum", x.present(0), 4);
        dueRecord(x, 41, 65535, 1, 0, 40 + 512, 3, 256, 0);
        due("void", x.lastRide(6), -1);
        x.tearAfter(4, 1 + 40 + 512 + 3);
        due("all moved into the code", x.present(0), 4);
        dueRecord(x, 41, 0, 0, 0, 0, 556, 256, 0);
        due("lastRide(6)", x.lastRide(6), 0);
        due("lastRide(5)", x.lastRide(5), 2);
        due("present(0)", x.present(0), 1);
        due("its code", x.validate(0, 0, 0), 2);
        due("journey(0, 6)", x.journey(0, 6), 2);
        due("journey(0, 4)", x.journey(0, 4), 12);
    }

    private static void expectsModulo256() {
        promise = "expects modulo 256";
        for (int topUps = 252; topUps <= 257; topUps++) {
            TicketTag x = atGate(0, 3, 0, 1000, 0);
            for (int i = 0; i < topUps; i++) {
                x.topUp(1);
            }
            int counter = 1 + topUps;
            due("paid", x.validate(1, 0, 0), 0);
            dueRecord(x, 41, 1, 0, 0, 1, 0, 256 * ((counter + 1) % 256), 185);
            due("lastRide(6)", x.lastRide(6), 1);
            due("free", x.validate(1, 0, 0), 1);
            dueRecord(x, 43, 2, 0, 4096, 1, 16, 256 * ((counter + 1) % 256), 0);
            x.tearAfter(8, 0);
            due("not paid", x.validate(1, 0, 1), 4);
            due("lastRide(6)", x.lastRide(6), 2);
        }
    }

    /** The value's counter is expected modulo 256: so many top-ups make a paid ride void. */
    private static void voidByTopUps() {
        promise = "void by top-ups";
        TicketTag x = atGate(0, 3, 0, 1000, 0);
        due("paid", x.validate(1, 0, 0), 0);
        for (int i = 0; i < 254; i++) {
            x.topUp(1);
        }
        due("lastRide(6)", x.lastRide(6), 1);
        x.topUp(1);
        due("lastRide(6)", x.lastRide(6), -1);
        due("paid anew", x.validate(1, 0, 0), 0);
        due("over the other one", x.word(43, 0), 2);
        due("lastRide(6)", x.lastRide(6), 2);
        // What was open is another ride than the one that is the last one now.
        TicketTag y = atGate(0, 3, 0, 1000, 0);
        due("paid", y.validate(1, 0, 0), 0);
        y.tearAfter(16, 0);
        due("paid, torn", y.validate(1, 0, 1), 4);
        y.present(0);
        for (int i = 0; i < 255; i++) {
            y.topUp(1);
        }
        due("lastRide(6)", y.lastRide(6), 1);
        due("free, not open", y.validate(1, 0, 0), 1);
    }
}
