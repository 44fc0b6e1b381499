import java.util.Arrays;
import java.util.Random;
import java.util.function.IntSupplier;

/**
 * Runs of calls drawn from a fixed seed, on a tag and on a second, plain telling of the document.
 * Tears are drawn too, often with the junk that makes the torn record right: only so are the
 * rarer records (void no more, counters at their end, foreign codes) ever met.
 */
public final class ModelTest {
    private static final int RUNS = 12000;
    private static final int CALLS = 512;
    private static final int STEP_CALLS = 10;
    /** Blocks 0 .. 44: behind these nothing is ever written. */
    private static final int TOLD_WORDS = 180;
    private static final int[] MET = new int[16];

    /** The tag was torn away while the model wrote. */
    private static final class Torn extends RuntimeException {
        private static final long serialVersionUID = 1L;
    }

    private static final class Model {
        int[] m = new int[256];
        int[] day = new int[12];
        int[] minute = new int[12];
        boolean[] bars = new boolean[12];
        boolean dialogue;
        boolean told;
        int gate;
        int open = -1;
        int reason;
        int n;
        int junk;
        int words;
        int tears;
        int lastAddress;

        Model copy() {
            Model c = new Model();
            c.m = m.clone();
            c.day = day.clone();
            c.minute = minute.clone();
            c.bars = bars.clone();
            c.dialogue = dialogue;
            c.told = told;
            c.gate = gate;
            c.open = open;
            c.reason = reason;
            c.n = n;
            c.junk = junk;
            c.words = words;
            c.tears = tears;
            return c;
        }

        void put(int address, int value) {
            words++;
            lastAddress = address;
            boolean bits = address / 4 == 4;
            if (told && n == 0) {
                m[address] = bits ? m[address] | value & junk : junk;
                tears++;
                told = false;
                dialogue = false;
                throw new Torn();
            }
            if (told) {
                n--;
            }
            m[address] = bits ? m[address] | value : value;
        }

        void put(int block, int[] record) {
            for (int i = 0; i < 8; i++) {
                put(4 * block + i, record[i]);
            }
        }

        static int[] summed(int... w) {
            int[] r = Arrays.copyOf(w, 8);
            r[7] = 65535 - sum(r);
            return r;
        }

        static int sum(int[] r) {
            long s = 0;
            for (int i = 0; i < 7; i++) {
                s += r[i];
            }
            return s == 0 ? 0 : (int) ((s - 1) % 65535 + 1);
        }

        int[] record(int block) {
            return Arrays.copyOfRange(m, 4 * block, 4 * block + 8);
        }

        boolean right(int block) {
            int[] r = record(block);
            return sum(r) + r[7] == 65535;
        }

        int latest(int a) {
            int b = a + 2;
            if (right(a) && right(b)) {
                return (short) (m[4 * b] - m[4 * a]) > 0 ? b : a;
            }
            return right(a) ? a : right(b) ? b : -1;
        }

        int twin(int a, int... rest) {
            int latest = latest(a);
            int counter = latest < 0 ? 1 : (m[4 * latest] + 1) % 65536;
            int block = latest == a ? a + 2 : a;
            int[] r = new int[8];
            r[0] = counter;
            System.arraycopy(rest, 0, r, 1, rest.length);
            put(block, summed(r));
            return block;
        }

        int bits() {
            int on = 0;
            for (int b = 0; b < 64; b++) {
                on += m[16 + b / 16] >> b % 16 & 1;
            }
            return on;
        }

        boolean isVoid(int block) {
            int[] r = record(block);
            if ((r[4] >> 4 & 15) != 0) {
                return false;
            }
            int value = latest(5);
            return m[0] == 1 && r[5] >> 8 > bits()
                    || m[0] == 3 && value >= 0 && r[5] >> 8 == (m[4 * value] + 1 & 255);
        }

        int last() {
            int latest = latest(41);
            if (latest >= 0 && isVoid(latest)) {
                int other = 84 - latest;
                return right(other) ? other : -1;
            }
            return latest;
        }

        boolean wanting(int block) {
            int number = m[4 * block];
            int at = 9 + 2 * (number & 15);
            return !(right(at) && m[4 * at] == number);
        }

        void putJourney(int block) {
            int[] r = record(block);
            int t = r[1] * 1440 + (r[2] & 4095) + (r[5] & 255);
            put(9 + 2 * (r[0] & 15), summed(
                    r[0], t / 1440 % 65536, t % 1440, r[3], r[4], r[6], r[2] >> 12));
        }

        int began(int block) {
            return m[4 * block + 1] * 1440 + (m[4 * block + 2] & 4095);
        }

        int now() {
            return day[gate] * 1440 + minute[gate];
        }

        int present(int g) {
            dialogue = true;
            gate = g;
            open = -1;
            try {
                int latest = latest(41);
                if (latest >= 0 && isVoid(latest)) {
                    put(latest, new int[8]);
                }
                int last = last();
                if (last >= 0 && wanting(last)) {
                    putJourney(last);
                    open = last;
                }
            } catch (Torn e) {
                return 4;
            }
            return m[0];
        }

        int refused(int why) {
            reason = why;
            return 3;
        }

        int validate(int line, int zone, int direction) {
            reason = 0;
            if (bars[gate]) {
                return refused(1);
            }
            if (m[0] == 0) {
                return refused(2);
            }
            try {
                return ride(line, zone, direction);
            } catch (Torn e) {
                return 4;
            }
        }

        int ride(int line, int zone, int direction) {
            int last = last();
            int[] r = last < 0 ? null : record(last);
            if (last >= 0 && open == last && (r[3] & 255) == line) {
                int ago = now() - began(last) - (r[5] & 255);
                if (ago >= 0 && ago <= 5) {
                    open = -1;
                    return r[4] >> 4 & 15;
                }
            }
            int place = line | zone << 8;
            int how = direction | gate << 8;
            int v = latest(5);
            int d = day[gate];
            int ago = last < 0 ? -1 : now() - began(last);
            if (m[0] != 2 && ago >= 0 && ago <= 75 && (r[4] & 15) == direction && r[2] >> 12 < 2) {
                int expects = m[0] == 1 ? bits() : m[4 * v] & 255;
                open = -1;
                putJourney(twin(41, r[1], r[2] + 4096, place, how | 16, ago | expects << 8, 0));
                return 1;
            }
            if (m[0] == 2) {
                if (d < m[2] || d > m[3]) {
                    return refused(3);
                }
                if ((m[1] & 1 << zone) == 0) {
                    return refused(4);
                }
                open = -1;
                putJourney(twin(41, d, minute[gate], place, how | 32, 0, 0));
                return 2;
            }
            if (m[0] == 1) {
                if (bits() >= m[1]) {
                    return refused(5);
                }
                open = -1;
                int t = twin(41, d, minute[gate], place, how, bits() + 1 << 8, 0);
                int b = 0;
                while ((m[16 + b / 16] >> b % 16 & 1) == 1) {
                    b++;
                }
                put(16 + b / 16, 1 << b % 16);
                putJourney(t);
                return 0;
            }
            int charge = 150 + 20 * zone + 35 * (line % 4);
            if (m[1] > 0) {
                charge = Math.min(charge, capLeft(d));
            }
            if (cents() < charge) {
                return refused(5);
            }
            int charged = (m[4 * v + 2] == d ? m[4 * v + 3] : 0) + charge;
            int left = cents() - charge;
            open = -1;
            int t = twin(41, d, minute[gate], place, how, (m[4 * v] + 1 & 255) << 8, charge);
            twin(5, left, d, Math.min(charged, 65535));
            putJourney(t);
            return 0;
        }

        int topUp(int more) {
            reason = 0;
            if (bars[gate]) {
                return refused(1);
            }
            if (m[0] == 0) {
                return refused(2);
            }
            if (m[0] != 3) {
                return refused(6);
            }
            if (cents() + more > 65535) {
                return refused(7);
            }
            int v = latest(5);
            try {
                twin(5, cents() + more, m[4 * v + 2], m[4 * v + 3]);
            } catch (Torn e) {
                return 4;
            }
            return 0;
        }

        boolean issue(int kind, int p1, int p2, int p3) {
            if (m[0] != 0) {
                return false;
            }
            m[0] = kind;
            m[1] = p1;
            m[2] = p2;
            m[3] = p3;
            words += 4;
            if (kind == 3) {
                System.arraycopy(summed(1, p2), 0, m, 20, 8);
                words += 8;
            }
            return true;
        }

        int rides() {
            return m[0] == 1 ? Math.max(0, m[1] - bits()) : -1;
        }

        int count(int what) {
            switch (what) {
                case 0:
                    return words;
                case 1:
                    return bits();
                case 2:
                    return tears;
                case 3:
                    return dialogue ? 1 : 0;
                default:
                    return -1;
            }
        }

        int cents() {
            return m[0] == 3 ? m[4 * latest(5) + 1] : -1;
        }

        int capLeft(int d) {
            if (m[0] != 3 || m[1] == 0) {
                return -1;
            }
            int v = latest(5);
            return Math.max(0, m[1] - (m[4 * v + 2] == d ? m[4 * v + 3] : 0));
        }

        int journey(int k, int what) {
            int last = last();
            if (last < 0 || k < 0 || k > 15 || what < 0 || what > 8) {
                return -1;
            }
            int number = Math.floorMod(m[4 * last] - k, 65536);
            int[] j = record(9 + 2 * (number & 15));
            if (j[0] != number || sum(j) + j[7] != 65535) {
                return -1;
            }
            return new int[] {j[1], j[2], j[3] & 255, j[3] >> 8, j[4] & 15, j[4] >> 4 & 15,
                j[4] >> 8, j[5], j[6]}[what];
        }

        int lastRide(int what) {
            int last = last();
            if (last < 0 || what < 0 || what > 7) {
                return -1;
            }
            int[] r = record(last);
            return new int[] {r[1], r[2] & 4095, r[2] >> 12, r[4] & 15, r[3] & 255,
                r[4] >> 4 & 15, r[0], wanting(last) ? 1 : 0}[what];
        }

        int inspect(int d, int min, int zone) {
            switch (m[0]) {
                case 0:
                    return 2;
                case 2:
                    return d < m[2] || d > m[3] ? 3 : (m[1] >> zone & 1) == 0 ? 4 : 0;
                default:
                    int ago = last() < 0 ? -1 : d * 1440 + min - began(last());
                    return ago >= 0 && ago <= 120 ? 0 : 5;
            }
        }
    }

    private final Random random;
    private final TicketTag tag = new TicketTag();
    private final Model model = new Model();
    private final StringBuilder story = new StringBuilder();
    private final int questions;
    private int calls = 0;
    private int time;

    private ModelTest(long seed) {
        random = new Random(seed);
        questions = random.nextInt(7);
        time = random.nextInt(3) == 0 ? random.nextInt(200) : random.nextInt(9990 * 1440);
    }

    private static int call(IntSupplier c) {
        try {
            return c.getAsInt();
        } catch (IllegalArgumentException e) {
            return -1001;
        } catch (IllegalStateException e) {
            return -1002;
        } catch (IndexOutOfBoundsException e) {
            if (e.getClass() != IndexOutOfBoundsException.class) {
                throw e;
            }
            return -1003;
        }
    }

    private void same(String name, int want, IntSupplier asked) {
        calls++;
        int got = call(asked);
        story.append(name).append(" -> ").append(want).append('\n');
        if (got != want) {
            System.out.println(story);
            throw new AssertionError(name + " answered " + got + ", due is " + want);
        }
    }

    /** Nothing is promised of an object behind its 512th call: so the runs end before it. */
    private void run() {
        issueAs(1 + random.nextInt(3));
        boolean memoryToo = random.nextInt(4) != 0;
        int end = CALLS - (memoryToo ? TOLD_WORDS : 0) - STEP_CALLS;
        while (calls < end) {
            step();
            for (int i = 0; i < questions; i++) {
                ask(random.nextInt(12));
            }
        }
        if (memoryToo) {
            for (int i = 0; i < TOLD_WORDS; i++) {
                askWord(i);
            }
        }
    }

    private void askWord(int i) {
        same("word(" + i / 4 + ", " + i % 4 + ")", model.m[i], () -> tag.word(i / 4, i % 4));
    }

    private void issueAs(int kind) {
        int p1 = kind == 1 ? 1 + random.nextInt(60) : kind == 2 ? 1 + random.nextInt(65535)
                : random.nextInt(2) * random.nextInt(2000);
        int p2 = kind == 1 ? 0 : kind == 2 ? Math.max(0, time / 1440 - random.nextInt(2))
                : random.nextInt(4000);
        int p3 = kind == 2 ? p2 + random.nextInt(40) : 0;
        same("issue(" + kind + ", " + p1 + ", " + p2 + ", " + p3 + ")",
                model.issue(kind, p1, p2, p3) ? 1 : 0,
                () -> tag.issue(kind, p1, p2, p3) ? 1 : 0);
    }

    private void step() {
        int what = random.nextInt(100);
        if (what < 12) {
            moveClock();
        } else if (what < 14) {
            bar(random.nextInt(3), random.nextInt(6) == 0);
        } else if (!model.dialogue) {
            act("present", random.nextInt(3), 0, 0);
        } else if (what < 20) {
            model.dialogue = false;
            model.told = false;
            same("away()", 1, () -> tag.away() ? 1 : 0);
        } else if (what < 40) {
            int top = random.nextInt(8) == 0 ? 65535 : 900;
            act("topUp", 1 + random.nextInt(top), 0, 0);
        } else {
            act("validate", random.nextInt(3), random.nextInt(3), random.nextInt(2));
        }
    }

    private void bar(int gate, boolean on) {
        model.bars[gate] = on;
        same("bar(" + gate + ", " + on + ")", 0, () -> {
            tag.bar(gate, on);
            return 0;
        });
    }

    private void moveClock() {
        int[] moves = {0, 1, 2, 5, 6, 20, 40, 74, 75, 76, 120, 600, 1440, -1, -3};
        time = Math.max(0, Math.min(9999 * 1440, time + moves[random.nextInt(moves.length)]));
        int gate = random.nextInt(3);
        int day = time / 1440;
        int minute = time % 1440;
        model.day[gate] = day;
        model.minute[gate] = minute;
        same("setClock(" + gate + ", " + day + ", " + minute + ")", 0, () -> {
            tag.setClock(gate, day, minute);
            return 0;
        });
    }

    private void act(String name, int a, int b, int c) {
        if (random.nextInt(3) == 0) {
            drawTear(name, a, b, c);
        }
        int want = apply(model, name, a, b, c);
        same(name + "(" + a + ", " + b + ", " + c + ")", want, () -> name.equals("present")
                ? tag.present(a) : name.equals("topUp") ? tag.topUp(a) : tag.validate(a, b, c));
        if (name.equals("validate")) {
            MET[want]++;
        }
        same("reason()", model.reason, tag::reason);
    }

    private static int apply(Model m, String name, int a, int b, int c) {
        return name.equals("present") ? m.present(a)
                : name.equals("topUp") ? m.topUp(a) : m.validate(a, b, c);
    }

    private void drawTear(String name, int a, int b, int c) {
        int n = random.nextInt(25);
        int[] junks = {0, 65535, 1, random.nextInt(65536)};
        int drawn = junks[random.nextInt(junks.length)];
        if (random.nextInt(3) > 0) {
            Model trial = model.copy();
            trial.told = true;
            trial.n = n;
            int tears = trial.tears;
            apply(trial, name, a, b, c);
            if (trial.tears > tears && trial.lastAddress >= 20) {
                drawn = rightingJunk(trial.m, trial.lastAddress);
            }
        }
        int junk = drawn;
        model.told = true;
        model.n = n;
        model.junk = junk;
        same("tearAfter(" + n + ", " + junk + ")", 0, () -> {
            tag.tearAfter(n, junk);
            return 0;
        });
    }

    private static int rightingJunk(int[] m, int address) {
        int start = 20 + (address - 20) / 8 * 8;
        long others = 0;
        for (int i = start; i < start + 8; i++) {
            others += i == address ? 0 : m[i];
        }
        return (int) Math.floorMod(-others, 65535L);
    }

    private void ask(int question) {
        int k = random.nextInt(18) - 1;
        int w = random.nextInt(11) - 1;
        int day = time / 1440 - random.nextInt(2);
        int t = Math.min(9999 * 1440, time + random.nextInt(4) * 60);
        switch (question) {
            case 0:
                same("journey(" + k + ", " + w + ")", model.journey(k, w), () -> tag.journey(k, w));
                break;
            case 1:
                same("journey(0, " + w + ")", model.journey(0, w), () -> tag.journey(0, w));
                break;
            case 2:
                same("lastRide(" + w + ")", model.lastRide(w), () -> tag.lastRide(w));
                break;
            case 3:
                same("lastRide(6)", model.lastRide(6), () -> tag.lastRide(6));
                break;
            case 4:
                same("capLeft(" + day + ")", model.capLeft(day), () -> tag.capLeft(day));
                break;
            case 5:
                same("cents()", model.cents(), tag::cents);
                break;
            case 6:
                same("rides()", model.rides(), tag::rides);
                break;
            case 7:
                same("count(" + w + ")", model.count(w), () -> tag.count(w));
                break;
            case 8:
                same("inspect(" + t / 1440 + ", " + t % 1440 + ", 1)",
                        model.inspect(t / 1440, t % 1440, 1),
                        () -> tag.inspect(t / 1440, t % 1440, 1));
                break;
            case 9:
                same("the call of the other state", -1002,
                        () -> model.dialogue ? tag.present(0) : tag.validate(0, 0, 0));
                break;
            case 10:
                same("count(0)", model.words, () -> tag.count(0));
                break;
            default:
                askWord(random.nextInt(TOLD_WORDS));
                break;
        }
    }

    public static void main(String[] args) {
        try {
            for (int run = 0; run < RUNS; run++) {
                new ModelTest(run).run();
            }
        } catch (AssertionError e) {
            System.out.println(e.getMessage());
            System.exit(1);
        }
        System.out.println("all runs are as the model's; answers of validate() met: "
                + Arrays.toString(MET));
    }
}
