/**
 * A ticket tag with a small memory, and the gates that take rides from it.
 *
 * All that a gate learns about earlier rides is read from the memory, word by word, because the
 * tag may have been torn away in the middle of them; nothing about a ride is kept beside it.
 */
public final class TicketTag {
    private static final int CARNET = 1;
    private static final int PASS = 2;
    private static final int PURSE = 3;

    private static final int PAID_RIDE = 0;
    private static final int FREE_RIDE = 1;
    private static final int PASS_RIDE = 2;
    private static final int TOPPED_UP = 0;
    private static final int REFUSED = 3;
    private static final int TORN = 4;

    private static final int NO_REASON = 0;
    private static final int BARRED = 1;
    private static final int NOT_ISSUED = 2;
    private static final int WRONG_DAY = 3;
    private static final int WRONG_ZONE = 4;
    private static final int NOT_PAID = 5;
    private static final int NO_PURSE = 6;
    private static final int TOO_MANY_CENTS = 7;

    private static final int PRODUCT = 0;
    private static final int ONE_TIME_BITS = 4;
    private static final int VALUES = 5;
    private static final int JOURNEYS = 9;
    private static final int TRANSFERS = 41;

    private static final int TOP_WORD = 65535;
    private static final int BIT_COUNT = 64;
    private static final int WORD_BITS = 16;
    private static final int JOURNEY_PLACES = 16;
    private static final int MOST_RIDES = 60;

    private static final int GATE_COUNT = 12;
    private static final int TOP_DAY = 9999;
    private static final int DAY_MINUTES = 1440;
    private static final int TOP_LINE = 255;
    private static final int TOP_ZONE = 15;
    private static final int TOP_DIRECTION = 15;
    private static final int TOP_TEAR = 100;

    private static final int OPEN_MINUTES = 5;
    private static final int FREE_MINUTES = 75;
    private static final int INSPECTED_MINUTES = 120;
    private static final int FREE_RIDES = 2;

    private static final int BASE_FARE = 150;
    private static final int ZONE_FARE = 20;
    private static final int LINE_FARE = 35;
    private static final int LINE_CLASSES = 4;

    private static final int NO_RECORD = -1;
    private static final int NO_ANSWER = -1;

    private final Memory memory = new Memory();
    private final int[] clocks = new int[GATE_COUNT];
    private final boolean[] barring = new boolean[GATE_COUNT];
    private int dialogueGate = 0;
    // The record, not a flag: top-ups can make another ride the last one, and that one is not open.
    private int openRecord = NO_RECORD;
    private int refusal = NO_REASON;

    public TicketTag() {
    }

    public boolean issue(int kind, int p1, int p2, int p3)
            throws IllegalArgumentException, IllegalStateException {
        if (!isProduct(kind, p1, p2, p3)) {
            throw new IllegalArgumentException("no such product");
        }
        if (memory.isNear()) {
            throw new IllegalStateException("a dialogue goes on");
        }
        if (kindOfTag() != 0) {
            return false;
        }
        writeProduct(kind, p1, p2, p3);
        return true;
    }

    public void setClock(int gate, int day, int minute) throws IllegalArgumentException {
        if (!isGate(gate) || !isTime(day, minute)) {
            throw new IllegalArgumentException("no such gate, day or minute");
        }
        clocks[gate] = day * DAY_MINUTES + minute;
    }

    public void bar(int gate, boolean on) throws IllegalArgumentException {
        if (!isGate(gate)) {
            throw new IllegalArgumentException("no such gate");
        }
        barring[gate] = on;
    }

    public int present(int gate) throws IllegalArgumentException, IllegalStateException {
        if (!isGate(gate)) {
            throw new IllegalArgumentException("no such gate");
        }
        if (memory.isNear()) {
            throw new IllegalStateException("a dialogue goes on");
        }
        memory.comeNear();
        dialogueGate = gate;
        openRecord = NO_RECORD;
        if (!takeBackVoidRide() || !finishLastRide()) {
            return TORN;
        }
        return kindOfTag();
    }

    public int validate(int line, int zone, int direction)
            throws IllegalArgumentException, IllegalStateException {
        if (!isUpTo(line, TOP_LINE) || !isUpTo(zone, TOP_ZONE)
                || !isUpTo(direction, TOP_DIRECTION)) {
            throw new IllegalArgumentException("no such line, zone or direction");
        }
        if (!memory.isNear()) {
            throw new IllegalStateException("no dialogue goes on");
        }
        refusal = reasonAtGate();
        if (refusal != NO_REASON) {
            return REFUSED;
        }
        int last = lastRideRecord();
        if (isOpenFor(last, line)) {
            openRecord = NO_RECORD;
            return codeOf(last);
        }
        int answer = takeRide(last, line, zone, direction);
        if (refusal == NO_REASON) {
            openRecord = NO_RECORD;
        }
        return answer;
    }

    public int topUp(int cents) throws IllegalArgumentException, IllegalStateException {
        if (cents < 1 || cents > TOP_WORD) {
            throw new IllegalArgumentException("no such number of cents");
        }
        if (!memory.isNear()) {
            throw new IllegalStateException("no dialogue goes on");
        }
        int value = latestValue();
        refusal = reasonAgainstTopUp(value, cents);
        if (refusal != NO_REASON) {
            return REFUSED;
        }
        draftValue(centsOf(value) + cents, memory.at(value, 2), memory.at(value, 3));
        return memory.writeTwin(VALUES) ? TOPPED_UP : TORN;
    }

    public int reason() {
        return refusal;
    }

    public void tearAfter(int n, int junk) throws IllegalArgumentException {
        if (!isUpTo(n, TOP_TEAR) || !isUpTo(junk, TOP_WORD)) {
            throw new IllegalArgumentException("no such number of words, or no such word");
        }
        memory.planTear(n, junk);
    }

    public boolean away() {
        if (!memory.isNear()) {
            return false;
        }
        memory.goAway();
        return true;
    }

    public int rides() {
        if (kindOfTag() != CARNET) {
            return NO_ANSWER;
        }
        return Math.max(0, parameter(1) - bitsOn());
    }

    public int cents() {
        int value = latestValue();
        return value == NO_RECORD ? NO_ANSWER : centsOf(value);
    }

    public int capLeft(int day) {
        int value = latestValue();
        if (value == NO_RECORD || parameter(1) == 0) {
            return NO_ANSWER;
        }
        return capLeftBy(value, day);
    }

    public int journey(int k, int what) {
        int last = lastRideRecord();
        if (last == NO_RECORD || !isUpTo(k, JOURNEY_PLACES - 1)) {
            return NO_ANSWER;
        }
        int record = journeyRecord((numberOf(last) - k) & TOP_WORD);
        if (record == NO_RECORD) {
            return NO_ANSWER;
        }
        switch (what) {
            case 0: return memory.at(record, 1);
            case 1: return memory.at(record, 2);
            case 2: return lineOf(record);
            case 3: return zoneOf(record);
            case 4: return directionOf(record);
            case 5: return codeOf(record);
            case 6: return gateOf(record);
            case 7: return memory.at(record, 5);
            case 8: return memory.at(record, 6);
            default: return NO_ANSWER;
        }
    }

    public int lastRide(int what) {
        int last = lastRideRecord();
        if (last == NO_RECORD) {
            return NO_ANSWER;
        }
        switch (what) {
            case 0: return memory.at(last, 1);
            case 1: return beganMinuteOf(last);
            case 2: return usedOf(last);
            case 3: return directionOf(last);
            case 4: return lineOf(last);
            case 5: return codeOf(last);
            case 6: return numberOf(last);
            case 7: return isJourneyWanting(last) ? 1 : 0;
            default: return NO_ANSWER;
        }
    }

    public int inspect(int day, int minute, int zone) throws IllegalArgumentException {
        if (!isTime(day, minute) || !isUpTo(zone, TOP_ZONE)) {
            throw new IllegalArgumentException("no such day, minute or zone");
        }
        int kind = kindOfTag();
        if (kind == 0) {
            return NOT_ISSUED;
        }
        if (kind == PASS) {
            return reasonByPass(day, zone);
        }
        int now = day * DAY_MINUTES + minute;
        return beganWithin(lastRideRecord(), now, INSPECTED_MINUTES) ? NO_REASON : NOT_PAID;
    }

    public int word(int b, int w) throws IndexOutOfBoundsException {
        if (!isUpTo(b, Memory.BLOCKS - 1) || !isUpTo(w, Memory.BLOCK_WORDS - 1)) {
            throw new IndexOutOfBoundsException("no such block or word");
        }
        return memory.at(b, w);
    }

    public int count(int what) {
        switch (what) {
            case 0: return memory.wordsWritten();
            case 1: return bitsOn();
            case 2: return memory.timesTorn();
            case 3: return memory.isNear() ? 1 : 0;
            default: return NO_ANSWER;
        }
    }

    private static boolean isUpTo(int number, int top) {
        return number >= 0 && number <= top;
    }

    private static boolean isGate(int gate) {
        return isUpTo(gate, GATE_COUNT - 1);
    }

    private static boolean isTime(int day, int minute) {
        return isUpTo(day, TOP_DAY) && isUpTo(minute, DAY_MINUTES - 1);
    }

    private static boolean isProduct(int kind, int p1, int p2, int p3) {
        if (!isUpTo(p1, TOP_WORD) || !isUpTo(p2, TOP_WORD) || !isUpTo(p3, TOP_WORD)) {
            return false;
        }
        switch (kind) {
            case CARNET: return p1 >= 1 && p1 <= MOST_RIDES && p2 == 0 && p3 == 0;
            case PASS: return p1 >= 1 && p2 <= p3;
            case PURSE: return p3 == 0;
            default: return false;
        }
    }

    private void writeProduct(int kind, int p1, int p2, int p3) {
        memory.write(PRODUCT, 0, kind);
        memory.write(PRODUCT, 1, p1);
        memory.write(PRODUCT, 2, p2);
        memory.write(PRODUCT, 3, p3);
        if (kind == PURSE) {
            draftValue(p2, 0, 0);
            memory.writeTwin(VALUES);
        }
    }

    private int kindOfTag() {
        return memory.at(PRODUCT, 0);
    }

    private int parameter(int p) {
        return memory.at(PRODUCT, p);
    }

    private int bitsOn() {
        int bits = 0;
        for (int w = 0; w < Memory.BLOCK_WORDS; w++) {
            bits += Integer.bitCount(memory.at(ONE_TIME_BITS, w));
        }
        return bits;
    }

    private int now() {
        return clocks[dialogueGate];
    }

    private int reasonAtGate() {
        if (barring[dialogueGate]) {
            return BARRED;
        }
        return kindOfTag() == 0 ? NOT_ISSUED : NO_REASON;
    }

    private int reasonAgainstTopUp(int value, int cents) {
        int atGate = reasonAtGate();
        if (atGate != NO_REASON) {
            return atGate;
        }
        if (value == NO_RECORD) {
            return NO_PURSE;
        }
        return centsOf(value) + cents > TOP_WORD ? TOO_MANY_CENTS : NO_REASON;
    }

    private int reasonByPass(int day, int zone) {
        if (day < parameter(2) || day > parameter(3)) {
            return WRONG_DAY;
        }
        return ((parameter(1) >> zone) & 1) == 0 ? WRONG_ZONE : NO_REASON;
    }

    private int refuse(int why) {
        refusal = why;
        return REFUSED;
    }

    private int takeRide(int last, int line, int zone, int direction) {
        int kind = kindOfTag();
        int place = line + 256 * zone;
        if (kind != PASS && isFreeAfter(last, direction)) {
            return rideFree(last, place, direction);
        }
        switch (kind) {
            case PASS: return rideOnPass(zone, place, direction);
            case CARNET: return rideOnCarnet(place, direction);
            default: return rideOnPurse(fare(line, zone), place, direction);
        }
    }

    private boolean isFreeAfter(int last, int direction) {
        return beganWithin(last, now(), FREE_MINUTES)
                && directionOf(last) == direction && usedOf(last) < FREE_RIDES;
    }

    private int rideFree(int last, int place, int direction) {
        int after = now() - beganAt(last);
        int expects = kindOfTag() == CARNET ? bitsOn() : counterOf(latestValue()) % 256;
        memory.draft(memory.at(last, 1), memory.at(last, 2) + 4096,
                place, manner(direction, FREE_RIDE), after + 256 * expects, 0);
        return memory.writeTwin(TRANSFERS) && writeJourneyOf(newestRide()) ? FREE_RIDE : TORN;
    }

    private int rideOnPass(int zone, int place, int direction) {
        int why = reasonByPass(now() / DAY_MINUTES, zone);
        if (why != NO_REASON) {
            return refuse(why);
        }
        draftNewTransfer(place, manner(direction, PASS_RIDE), 0, 0);
        return memory.writeTwin(TRANSFERS) && writeJourneyOf(newestRide()) ? PASS_RIDE : TORN;
    }

    private int rideOnCarnet(int place, int direction) {
        int bits = bitsOn();
        if (bits >= parameter(1)) {
            return refuse(NOT_PAID);
        }
        draftNewTransfer(place, manner(direction, PAID_RIDE), bits + 1, 0);
        boolean written = memory.writeTwin(TRANSFERS) && writeNextBit()
                && writeJourneyOf(newestRide());
        return written ? PAID_RIDE : TORN;
    }

    private int rideOnPurse(int fare, int place, int direction) {
        int value = latestValue();
        int day = now() / DAY_MINUTES;
        int charge = chargeBy(value, fare, day);
        if (value == NO_RECORD || centsOf(value) < charge) {
            return refuse(NOT_PAID);
        }
        int left = centsOf(value) - charge;
        int charged = Math.min(TOP_WORD, chargedOn(value, day) + charge);
        int expects = (counterOf(value) + 1) % 256;
        draftNewTransfer(place, manner(direction, PAID_RIDE), expects, charge);
        if (!memory.writeTwin(TRANSFERS)) {
            return TORN;
        }
        draftValue(left, day, charged);
        boolean written = memory.writeTwin(VALUES) && writeJourneyOf(newestRide());
        return written ? PAID_RIDE : TORN;
    }

    private static int fare(int line, int zone) {
        return BASE_FARE + ZONE_FARE * zone + LINE_FARE * (line % LINE_CLASSES);
    }

    private int chargeBy(int value, int fare, int day) {
        return parameter(1) == 0 ? fare : Math.min(fare, capLeftBy(value, day));
    }

    private int capLeftBy(int value, int day) {
        return Math.max(0, parameter(1) - chargedOn(value, day));
    }

    private int chargedOn(int value, int day) {
        return memory.at(value, 2) == day ? memory.at(value, 3) : 0;
    }

    private int manner(int direction, int code) {
        return direction + 16 * code + 256 * dialogueGate;
    }

    private void draftNewTransfer(int place, int manner, int expects, int cents) {
        memory.draft(now() / DAY_MINUTES, now() % DAY_MINUTES,
                place, manner, 256 * expects, cents);
    }

    private boolean writeNextBit() {
        for (int bit = 0; bit < BIT_COUNT; bit++) {
            int w = bit / WORD_BITS;
            int mask = 1 << (bit % WORD_BITS);
            if ((memory.at(ONE_TIME_BITS, w) & mask) == 0) {
                return memory.write(ONE_TIME_BITS, w, memory.at(ONE_TIME_BITS, w) | mask);
            }
        }
        return true;
    }

    private void draftValue(int cents, int day, int charged) {
        memory.draft(cents, day, charged, 0, 0, 0);
    }

    /** The ride whose transfer record was just written: no other counter is ahead of its own. */
    private int newestRide() {
        return memory.latestOf(TRANSFERS);
    }

    private boolean writeJourneyOf(int ride) {
        int rodeAt = rodeAt(ride);
        memory.draft((rodeAt / DAY_MINUTES) & TOP_WORD, rodeAt % DAY_MINUTES,
                memory.at(ride, 3), memory.at(ride, 4), memory.at(ride, 6), usedOf(ride));
        return memory.writeDraft(journeyPlace(numberOf(ride)), numberOf(ride));
    }

    private boolean takeBackVoidRide() {
        int latest = memory.latestOf(TRANSFERS);
        return latest == NO_RECORD || !isVoid(latest) || memory.erase(latest);
    }

    private boolean finishLastRide() {
        int last = lastRideRecord();
        if (last == NO_RECORD || !isJourneyWanting(last)) {
            return true;
        }
        openRecord = last;
        return writeJourneyOf(last);
    }

    private boolean isOpenFor(int last, int line) {
        if (last == NO_RECORD || last != openRecord || lineOf(last) != line) {
            return false;
        }
        return isUpTo(now() - rodeAt(last), OPEN_MINUTES);
    }

    private int lastRideRecord() {
        int latest = memory.latestOf(TRANSFERS);
        if (latest == NO_RECORD || !isVoid(latest)) {
            return latest;
        }
        int other = Memory.twinOf(TRANSFERS, latest);
        return memory.isRight(other) ? other : NO_RECORD;
    }

    private boolean isVoid(int ride) {
        if (codeOf(ride) != PAID_RIDE) {
            return false;
        }
        int kind = kindOfTag();
        int expects = memory.at(ride, 5) / 256;
        if (kind == CARNET) {
            return expects > bitsOn();
        }
        int value = kind == PURSE ? memory.latestOf(VALUES) : NO_RECORD;
        return value != NO_RECORD && expects == (counterOf(value) + 1) % 256;
    }

    private int latestValue() {
        return kindOfTag() == PURSE ? memory.latestOf(VALUES) : NO_RECORD;
    }

    private static int journeyPlace(int number) {
        return JOURNEYS + 2 * (number % JOURNEY_PLACES);
    }

    private int journeyRecord(int number) {
        int record = journeyPlace(number);
        return memory.isRight(record) && numberOf(record) == number ? record : NO_RECORD;
    }

    private boolean isJourneyWanting(int ride) {
        return journeyRecord(numberOf(ride)) == NO_RECORD;
    }

    private boolean beganWithin(int ride, int now, int minutes) {
        return ride != NO_RECORD && isUpTo(now - beganAt(ride), minutes);
    }

    private int beganAt(int ride) {
        return memory.at(ride, 1) * DAY_MINUTES + memory.at(ride, 2) % 4096;
    }

    private int rodeAt(int ride) {
        return beganAt(ride) + memory.at(ride, 5) % 256;
    }

    private int beganMinuteOf(int ride) {
        return memory.at(ride, 2) % 4096;
    }

    private int usedOf(int ride) {
        return memory.at(ride, 2) / 4096;
    }

    private int centsOf(int value) {
        return memory.at(value, 1);
    }

    private int counterOf(int twin) {
        return memory.at(twin, 0);
    }

    private int numberOf(int ride) {
        return memory.at(ride, 0);
    }

    private int lineOf(int ride) {
        return memory.at(ride, 3) % 256;
    }

    private int zoneOf(int ride) {
        return memory.at(ride, 3) / 256;
    }

    private int directionOf(int ride) {
        return memory.at(ride, 4) % 16;
    }

    private int codeOf(int ride) {
        return memory.at(ride, 4) / 16 % 16;
    }

    private int gateOf(int ride) {
        return memory.at(ride, 4) / 256;
    }

    /**
     * The words of the tag. Every word is written by write(), so that a tear can come between any
     * two of them; what writes answers false when it was torn, and its caller writes no more.
     */
    private static final class Memory {
        private static final int BLOCKS = 64;
        private static final int BLOCK_WORDS = 4;
        private static final int RECORD_BLOCKS = 2;
        private static final int SUM_WORD = 7;
        private static final int TOP_LEAD = 32767;

        private final int[] words = new int[BLOCKS * BLOCK_WORDS];
        private final int[] draft = new int[SUM_WORD];
        private int written = 0;
        private int tears = 0;
        private boolean near = false;
        private boolean tearing = false;
        private int wordsBeforeTear = 0;
        private int junk = 0;

        private boolean isNear() {
            return near;
        }

        private int wordsWritten() {
            return written;
        }

        private int timesTorn() {
            return tears;
        }

        private void comeNear() {
            near = true;
        }

        private void goAway() {
            near = false;
            tearing = false;
        }

        private void planTear(int n, int junkWord) {
            tearing = true;
            wordsBeforeTear = n;
            junk = junkWord;
        }

        /** Word w from the beginning of a block; a record's words go on into the next block. */
        private int at(int block, int w) {
            int i = block * BLOCK_WORDS + w;
            return i >= 0 && i < words.length ? words[i] : 0;
        }

        private boolean write(int block, int w, int value) {
            int i = block * BLOCK_WORDS + w;
            if (i < 0 || i >= words.length) {
                return true;
            }
            boolean oneTime = i / BLOCK_WORDS == ONE_TIME_BITS;
            written++;
            if (isTearDue()) {
                words[i] = oneTime ? words[i] | (value & junk) : junk;
                tears++;
                goAway();
                return false;
            }
            words[i] = oneTime ? words[i] | value : value;
            return true;
        }

        private boolean isTearDue() {
            // Away from a gate only issue() writes: it neither tears nor uses up what was told.
            if (!tearing || !near) {
                return false;
            }
            wordsBeforeTear--;
            return wordsBeforeTear < 0;
        }

        private boolean erase(int record) {
            for (int w = 0; w <= SUM_WORD; w++) {
                if (!write(record, w, 0)) {
                    return false;
                }
            }
            return true;
        }

        private boolean isRight(int record) {
            int sum = 0;
            for (int w = 0; w < SUM_WORD; w++) {
                sum = addToSum(sum, at(record, w));
            }
            return at(record, SUM_WORD) == TOP_WORD - sum;
        }

        private static int addToSum(int sum, int value) {
            int total = sum + value;
            return total > TOP_WORD ? total - TOP_WORD : total;
        }

        private static int twinOf(int first, int record) {
            return record == first ? first + RECORD_BLOCKS : first;
        }

        private int latestOf(int first) {
            int second = twinOf(first, first);
            if (!isRight(second)) {
                return isRight(first) ? first : NO_RECORD;
            }
            if (!isRight(first)) {
                return second;
            }
            int lead = (at(second, 0) - at(first, 0)) & TOP_WORD;
            return lead >= 1 && lead <= TOP_LEAD ? second : first;
        }

        private void draft(int w1, int w2, int w3, int w4, int w5, int w6) {
            draft[1] = w1;
            draft[2] = w2;
            draft[3] = w3;
            draft[4] = w4;
            draft[5] = w5;
            draft[6] = w6;
        }

        private boolean writeTwin(int first) {
            int latest = latestOf(first);
            if (latest == NO_RECORD) {
                return writeDraft(first, 1);
            }
            return writeDraft(twinOf(first, latest), (at(latest, 0) + 1) & TOP_WORD);
        }

        private boolean writeDraft(int record, int firstWord) {
            draft[0] = firstWord;
            int sum = 0;
            for (int w = 0; w < SUM_WORD; w++) {
                if (!write(record, w, draft[w])) {
                    return false;
                }
                sum = addToSum(sum, draft[w]);
            }
            return write(record, SUM_WORD, TOP_WORD - sum);
        }
    }
}
