/**
 * An array of seven discs with declustered parity: each stripe lies on three discs, so that each
 * two discs meet equally often and the mending of one disc loads all others alike.
 *
 * <p>No index, divisor or reference can make the machine throw here: all numbers stand in rows
 * that test each index themselves, and every divisor is a constant or is tested.
 */
public final class SpreadParity {
    public static final int NONE = -1;

    private static final int DISCS = 7;
    private static final int PLACES = 9;
    private static final int STRIPES = 21;
    private static final int ADDRESSES = 42;
    private static final int STRIPE_UNITS = 3;
    private static final int PARITY = 2;
    private static final int TOP_VALUE = 65535;
    private static final int TOP_STEPS = 9;
    private static final int TOP_SPARES = 5;
    private static final int FIRST_CODE = 33;
    private static final int LAST_CODE = 126;
    private static final long HASH_START = 4184L;

    private final Layout layout = new Layout();
    private final State now = new State();
    private final History history = new History();
    private final OrderText text = new OrderText();

    public SpreadParity() {
    }

    // ---- reading and writing

    public int read(int address) throws IndexOutOfBoundsException, IllegalStateException {
        if (!isAddress(address)) {
            throw new IndexOutOfBoundsException("there is no such address");
        }
        int spot = layout.spotOfAddress(address);
        if (isLost(spot, NONE)) {
            throw new IllegalStateException("the unit is lost");
        }
        history.keep(now);
        return now.hasUnit(spot, NONE) ? now.fetch(spot) : fetchOthers(spot);
    }

    public int write(int address, int value)
            throws IndexOutOfBoundsException, IllegalArgumentException, IllegalStateException {
        if (!isAddress(address)) {
            throw new IndexOutOfBoundsException("there is no such address");
        }
        if (!isValue(value)) {
            throw new IllegalArgumentException("the value is out of range");
        }
        if (!canStore(address)) {
            throw new IllegalStateException("the write is not possible");
        }
        history.keep(now);
        return storeData(address, value);
    }

    // ---- failures and mending

    public int fail(int disc) throws IndexOutOfBoundsException, IllegalStateException {
        if (!isDisc(disc)) {
            throw new IndexOutOfBoundsException("there is no such disc");
        }
        if (!canDrop(disc)) {
            throw new IllegalStateException("the disc is failed already");
        }
        history.keep(now);
        now.dropDisc(disc);
        return countLost(NONE);
    }

    public int beginMending(int disc) throws IndexOutOfBoundsException, IllegalStateException {
        if (!isDisc(disc)) {
            throw new IndexOutOfBoundsException("there is no such disc");
        }
        if (!canReplace(disc)) {
            throw new IllegalStateException("the disc cannot be mended now");
        }
        history.keep(now);
        now.replaceDisc(disc);
        return now.spareDiscs();
    }

    public int mend(int steps) throws IllegalArgumentException {
        if (steps < 1 || steps > TOP_STEPS) {
            throw new IllegalArgumentException("the number of steps is out of range");
        }
        history.keep(now);
        return makeSteps(steps);
    }

    public int addSpare() throws IllegalStateException {
        if (now.spareDiscs() >= TOP_SPARES) {
            throw new IllegalStateException("there is no room for a spare disc");
        }
        history.keep(now);
        now.addSpareDisc();
        return now.spareDiscs();
    }

    public int corrupt(int disc, int place, int value)
            throws IndexOutOfBoundsException, IllegalArgumentException, IllegalStateException {
        if (!isDisc(disc) || !isPlace(place)) {
            throw new IndexOutOfBoundsException("there is no such disc or place");
        }
        if (!isValue(value)) {
            throw new IllegalArgumentException("the value is out of range");
        }
        int spot = Layout.spotAt(disc, place);
        if (!now.hasUnit(spot, NONE)) {
            throw new IllegalStateException("the unit is not there");
        }
        history.keep(now);
        int before = now.valueAt(spot);
        now.setValue(spot, value);
        return before;
    }

    public int scrub() {
        history.keep(now);
        return scrubStripes();
    }

    // ---- queries; they count no reads

    public int state(int disc) throws IndexOutOfBoundsException {
        if (!isDisc(disc)) {
            throw new IndexOutOfBoundsException("there is no such disc");
        }
        return now.progressOf(disc);
    }

    public int member(int stripe, int member) throws IndexOutOfBoundsException {
        if (!isStripe(stripe) || !isWithinStripe(member)) {
            throw new IndexOutOfBoundsException("there is no such stripe or member");
        }
        return Layout.discOfMember(stripe, member);
    }

    public int stripeAt(int disc, int place) throws IndexOutOfBoundsException {
        if (!isDisc(disc) || !isPlace(place)) {
            throw new IndexOutOfBoundsException("there is no such disc or place");
        }
        return layout.stripeOfSpot(Layout.spotAt(disc, place));
    }

    public int place(int stripe, int unit) throws IndexOutOfBoundsException {
        if (!isStripe(stripe) || !isWithinStripe(unit)) {
            throw new IndexOutOfBoundsException("there is no such stripe or unit");
        }
        int spot = layout.spotOf(stripe, unit);
        return 10 * Layout.discOfSpot(spot) + Layout.placeOfSpot(spot);
    }

    public int unit(int disc, int place) throws IndexOutOfBoundsException {
        if (!isDisc(disc) || !isPlace(place)) {
            throw new IndexOutOfBoundsException("there is no such disc or place");
        }
        return visibleValue(Layout.spotAt(disc, place));
    }

    public int peek(int address) throws IndexOutOfBoundsException {
        if (!isAddress(address)) {
            throw new IndexOutOfBoundsException("there is no such address");
        }
        return knownValue(layout.spotOfAddress(address));
    }

    public int lost() {
        return countLost(NONE);
    }

    public int wrong() {
        return countWrong();
    }

    public int spares() {
        return now.spareDiscs();
    }

    public int losses() {
        return now.lossCount();
    }

    public int reads(int disc) throws IndexOutOfBoundsException {
        if (!isDisc(disc)) {
            throw new IndexOutOfBoundsException("there is no such disc");
        }
        return now.readCount(disc);
    }

    public int writes(int disc) throws IndexOutOfBoundsException {
        if (!isDisc(disc)) {
            throw new IndexOutOfBoundsException("there is no such disc");
        }
        return now.writeCount(disc);
    }

    public double balance() {
        int least = now.readCount(0);
        int greatest = least;
        for (int disc = 1; disc < DISCS; disc++) {
            least = Math.min(least, now.readCount(disc));
            greatest = Math.max(greatest, now.readCount(disc));
        }
        return greatest == 0 ? 1.0 : (double) least / (double) greatest;
    }

    // ---- forecasts; they change nothing

    public int lostIfFailed(int disc) throws IndexOutOfBoundsException {
        if (!isDisc(disc)) {
            throw new IndexOutOfBoundsException("there is no such disc");
        }
        return countLost(disc);
    }

    public int loadOf(int disc, int other) throws IndexOutOfBoundsException {
        if (!isDisc(disc) || !isDisc(other)) {
            throw new IndexOutOfBoundsException("there is no such disc");
        }
        return disc == other ? 0 : layout.stripesOnBoth(disc, other);
    }

    public int worst() {
        return findWorst();
    }

    // ---- order text

    public int append(int code) throws IllegalArgumentException, IllegalStateException {
        if (code < FIRST_CODE || code > LAST_CODE) {
            throw new IllegalArgumentException("the character code is out of range");
        }
        if (text.isFull()) {
            throw new IllegalStateException("the buffer is full");
        }
        text.addSign(code);
        return text.signCount();
    }

    public int clearText() {
        int before = text.signCount();
        text.empty();
        return before;
    }

    public int firstError() {
        return text.firstRefused();
    }

    public int run() throws IllegalArgumentException {
        if (!text.isOrderText()) {
            throw new IllegalArgumentException("the buffer is not a complete order text");
        }
        history.keep(now);
        int executed = 0;
        text.rewind();
        while (executed < OrderText.CAPACITY && text.nextOrder() && canObey(text.order())) {
            obey(text.order());
            executed++;
        }
        text.empty();
        return executed;
    }

    // ---- undo

    public int undo() throws IllegalStateException {
        if (history.keptCount() == 0) {
            throw new IllegalStateException("no state is saved");
        }
        history.giveBack(now);
        return history.keptCount();
    }

    public int savedStates() {
        return history.keptCount();
    }

    public long digest() {
        long hash = hashed(HASH_START, countLost(NONE));
        hash = hashed(hash, countWrong());
        hash = hashed(hash, now.spareDiscs());
        hash = hashed(hash, now.lossCount());
        hash = hashed(hash, findWorst());
        hash = hashOfDiscs(hash);
        hash = hashOfAddresses(hash);
        return hashOfUnits(hash);
    }

    // ---- ranges

    private static boolean isDisc(int disc) {
        return disc >= 0 && disc < DISCS;
    }

    private static boolean isPlace(int place) {
        return place >= 0 && place < PLACES;
    }

    private static boolean isStripe(int stripe) {
        return stripe >= 0 && stripe < STRIPES;
    }

    private static boolean isWithinStripe(int number) {
        return number >= 0 && number < STRIPE_UNITS;
    }

    private static boolean isAddress(int address) {
        return address >= 0 && address < ADDRESSES;
    }

    private static boolean isValue(int value) {
        return value >= 0 && value <= TOP_VALUE;
    }

    // ---- what can be found; "without" is a disc that is taken as failed, for a forecast, or NONE

    private boolean canBeFound(int spot, int without) {
        return now.hasUnit(layout.nextInStripe(spot, 1), without)
                && now.hasUnit(layout.nextInStripe(spot, 2), without);
    }

    private boolean isLost(int spot, int without) {
        return !now.hasUnit(spot, without) && !canBeFound(spot, without);
    }

    private int countLost(int without) {
        int count = 0;
        for (int address = 0; address < ADDRESSES; address++) {
            if (isLost(layout.spotOfAddress(address), without)) {
                count++;
            }
        }
        return count;
    }

    private int findWorst() {
        int worst = NONE;
        int most = NONE;
        for (int disc = 0; disc < DISCS; disc++) {
            int count = countLost(disc);
            if (now.progressOf(disc) == State.SOUND && count > most) {
                worst = disc;
                most = count;
            }
        }
        return worst;
    }

    // ---- values

    private int visibleValue(int spot) {
        return now.hasUnit(spot, NONE) ? now.valueAt(spot) : NONE;
    }

    private int knownValue(int spot) {
        if (isLost(spot, NONE)) {
            return NONE;
        }
        return now.hasUnit(spot, NONE) ? now.valueAt(spot) : valueFromOthers(spot);
    }

    private int valueFromOthers(int spot) {
        return now.valueAt(layout.nextInStripe(spot, 1)) ^ now.valueAt(layout.nextInStripe(spot, 2));
    }

    private int fetchOthers(int spot) {
        return now.fetch(layout.nextInStripe(spot, 1)) ^ now.fetch(layout.nextInStripe(spot, 2));
    }

    // A write is possible in just those cases in which the unit is not lost.
    private boolean canStore(int address) {
        return !isLost(layout.spotOfAddress(address), NONE);
    }

    private int storeData(int address, int value) {
        int data = layout.spotOfAddress(address);
        int parity = layout.parityOfAddress(address);
        if (!now.hasUnit(data, NONE)) {
            int other = now.fetch(layout.otherDataOfAddress(address));
            now.store(parity, other ^ value);
            return 2;
        }
        if (!now.hasUnit(parity, NONE)) {
            now.store(data, value);
            return 1;
        }
        int change = now.fetch(data) ^ value;
        int before = now.fetch(parity);
        now.store(data, value);
        now.store(parity, before ^ change);
        return 4;
    }

    // ---- mending

    private boolean canDrop(int disc) {
        return now.progressOf(disc) != NONE;
    }

    private boolean canReplace(int disc) {
        return now.progressOf(disc) == NONE && now.spareDiscs() > 0;
    }

    private int makeSteps(int steps) {
        for (int made = 0; made < steps; made++) {
            int disc = leastBeingMended();
            if (disc == NONE) {
                return made;
            }
            makeStep(disc);
        }
        return steps;
    }

    private int leastBeingMended() {
        for (int disc = 0; disc < DISCS; disc++) {
            int progress = now.progressOf(disc);
            if (progress != NONE && progress != State.SOUND) {
                return disc;
            }
        }
        return NONE;
    }

    private void makeStep(int disc) {
        int spot = Layout.spotAt(disc, now.progressOf(disc));
        if (canBeFound(spot, NONE)) {
            now.store(spot, fetchOthers(spot));
        } else {
            now.addLoss();
        }
        now.advance(disc);
    }

    // ---- scrubbing

    private boolean isWhole(int stripe) {
        int parity = layout.spotOf(stripe, PARITY);
        return now.hasUnit(parity, NONE) && canBeFound(parity, NONE);
    }

    private int countWrong() {
        int count = 0;
        for (int stripe = 0; stripe < STRIPES; stripe++) {
            int parity = layout.spotOf(stripe, PARITY);
            if (isWhole(stripe) && now.valueAt(parity) != valueFromOthers(parity)) {
                count++;
            }
        }
        return count;
    }

    private int scrubStripes() {
        int count = 0;
        for (int stripe = 0; stripe < STRIPES; stripe++) {
            if (isWhole(stripe) && !scrubbedRight(layout.spotOf(stripe, PARITY))) {
                count++;
            }
        }
        return count;
    }

    private boolean scrubbedRight(int parity) {
        int due = fetchOthers(parity);
        if (now.fetch(parity) == due) {
            return true;
        }
        now.store(parity, due);
        return false;
    }

    // ---- orders

    // The reader has let nothing but numbers in their ranges pass, so only what the array's state
    // forbids is left to ask.
    private boolean canObey(OrderReader order) {
        switch (order.orderLetter()) {
            case 'w':
                return canStore(order.orderNumber());
            case 'f':
                return canDrop(order.orderNumber());
            case 'm':
                return canReplace(order.orderNumber());
            default:
                return true;
        }
    }

    private void obey(OrderReader order) {
        switch (order.orderLetter()) {
            case 'w':
                storeData(order.orderNumber(), order.orderValue());
                break;
            case 'f':
                now.dropDisc(order.orderNumber());
                break;
            case 'm':
                now.replaceDisc(order.orderNumber());
                break;
            case 's':
                makeSteps(order.orderNumber());
                break;
            default:
                scrubStripes();
                break;
        }
    }

    // ---- hash

    private static long hashed(long hash, int value) {
        return 31L * hash + value;
    }

    private long hashOfDiscs(long start) {
        long hash = start;
        for (int disc = 0; disc < DISCS; disc++) {
            hash = hashed(hash, now.progressOf(disc));
            hash = hashed(hash, now.readCount(disc));
            hash = hashed(hash, now.writeCount(disc));
            hash = hashed(hash, countLost(disc));
        }
        return hash;
    }

    private long hashOfAddresses(long start) {
        long hash = start;
        for (int address = 0; address < ADDRESSES; address++) {
            hash = hashed(hash, knownValue(layout.spotOfAddress(address)));
        }
        return hash;
    }

    private long hashOfUnits(long start) {
        long hash = start;
        for (int spot = 0; spot < Layout.SPOTS; spot++) {
            hash = hashed(hash, visibleValue(spot));
        }
        return hash;
    }

    /**
     * Numbers in a row. Outside of it stand zeros that nothing changes, so that no index can make
     * the machine throw.
     */
    private static final class Row {
        private final int[] cells;

        Row(int size) {
            cells = new int[Math.max(size, 0)];
        }

        int at(int index) {
            return index >= 0 && index < cells.length ? cells[index] : 0;
        }

        void put(int index, int number) {
            if (index >= 0 && index < cells.length) {
                cells[index] = number;
            }
        }

        void increase(int index) {
            if (index >= 0 && index < cells.length) {
                cells[index]++;
            }
        }
    }

    /**
     * Where the units are. A spot is a unit's number among all units of the array: those of the
     * disc 0 by their places, then those of the disc 1, and so on.
     */
    private static final class Layout {
        private static final int SPOTS = DISCS * PLACES;

        private final Row spots = new Row(STRIPES * STRIPE_UNITS);
        private final Row stripes = new Row(SPOTS);
        private final Row units = new Row(SPOTS);

        Layout() {
            Row used = new Row(DISCS);
            for (int stripe = 0; stripe < STRIPES; stripe++) {
                int data = 0;
                for (int member = 0; member < STRIPE_UNITS; member++) {
                    int disc = discOfMember(stripe, member);
                    int spot = spotAt(disc, used.at(disc));
                    used.increase(disc);
                    boolean isParity = member == stripe / DISCS;
                    lay(spot, stripe, isParity ? PARITY : data);
                    data += isParity ? 0 : 1;
                }
            }
        }

        private void lay(int spot, int stripe, int unit) {
            spots.put(STRIPE_UNITS * stripe + unit, spot);
            stripes.put(spot, stripe);
            units.put(spot, unit);
        }

        // The distances 0, 1 and 3 differ by each of 1 to 6 (modulo 7) just once: hence each two
        // discs meet equally often.
        static int discOfMember(int stripe, int member) {
            return (stripe + (member == 2 ? 3 : member)) % DISCS;
        }

        static int spotAt(int disc, int place) {
            return PLACES * disc + place;
        }

        static int discOfSpot(int spot) {
            return spot / PLACES;
        }

        static int placeOfSpot(int spot) {
            return spot % PLACES;
        }

        int spotOf(int stripe, int unit) {
            return spots.at(STRIPE_UNITS * stripe + unit);
        }

        int spotOfAddress(int address) {
            return spotOf(address / 2, address % 2);
        }

        int otherDataOfAddress(int address) {
            return spotOf(address / 2, 1 - address % 2);
        }

        int parityOfAddress(int address) {
            return spotOf(address / 2, PARITY);
        }

        int stripeOfSpot(int spot) {
            return stripes.at(spot);
        }

        // With the steps 1 and 2, these are the other two units of the stripe.
        int nextInStripe(int spot, int step) {
            int unit = (units.at(spot) + step) % STRIPE_UNITS;
            return spots.at(STRIPE_UNITS * stripes.at(spot) + unit);
        }

        int stripesOnBoth(int disc, int other) {
            int count = 0;
            for (int stripe = 0; stripe < STRIPES; stripe++) {
                if (liesOn(stripe, disc) && liesOn(stripe, other)) {
                    count++;
                }
            }
            return count;
        }

        private static boolean liesOn(int stripe, int disc) {
            for (int member = 0; member < STRIPE_UNITS; member++) {
                if (discOfMember(stripe, member) == disc) {
                    return true;
                }
            }
            return false;
        }
    }

    /**
     * All that undo brings back, in one row, so that saving it is copying a row. A sound disc
     * counts as one whose progress is 9, and a failed one that nobody mends as one whose progress
     * is NONE: then a unit is there if its place is less than the progress, whatever the disc is.
     */
    private static final class State {
        private static final int SOUND = PLACES;

        private static final int PROGRESS = Layout.SPOTS;
        private static final int READS = PROGRESS + DISCS;
        private static final int WRITES = READS + DISCS;
        private static final int SPARES = WRITES + DISCS;
        private static final int LOSSES = SPARES + 1;
        private static final int SIZE = LOSSES + 1;

        private static final int FIRST_SPARES = 2;

        private final Row row = new Row(SIZE);

        State() {
            for (int disc = 0; disc < DISCS; disc++) {
                row.put(PROGRESS + disc, SOUND);
            }
            row.put(SPARES, FIRST_SPARES);
        }

        boolean hasUnit(int spot, int without) {
            int disc = Layout.discOfSpot(spot);
            return disc != without && row.at(PROGRESS + disc) > Layout.placeOfSpot(spot);
        }

        int valueAt(int spot) {
            return row.at(spot);
        }

        void setValue(int spot, int value) {
            row.put(spot, value);
        }

        int fetch(int spot) {
            row.increase(READS + Layout.discOfSpot(spot));
            return row.at(spot);
        }

        void store(int spot, int value) {
            row.increase(WRITES + Layout.discOfSpot(spot));
            row.put(spot, value);
        }

        int progressOf(int disc) {
            return row.at(PROGRESS + disc);
        }

        int readCount(int disc) {
            return row.at(READS + disc);
        }

        int writeCount(int disc) {
            return row.at(WRITES + disc);
        }

        int spareDiscs() {
            return row.at(SPARES);
        }

        int lossCount() {
            return row.at(LOSSES);
        }

        void addSpareDisc() {
            row.increase(SPARES);
        }

        void addLoss() {
            row.increase(LOSSES);
        }

        void dropDisc(int disc) {
            row.put(PROGRESS + disc, NONE);
            for (int place = 0; place < PLACES; place++) {
                setValue(Layout.spotAt(disc, place), 0);
            }
        }

        void replaceDisc(int disc) {
            row.put(SPARES, spareDiscs() - 1);
            row.put(PROGRESS + disc, 0);
        }

        void advance(int disc) {
            row.increase(PROGRESS + disc);
        }

        void copyTo(Row target, int start) {
            for (int i = 0; i < SIZE; i++) {
                target.put(start + i, row.at(i));
            }
        }

        void copyFrom(Row source, int start) {
            for (int i = 0; i < SIZE; i++) {
                row.put(i, source.at(start + i));
            }
        }
    }

    /** The saved states, in a ring whose rows are made once and used again. */
    private static final class History {
        private static final int CAPACITY = 6;

        private final Row kept = new Row(CAPACITY * State.SIZE);
        private int next;
        private int count;

        int keptCount() {
            return count;
        }

        void keep(State state) {
            state.copyTo(kept, next * State.SIZE);
            next = (next + 1) % CAPACITY;
            count = Math.min(count + 1, CAPACITY);
        }

        void giveBack(State state) {
            next = (next + CAPACITY - 1) % CAPACITY;
            count--;
            state.copyFrom(kept, next * State.SIZE);
        }
    }

    /** The buffer, and the way through its orders. */
    private static final class OrderText {
        private static final int CAPACITY = 60;

        private final Row signs = new Row(CAPACITY);
        private final OrderReader reader = new OrderReader();
        private int length;
        private int position;

        boolean isFull() {
            return length >= CAPACITY;
        }

        int signCount() {
            return length;
        }

        void addSign(int code) {
            signs.put(length, code);
            length++;
        }

        void empty() {
            length = 0;
        }

        int firstRefused() {
            reader.restart();
            for (int i = 0; i < length; i++) {
                if (!reader.takes(signs.at(i))) {
                    return i;
                }
            }
            return length;
        }

        boolean isOrderText() {
            return firstRefused() == length && reader.mayEnd();
        }

        void rewind() {
            position = 0;
        }

        boolean nextOrder() {
            if (position >= length) {
                return false;
            }
            reader.restart();
            while (position < length && signs.at(position) != ';') {
                reader.takes(signs.at(position));
                position++;
            }
            position++;
            return true;
        }

        OrderReader order() {
            return reader;
        }
    }

    /**
     * Takes an order text sign by sign, and holds the order that it takes. It refuses a sign as
     * soon as no order text goes on with it, and must be restarted then.
     */
    private static final class OrderReader {
        private static final int LETTER = 0;
        private static final int ADDRESS = 1;
        private static final int VALUE = 2;
        private static final int DISC = 3;
        private static final int STEPS = 4;
        private static final int END = 5;

        private int phase = LETTER;
        private int letter;
        private int number = NONE;
        private int value = NONE;

        void restart() {
            phase = LETTER;
        }

        boolean mayEnd() {
            return phase == END || phase == VALUE && value != NONE;
        }

        int orderLetter() {
            return letter;
        }

        int orderNumber() {
            return number;
        }

        int orderValue() {
            return value;
        }

        boolean takes(int sign) {
            switch (phase) {
                case LETTER:
                    return takesLetter(sign);
                case ADDRESS:
                    return takesInAddress(sign);
                case VALUE:
                    return takesInValue(sign);
                case DISC:
                    number = withDigit(NONE, sign, DISCS - 1);
                    phase = END;
                    return number != NONE;
                case STEPS:
                    number = withDigit(NONE, sign, TOP_STEPS);
                    phase = END;
                    return number > 0;
                default:
                    phase = LETTER;
                    return sign == ';';
            }
        }

        private boolean takesLetter(int sign) {
            letter = sign;
            number = NONE;
            value = NONE;
            switch (sign) {
                case 'w':
                    phase = ADDRESS;
                    return true;
                case 'f':
                case 'm':
                    phase = DISC;
                    return true;
                case 's':
                    phase = STEPS;
                    return true;
                case 'c':
                    phase = END;
                    return true;
                default:
                    return false;
            }
        }

        private boolean takesInAddress(int sign) {
            if (sign == '=' && number != NONE) {
                phase = VALUE;
                return true;
            }
            number = withDigit(number, sign, ADDRESSES - 1);
            return number != NONE;
        }

        private boolean takesInValue(int sign) {
            if (sign == ';' && value != NONE) {
                phase = LETTER;
                return true;
            }
            value = withDigit(value, sign, TOP_VALUE);
            return value != NONE;
        }

        // NONE stands for a number without digits so far, and for one that cannot be.
        private static int withDigit(int before, int sign, int top) {
            if (sign < '0' || sign > '9' || before == 0) {
                return NONE;
            }
            int digit = sign - '0';
            int after = before == NONE ? digit : 10 * before + digit;
            return after <= top ? after : NONE;
        }
    }
}
