/** Two-phase commit with a recovery log: a clerk and four stores that make a transfer all, or none. */
public final class VoteLogs {
    public static final int NONE = -1;

    private static final int STORES = 4;
    private static final int CLERK = 4;
    private static final int SITES = 5;
    private static final int ALL_STORES = 15;
    private static final int ALL_SITES = 31;

    private static final int MOST_TRANSFERS = 8;
    private static final int MOST_SIZE = 50;
    private static final int FIRST_AMOUNT = 100;
    private static final int MOST_AMOUNT = 999;
    private static final int MOST_WAITING = 60;
    private static final int MOST_CHARACTERS = 60;
    private static final int MOST_SAVED = 6;

    /** The clerk writes at most three records for a transfer, a store at most two. */
    private static final int LOG_ROOM = 24;
    /** Each message leads to few others, so a row is empty long before so many deliveries. */
    private static final int WITHOUT_END = 1000000;

    private static final int UNKNOWN = 0;
    private static final int READY = 1;
    private static final int HAS_MADE = 2;
    private static final int HAS_DROPPED = 3;

    private static final int UNDECIDED = 0;
    private static final int TO_MAKE = 1;
    private static final int TO_DROP = 2;

    private static final int RECORD_BEGUN = 0;
    private static final int RECORD_MADE = 1;
    private static final int RECORD_DROPPED = 2;
    private static final int RECORD_ENDED = 3;
    private static final int RECORD_READY = 4;

    private static final int ASKING = 0;
    private static final int YES = 1;
    private static final int NO = 2;
    private static final int MAKE = 3;
    private static final int DROP = 4;
    private static final int HAS_DONE = 5;
    private static final int WHAT_NOW = 6;

    private static final long FIRST_HASH = 4219L;

    private final World now = new World();
    private final World snapshot = new World();
    /** Room to look at what would come, so that no look has to make a world of its own. */
    private final World trial = new World();
    private final World settled = new World();
    private final World[] saved = new World[MOST_SAVED];
    private int savedCount;
    private boolean hasSnapshot;
    private final int[] buffer = new int[MOST_CHARACTERS];
    private int length;
    private final CourseReader reader = new CourseReader();

    public VoteLogs() {
        for (int i = 0; i < MOST_SAVED; i++) {
            saved[i] = new World();
        }
        savedCount = 0;
        hasSnapshot = false;
        length = 0;
    }

    // ---- transfers

    public int begin(int from, int to, int size) throws IndexOutOfBoundsException, IllegalArgumentException, IllegalStateException {
        requireStore(from);
        requireTakers(from, to);
        if (size < 1 || size > MOST_SIZE) {
            throw new IllegalArgumentException("the size is out of range");
        }
        if (!now.canStart()) {
            throw new IllegalStateException("the clerk is down, or 8 transfers were begun");
        }
        save();
        return now.start(from, to, size);
    }

    public int giveUp(int transfer) throws IndexOutOfBoundsException, IllegalStateException {
        requireTransfer(transfer);
        if (!now.canDecide(transfer)) {
            throw new IllegalStateException("the clerk is down, or it is decided");
        }
        save();
        now.decide(transfer, TO_DROP);
        return now.rowLength;
    }

    public int ask(int store, int transfer) throws IndexOutOfBoundsException, IllegalStateException {
        requireStore(store);
        requireTransfer(transfer);
        if (!now.canAskWhatNow(store, transfer)) {
            throw new IllegalStateException("the store is down, or not ready");
        }
        save();
        now.send(WHAT_NOW, transfer, 1 << store);
        return now.rowLength;
    }

    // ---- messages

    public boolean deliver(int place) throws IndexOutOfBoundsException {
        requireMessage(place);
        save();
        return now.deliverFrom(place);
    }

    public int deliverAll() {
        save();
        return now.deliverFirst(WITHOUT_END);
    }

    public int lose(int place) throws IndexOutOfBoundsException {
        requireMessage(place);
        save();
        return now.loseFrom(place);
    }

    // ---- crashes

    public int crash(int site) throws IndexOutOfBoundsException, IllegalStateException {
        requireSite(site);
        if (!now.stands(site)) {
            throw new IllegalStateException("the site is down");
        }
        save();
        now.takeDown(site);
        return Integer.bitCount(now.upSites);
    }

    public int recover(int site) throws IndexOutOfBoundsException, IllegalStateException {
        requireSite(site);
        if (now.stands(site)) {
            throw new IllegalStateException("the site is up");
        }
        save();
        now.bringUp(site);
        return now.rowLength;
    }

    // ---- texts, the snapshot, undo

    public int append(int code) throws IllegalArgumentException, IllegalStateException {
        if (code < 33 || code > 126) {
            throw new IllegalArgumentException("the code is not 33 to 126");
        }
        if (length >= MOST_CHARACTERS) {
            throw new IllegalStateException("the buffer is full");
        }
        buffer[length] = code;
        length++;
        return length;
    }

    public int clearBuffer() {
        int before = length;
        length = 0;
        return before;
    }

    public int firstError() {
        reader.restart();
        for (int i = 0; i < length; i++) {
            if (!reader.accepts(buffer[i])) {
                return i;
            }
        }
        return length;
    }

    public int runCourse() throws IllegalArgumentException {
        if (firstError() < length || !reader.isComplete()) {
            throw new IllegalArgumentException("the buffer is not a complete course");
        }
        save();
        int done = 0;
        reader.restart();
        for (int i = 0; i <= length; i++) {
            if (i == length || buffer[i] == ';') {
                if (!doPart()) {
                    break;
                }
                done++;
            }
            if (i < length) {
                reader.accepts(buffer[i]);
            }
        }
        length = 0;
        return done;
    }

    public int keep() {
        snapshot.copyFrom(now);
        hasSnapshot = true;
        return now.rowLength;
    }

    public int goBack() throws IllegalStateException {
        if (!hasSnapshot) {
            throw new IllegalStateException("there is no snapshot");
        }
        save();
        now.copyFrom(snapshot);
        return now.rowLength;
    }

    public int undo() throws IllegalStateException {
        if (savedCount < 1) {
            throw new IllegalStateException("there is no saved state");
        }
        savedCount--;
        now.copyFrom(saved[savedCount]);
        return savedCount;
    }

    // ---- looks at transfers and stores; nothing is changed

    public int transfers() {
        return now.begun;
    }

    public int partners(int transfer) throws IndexOutOfBoundsException {
        requireTransfer(transfer);
        return now.partnerStores[transfer];
    }

    public int share(int transfer, int store) throws IndexOutOfBoundsException {
        requireTransfer(transfer);
        requireStore(store);
        return now.shareOf(transfer, store);
    }

    public boolean isUp(int site) throws IndexOutOfBoundsException {
        requireSite(site);
        return now.stands(site);
    }

    public int amount(int store) throws IndexOutOfBoundsException {
        requireStore(store);
        return now.amounts[store];
    }

    public int amountByLog(int store) throws IndexOutOfBoundsException {
        requireStore(store);
        int sum = FIRST_AMOUNT;
        for (int place = 0; place < now.logLengths[store]; place++) {
            if (now.kindOfRecord(store, place) == RECORD_MADE) {
                sum += now.shareOf(now.transferOfRecord(store, place), store);
            }
        }
        return sum;
    }

    public int state(int store, int transfer) throws IndexOutOfBoundsException {
        requireStore(store);
        requireTransfer(transfer);
        return now.stateOf(store, transfer);
    }

    public int stateByLog(int store, int transfer) throws IndexOutOfBoundsException {
        requireStore(store);
        requireTransfer(transfer);
        int told = UNKNOWN;
        for (int place = 0; place < now.logLengths[store]; place++) {
            if (now.transferOfRecord(store, place) == transfer) {
                told = stateAfterRecord(now.kindOfRecord(store, place));
            }
        }
        return told;
    }

    public int inDoubt(int store) throws IndexOutOfBoundsException {
        requireStore(store);
        int count = 0;
        for (int transfer = 0; transfer < now.begun; transfer++) {
            if (now.stateOf(store, transfer) == READY) {
                count++;
            }
        }
        return count;
    }

    public int outcome(int transfer) throws IndexOutOfBoundsException {
        requireTransfer(transfer);
        return now.outcomeByLog(transfer);
    }

    public int outcomeByStores(int transfer) throws IndexOutOfBoundsException {
        requireTransfer(transfer);
        int seen = 0;
        for (int store = 0; store < STORES; store++) {
            int state = now.stateOf(store, transfer);
            if (state == HAS_MADE) {
                seen |= 1;
            } else if (state == HAS_DROPPED) {
                seen |= 2;
            }
        }
        return seen;
    }

    public boolean hasEnded(int transfer) throws IndexOutOfBoundsException {
        requireTransfer(transfer);
        return now.isOver(transfer);
    }

    public int saidYes(int transfer) throws IndexOutOfBoundsException {
        requireTransfer(transfer);
        return now.yesStores[transfer];
    }

    public int saidDone(int transfer) throws IndexOutOfBoundsException {
        requireTransfer(transfer);
        return now.doneStores[transfer];
    }

    public int total() {
        int sum = 0;
        for (int store = 0; store < STORES; store++) {
            sum += now.amounts[store];
        }
        return sum;
    }

    public int onTheWay() {
        int sum = 0;
        for (int transfer = 0; transfer < now.begun; transfer++) {
            if (now.decisions[transfer] == TO_MAKE) {
                sum += now.sharesNotMade(transfer);
            }
        }
        return sum;
    }

    // ---- looks at logs and messages; nothing is changed

    public int records(int site) throws IndexOutOfBoundsException {
        requireSite(site);
        return now.logLengths[site];
    }

    public int recordKind(int site, int place) throws IndexOutOfBoundsException {
        requireSite(site);
        requireNotBelowZero(place);
        return place < now.logLengths[site] ? now.kindOfRecord(site, place) : NONE;
    }

    public int recordTransfer(int site, int place) throws IndexOutOfBoundsException {
        requireSite(site);
        requireNotBelowZero(place);
        return place < now.logLengths[site] ? now.transferOfRecord(site, place) : NONE;
    }

    public int waiting() {
        return now.rowLength;
    }

    public int kindOf(int place) throws IndexOutOfBoundsException {
        requireNotBelowZero(place);
        return place < now.rowLength ? kindIn(now.row[place]) : NONE;
    }

    public int transferOf(int place) throws IndexOutOfBoundsException {
        requireNotBelowZero(place);
        return place < now.rowLength ? transferIn(now.row[place]) : NONE;
    }

    public int storeOf(int place) throws IndexOutOfBoundsException {
        requireNotBelowZero(place);
        return place < now.rowLength ? storeIn(now.row[place]) : NONE;
    }

    public int sent() {
        return now.sentCount;
    }

    public int sentByAccount() {
        return now.handledCount + now.lostCount + now.rowLength;
    }

    public int lost() {
        return now.lostCount;
    }

    // ---- what would be; nothing is changed

    public int wouldSend(int place) throws IndexOutOfBoundsException {
        requireMessage(place);
        trial.copyFrom(now);
        if (!trial.deliverFrom(place)) {
            return NONE;
        }
        return trial.sentCount - now.sentCount;
    }

    public int messagesToSettle() {
        return settle();
    }

    public int outcomeIfSettled(int transfer) throws IndexOutOfBoundsException {
        requireTransfer(transfer);
        settle();
        return settled.outcomeByLog(transfer);
    }

    public int amountIfSettled(int store) throws IndexOutOfBoundsException {
        requireStore(store);
        settle();
        return settled.amounts[store];
    }

    public int greatestSize(int from, int to) throws IndexOutOfBoundsException, IllegalArgumentException {
        requireStore(from);
        requireTakers(from, to);
        for (int size = MOST_SIZE; size >= 1; size--) {
            if (now.allWouldTake(from, to, size)) {
                return size;
            }
        }
        return 0;
    }

    public double lostShare() {
        if (now.sentCount == 0) {
            return 0.0;
        }
        return (double) now.lostCount / (double) now.sentCount;
    }

    public float meanSize() {
        if (now.begun == 0) {
            return 0.0f;
        }
        int sum = 0;
        for (int transfer = 0; transfer < now.begun; transfer++) {
            sum += now.sizes[transfer];
        }
        return (float) sum / (float) now.begun;
    }

    public long digest() {
        int toSettle = settle();
        long hash = mix(FIRST_HASH, now.begun);
        for (int transfer = 0; transfer < now.begun; transfer++) {
            hash = mixTransfer(hash, transfer);
        }
        for (int store = 0; store < STORES; store++) {
            hash = mix(hash, amount(store));
            hash = mix(hash, amountByLog(store));
            hash = mix(hash, inDoubt(store));
            hash = mix(hash, settled.amounts[store]);
        }
        for (int site = 0; site < SITES; site++) {
            hash = mixSite(hash, site);
        }
        hash = mix(hash, total());
        hash = mix(hash, onTheWay());
        hash = mixMessages(hash);
        hash = mix(hash, toSettle);
        hash = mix(hash, greatestSize(0, ALL_STORES - 1));
        hash = mix(hash, savedCount);
        hash = mix(hash, bitsOfShare(lostShare()));
        hash = mix(hash, bitsOfMean(meanSize()));
        hash = mix(hash, hasSnapshot ? 1L : 0L);
        hash = mix(hash, length);
        for (int i = 0; i < length; i++) {
            hash = mix(hash, buffer[i]);
        }
        return hash;
    }

    // ---- what the calls share

    private void requireStore(int store) {
        if (store < 0 || store >= STORES) {
            throw new IndexOutOfBoundsException("there is no such store");
        }
    }

    private void requireSite(int site) {
        if (site < 0 || site >= SITES) {
            throw new IndexOutOfBoundsException("there is no such site");
        }
    }

    private void requireTransfer(int transfer) {
        if (!now.knows(transfer)) {
            throw new IndexOutOfBoundsException("there is no such transfer");
        }
    }

    private void requireMessage(int place) {
        if (!now.hasMessage(place)) {
            throw new IndexOutOfBoundsException("there is no such place");
        }
    }

    private void requireNotBelowZero(int place) {
        if (place < 0) {
            throw new IndexOutOfBoundsException("the place is below 0");
        }
    }

    private void requireTakers(int from, int to) {
        if (to < 1 || to > ALL_STORES || (to >> from & 1) == 1) {
            throw new IllegalArgumentException("the takers are not from 1 to 15, or have the giver");
        }
    }

    private void save() {
        if (savedCount >= MOST_SAVED) {
            World oldest = saved[0];
            for (int i = 1; i < MOST_SAVED; i++) {
                saved[i - 1] = saved[i];
            }
            saved[MOST_SAVED - 1] = oldest;
            savedCount = MOST_SAVED - 1;
        }
        saved[savedCount].copyFrom(now);
        savedCount++;
    }

    /** Does the part that the reader has just read; false if the call of it would throw. */
    private boolean doPart() {
        int number = reader.first;
        switch (reader.letter) {
            case 'b':
                if (!now.canStart()) {
                    return false;
                }
                now.start(number, reader.takers, reader.last);
                return true;
            case 'd':
                now.deliverFirst(number);
                return true;
            case 'l':
                if (!now.hasMessage(number)) {
                    return false;
                }
                now.loseFrom(number);
                return true;
            case 'c':
                if (!now.stands(number)) {
                    return false;
                }
                now.takeDown(number);
                return true;
            case 'r':
                if (now.stands(number)) {
                    return false;
                }
                now.bringUp(number);
                return true;
            case 'g':
                if (!now.knows(number) || !now.canDecide(number)) {
                    return false;
                }
                now.decide(number, TO_DROP);
                return true;
            case 'q':
                if (!now.knows(reader.last) || !now.canAskWhatNow(number, reader.last)) {
                    return false;
                }
                now.send(WHAT_NOW, reader.last, 1 << number);
                return true;
            default:
                return false;
        }
    }

    /** Brings the settled world about; tells how many messages it took. */
    private int settle() {
        settled.copyFrom(now);
        if (!settled.stands(CLERK)) {
            settled.bringUp(CLERK);
        }
        for (int store = 0; store < STORES; store++) {
            if (!settled.stands(store)) {
                settled.bringUp(store);
            }
        }
        return settled.deliverFirst(WITHOUT_END);
    }

    private long mixTransfer(long before, int transfer) {
        long hash = mix(before, partners(transfer));
        hash = mix(hash, outcome(transfer));
        hash = mix(hash, outcomeByStores(transfer));
        hash = mix(hash, hasEnded(transfer) ? 1L : 0L);
        hash = mix(hash, saidYes(transfer));
        hash = mix(hash, saidDone(transfer));
        hash = mix(hash, settled.outcomeByLog(transfer));
        for (int store = 0; store < STORES; store++) {
            hash = mix(hash, share(transfer, store));
            hash = mix(hash, state(store, transfer));
            hash = mix(hash, stateByLog(store, transfer));
        }
        return hash;
    }

    private long mixSite(long before, int site) {
        long hash = mix(before, isUp(site) ? 1L : 0L);
        hash = mix(hash, records(site));
        for (int place = 0; place < now.logLengths[site]; place++) {
            hash = mix(hash, recordKind(site, place));
            hash = mix(hash, recordTransfer(site, place));
        }
        return hash;
    }

    private long mixMessages(long before) {
        long hash = mix(before, waiting());
        for (int place = 0; place < now.rowLength; place++) {
            hash = mix(hash, kindOf(place));
            hash = mix(hash, transferOf(place));
            hash = mix(hash, storeOf(place));
            hash = mix(hash, wouldSend(place));
        }
        hash = mix(hash, sent());
        hash = mix(hash, sentByAccount());
        return mix(hash, lost());
    }

    private static long mix(long hash, long value) {
        return 31L * hash + value;
    }

    /** The bits of a share from 0.0 to 1.0, made by hand: the language page lists no call for them. */
    private static long bitsOfShare(double share) {
        if (share <= 0.0) {
            return 0L;
        }
        long exponent = 1023L;
        double lead = share;
        for (int i = 0; i < 1022 && lead < 1.0; i++) {
            lead = lead * 2.0;
            exponent--;
        }
        return (exponent << 52) + (long) ((lead - 1.0) * 4503599627370496.0);
    }

    /** The bits of a mean that is 0.0f or at least 1.0f, made by hand for the same reason. */
    private static int bitsOfMean(float mean) {
        if (mean <= 0.0f) {
            return 0;
        }
        int exponent = 127;
        float lead = mean;
        for (int i = 0; i < 127 && lead >= 2.0f; i++) {
            lead = lead / 2.0f;
            exponent++;
        }
        return (exponent << 23) + (int) ((lead - 1.0f) * 8388608.0f);
    }

    private static int stateAfterRecord(int kind) {
        switch (kind) {
            case RECORD_READY:
                return READY;
            case RECORD_MADE:
                return HAS_MADE;
            case RECORD_DROPPED:
                return HAS_DROPPED;
            default:
                return UNKNOWN;
        }
    }

    private static int shareIn(int giver, int takers, int size, int store) {
        if (store == giver) {
            return -size * Integer.bitCount(takers);
        }
        return (takers >> store & 1) == 1 ? size : 0;
    }

    private static int kindIn(int message) {
        return message >> 5;
    }

    private static int transferIn(int message) {
        return (message >> 2) & 7;
    }

    private static int storeIn(int message) {
        return message & 3;
    }

    private static boolean goesToStore(int kind) {
        return kind == ASKING || kind == MAKE || kind == DROP;
    }

    /** All that undo restores. Its methods are called with stores, sites and transfers that are there. */
    private static final class World {
        int begun;
        final int[] sizes = new int[MOST_TRANSFERS];
        final int[] partnerStores = new int[MOST_TRANSFERS];
        final int[] shares = new int[STORES * MOST_TRANSFERS];

        final int[] decisions = new int[MOST_TRANSFERS];
        final int[] yesStores = new int[MOST_TRANSFERS];
        final int[] doneStores = new int[MOST_TRANSFERS];
        int endedTransfers;

        int upSites;
        final int[] amounts = new int[STORES];
        final int[] states = new int[STORES * MOST_TRANSFERS];

        /** A record is one number of kind and transfer. */
        final int[] logs = new int[SITES * LOG_ROOM];
        final int[] logLengths = new int[SITES];

        /** A message is one number of kind, transfer and store, so that the row is one array. */
        final int[] row = new int[MOST_WAITING];
        int rowLength;
        int sentCount;
        int handledCount;
        int lostCount;

        World() {
            upSites = ALL_SITES;
            for (int store = 0; store < STORES; store++) {
                amounts[store] = FIRST_AMOUNT;
            }
        }

        void copyFrom(World other) {
            begun = other.begun;
            System.arraycopy(other.sizes, 0, sizes, 0, MOST_TRANSFERS);
            System.arraycopy(other.partnerStores, 0, partnerStores, 0, MOST_TRANSFERS);
            System.arraycopy(other.shares, 0, shares, 0, STORES * MOST_TRANSFERS);
            System.arraycopy(other.decisions, 0, decisions, 0, MOST_TRANSFERS);
            System.arraycopy(other.yesStores, 0, yesStores, 0, MOST_TRANSFERS);
            System.arraycopy(other.doneStores, 0, doneStores, 0, MOST_TRANSFERS);
            endedTransfers = other.endedTransfers;
            upSites = other.upSites;
            System.arraycopy(other.amounts, 0, amounts, 0, STORES);
            System.arraycopy(other.states, 0, states, 0, STORES * MOST_TRANSFERS);
            System.arraycopy(other.logs, 0, logs, 0, SITES * LOG_ROOM);
            System.arraycopy(other.logLengths, 0, logLengths, 0, SITES);
            System.arraycopy(other.row, 0, row, 0, MOST_WAITING);
            rowLength = other.rowLength;
            sentCount = other.sentCount;
            handledCount = other.handledCount;
            lostCount = other.lostCount;
        }

        // ---- looks

        boolean knows(int transfer) {
            return transfer >= 0 && transfer < begun;
        }

        boolean hasMessage(int place) {
            return place >= 0 && place < rowLength;
        }

        boolean stands(int site) {
            return (upSites >> site & 1) == 1;
        }

        boolean isOver(int transfer) {
            return (endedTransfers >> transfer & 1) == 1;
        }

        int shareOf(int transfer, int store) {
            return shares[store * MOST_TRANSFERS + transfer];
        }

        int stateOf(int store, int transfer) {
            return states[store * MOST_TRANSFERS + transfer];
        }

        int kindOfRecord(int site, int place) {
            return logs[site * LOG_ROOM + place] >> 3;
        }

        int transferOfRecord(int site, int place) {
            return logs[site * LOG_ROOM + place] & 7;
        }

        int outcomeByLog(int transfer) {
            int told = UNDECIDED;
            for (int place = 0; place < logLengths[CLERK]; place++) {
                int kind = kindOfRecord(CLERK, place);
                if (transferOfRecord(CLERK, place) == transfer && (kind == RECORD_MADE || kind == RECORD_DROPPED)) {
                    told = kind == RECORD_MADE ? TO_MAKE : TO_DROP;
                }
            }
            return told;
        }

        int sharesNotMade(int transfer) {
            int sum = 0;
            for (int store = 0; store < STORES; store++) {
                if (stateOf(store, transfer) != HAS_MADE) {
                    sum += shareOf(transfer, store);
                }
            }
            return sum;
        }

        /** Shares of the other sign are left out, since those transfers may still be dropped. */
        boolean wouldTake(int store, int share) {
            int sum = amounts[store] + share;
            for (int transfer = 0; transfer < begun; transfer++) {
                int other = shareOf(transfer, store);
                boolean sameSign = share < 0 ? other < 0 : other > 0;
                if (sameSign && stateOf(store, transfer) == READY) {
                    sum += other;
                }
            }
            return sum >= 0 && sum <= MOST_AMOUNT;
        }

        boolean allWouldTake(int giver, int takerStores, int size) {
            for (int store = 0; store < STORES; store++) {
                int share = shareIn(giver, takerStores, size, store);
                if (share != 0 && !wouldTake(store, share)) {
                    return false;
                }
            }
            return true;
        }

        boolean canStart() {
            return stands(CLERK) && begun < MOST_TRANSFERS;
        }

        boolean canDecide(int transfer) {
            return stands(CLERK) && decisions[transfer] == UNDECIDED;
        }

        boolean canAskWhatNow(int store, int transfer) {
            return stands(store) && stateOf(store, transfer) == READY;
        }

        // ---- the logs and the row

        void write(int site, int kind, int transfer) {
            int place = logLengths[site];
            if (place < LOG_ROOM) {
                logs[site * LOG_ROOM + place] = (kind << 3) | transfer;
                logLengths[site] = place + 1;
            }
        }

        /** Sends a message for each of the stores, in the order of their numbers. */
        void send(int kind, int transfer, int stores) {
            for (int store = 0; store < STORES; store++) {
                if ((stores >> store & 1) == 1) {
                    sentCount++;
                    if (rowLength < MOST_WAITING) {
                        row[rowLength] = (kind << 5) | (transfer << 2) | store;
                        rowLength++;
                    } else {
                        lostCount++;
                    }
                }
            }
        }

        int takeOut(int place) {
            int message = row[place];
            for (int i = place + 1; i < rowLength; i++) {
                row[i - 1] = row[i];
            }
            rowLength--;
            return message;
        }

        int loseFrom(int place) {
            lostCount++;
            return kindIn(takeOut(place));
        }

        int deliverFirst(int most) {
            int count = 0;
            while (count < most && rowLength > 0) {
                deliverFrom(0);
                count++;
            }
            return count;
        }

        /** Tells whether the message is handled. */
        boolean deliverFrom(int place) {
            int message = takeOut(place);
            int kind = kindIn(message);
            int transfer = transferIn(message);
            int store = storeIn(message);
            if (!stands(goesToStore(kind) ? store : CLERK)) {
                lostCount++;
                return false;
            }
            handledCount++;
            switch (kind) {
                case ASKING:
                    storeHearsAsking(store, transfer);
                    break;
                case YES:
                    clerkHearsYes(store, transfer);
                    break;
                case NO:
                    clerkHearsNo(transfer);
                    break;
                case MAKE:
                    storeHearsMake(store, transfer);
                    break;
                case DROP:
                    storeHearsDrop(store, transfer);
                    break;
                case HAS_DONE:
                    clerkHearsDone(store, transfer);
                    break;
                default:
                    clerkHearsWhatNow(store, transfer);
                    break;
            }
            return true;
        }

        // ---- what the stores do

        /** A store's state follows its log, so both are changed in one place. */
        void storeWrites(int store, int kind, int transfer) {
            write(store, kind, transfer);
            states[store * MOST_TRANSFERS + transfer] = stateAfterRecord(kind);
            if (kind == RECORD_MADE) {
                amounts[store] += shareOf(transfer, store);
            }
        }

        void storeHearsAsking(int store, int transfer) {
            if (stateOf(store, transfer) == UNKNOWN) {
                boolean takes = wouldTake(store, shareOf(transfer, store));
                storeWrites(store, takes ? RECORD_READY : RECORD_DROPPED, transfer);
            }
            send(stateOf(store, transfer) == HAS_DROPPED ? NO : YES, transfer, 1 << store);
        }

        void storeHearsMake(int store, int transfer) {
            if (stateOf(store, transfer) == READY) {
                storeWrites(store, RECORD_MADE, transfer);
            }
            if (stateOf(store, transfer) == HAS_MADE) {
                send(HAS_DONE, transfer, 1 << store);
            }
        }

        void storeHearsDrop(int store, int transfer) {
            int state = stateOf(store, transfer);
            if (state == READY || state == UNKNOWN) {
                storeWrites(store, RECORD_DROPPED, transfer);
            }
            if (stateOf(store, transfer) == HAS_DROPPED) {
                send(HAS_DONE, transfer, 1 << store);
            }
        }

        // ---- what the clerk does

        int start(int giver, int takerStores, int size) {
            int transfer = begun;
            sizes[transfer] = size;
            partnerStores[transfer] = takerStores | 1 << giver;
            for (int store = 0; store < STORES; store++) {
                shares[store * MOST_TRANSFERS + transfer] = shareIn(giver, takerStores, size, store);
            }
            begun++;
            write(CLERK, RECORD_BEGUN, transfer);
            send(ASKING, transfer, partnerStores[transfer]);
            return transfer;
        }

        void decide(int transfer, int decision) {
            decisions[transfer] = decision;
            write(CLERK, decision == TO_MAKE ? RECORD_MADE : RECORD_DROPPED, transfer);
            send(orderFor(transfer), transfer, partnerStores[transfer]);
        }

        int orderFor(int transfer) {
            return decisions[transfer] == TO_MAKE ? MAKE : DROP;
        }

        void clerkHearsYes(int store, int transfer) {
            if (decisions[transfer] == UNDECIDED) {
                yesStores[transfer] |= 1 << store;
                if (yesStores[transfer] == partnerStores[transfer]) {
                    decide(transfer, TO_MAKE);
                }
            }
        }

        void clerkHearsNo(int transfer) {
            if (decisions[transfer] == UNDECIDED) {
                decide(transfer, TO_DROP);
            }
        }

        /** Done is remembered behind the end too: a clerk that crashed may hear it again. */
        void clerkHearsDone(int store, int transfer) {
            doneStores[transfer] |= 1 << store;
            if (doneStores[transfer] == partnerStores[transfer] && !isOver(transfer)) {
                write(CLERK, RECORD_ENDED, transfer);
                endedTransfers |= 1 << transfer;
            }
        }

        void clerkHearsWhatNow(int store, int transfer) {
            if (decisions[transfer] != UNDECIDED) {
                send(orderFor(transfer), transfer, 1 << store);
            }
        }

        // ---- crashes

        void takeDown(int site) {
            upSites &= ~(1 << site);
            if (site == CLERK) {
                for (int transfer = 0; transfer < begun; transfer++) {
                    yesStores[transfer] = 0;
                    doneStores[transfer] = 0;
                }
            }
        }

        void bringUp(int site) {
            upSites |= 1 << site;
            for (int transfer = 0; transfer < begun; transfer++) {
                if (site == CLERK) {
                    clerkTakesUp(transfer);
                } else if (stateOf(site, transfer) == READY) {
                    send(WHAT_NOW, transfer, 1 << site);
                }
            }
        }

        void clerkTakesUp(int transfer) {
            if (decisions[transfer] == UNDECIDED) {
                decide(transfer, TO_DROP);
            } else if (!isOver(transfer)) {
                send(orderFor(transfer), transfer, partnerStores[transfer]);
            }
        }
    }

    /** Reads a course a character at a time; it holds what the part at hand has told so far. */
    private static final class CourseReader {
        private static final int AT_LETTER = 0;
        private static final int AT_FIRST = 1;
        private static final int AT_ARROW = 2;
        private static final int AT_FIRST_TAKER = 3;
        private static final int AT_TAKER = 4;
        private static final int AT_SIZE = 5;
        private static final int IN_SIZE = 6;
        private static final int AT_TRANSFER = 7;
        private static final int AT_END = 8;

        int phase;
        int letter;
        /** The store, site, place, transfer or count that stands behind the letter. */
        int first;
        int takers;
        /** The size behind the colon, or the transfer of which a store asks. */
        int last;

        CourseReader() {
            phase = AT_LETTER;
        }

        void restart() {
            phase = AT_LETTER;
        }

        boolean isComplete() {
            return phase == IN_SIZE || phase == AT_END;
        }

        /** Takes a character, or tells that no course goes on with it. */
        boolean accepts(int code) {
            switch (phase) {
                case AT_LETTER:
                    return acceptsLetter(code);
                case AT_FIRST:
                    return acceptsFirst(code);
                case AT_ARROW:
                    return acceptsSign(code, '>', AT_FIRST_TAKER);
                case AT_FIRST_TAKER:
                    return acceptsTaker(code);
                case AT_TAKER:
                    return acceptsSign(code, ':', AT_SIZE) || acceptsTaker(code);
                case AT_SIZE:
                    return acceptsNumber(code, 1, 9, IN_SIZE);
                case IN_SIZE:
                    return acceptsSign(code, ';', AT_LETTER) || acceptsSecondDigit(code);
                case AT_TRANSFER:
                    return acceptsNumber(code, 0, MOST_TRANSFERS - 1, AT_END);
                default:
                    return acceptsSign(code, ';', AT_LETTER);
            }
        }

        boolean acceptsLetter(int code) {
            switch (code) {
                case 'b':
                case 'd':
                case 'l':
                case 'c':
                case 'r':
                case 'g':
                case 'q':
                    letter = code;
                    takers = 0;
                    phase = AT_FIRST;
                    return true;
                default:
                    return false;
            }
        }

        boolean acceptsFirst(int code) {
            int digit = code - '0';
            if (digit < (letter == 'd' ? 1 : 0) || digit > greatestFirst()) {
                return false;
            }
            first = digit;
            if (letter == 'b') {
                phase = AT_ARROW;
            } else {
                phase = letter == 'q' ? AT_TRANSFER : AT_END;
            }
            return true;
        }

        int greatestFirst() {
            switch (letter) {
                case 'b':
                case 'q':
                    return STORES - 1;
                case 'c':
                case 'r':
                    return SITES - 1;
                case 'g':
                    return MOST_TRANSFERS - 1;
                default:
                    return 9;
            }
        }

        boolean acceptsSign(int code, int sign, int next) {
            if (code != sign) {
                return false;
            }
            phase = next;
            return true;
        }

        boolean acceptsTaker(int code) {
            int store = code - '0';
            if (store < 0 || store >= STORES || store == first || takers >> store != 0) {
                return false;
            }
            takers |= 1 << store;
            phase = AT_TAKER;
            return true;
        }

        boolean acceptsNumber(int code, int least, int most, int next) {
            int digit = code - '0';
            if (digit < least || digit > most) {
                return false;
            }
            last = digit;
            phase = next;
            return true;
        }

        boolean acceptsSecondDigit(int code) {
            int digit = code - '0';
            if (digit < 0 || digit > 9 || last * 10 + digit > MOST_SIZE) {
                return false;
            }
            last = last * 10 + digit;
            phase = AT_END;
            return true;
        }
    }
}
