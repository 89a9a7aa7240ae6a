import java.util.ArrayDeque;
import java.util.ArrayList;
import java.util.Deque;
import java.util.HashSet;
import java.util.List;
import java.util.Set;

/**
 * Long runs of calls, on the class and on a slow model that is written in another way: the model keeps logs and
 * nothing that the logs tell, and copies whole states.
 */
public final class ModelTest {
    private static final int RUNS = 400;
    private static final int MOST_CALLS = 512;

    private static long seed;

    /** Always the same numbers, so that a run that fails can be run again. */
    private static int pick(int bound) {
        seed = seed * 6364136223846793005L + 1442695040888963407L;
        return (int) ((seed >>> 33) % bound);
    }

    // ---- the model

    private static final class State {
        final List<int[]> transfers = new ArrayList<>();
        final boolean[] up = {true, true, true, true, true};
        final List<List<int[]>> logs = new ArrayList<>();
        final List<int[]> row = new ArrayList<>();
        final boolean[][] yes = new boolean[8][4];
        final boolean[][] done = new boolean[8][4];
        int sent;
        int handled;
        int lost;

        State() {
            for (int site = 0; site < 5; site++) {
                logs.add(new ArrayList<>());
            }
        }

        State copy() {
            State other = new State();
            other.transfers.addAll(transfers);
            other.row.addAll(row);
            for (int site = 0; site < 5; site++) {
                other.up[site] = up[site];
                other.logs.get(site).addAll(logs.get(site));
            }
            for (int transfer = 0; transfer < 8; transfer++) {
                for (int store = 0; store < 4; store++) {
                    other.yes[transfer][store] = yes[transfer][store];
                    other.done[transfer][store] = done[transfer][store];
                }
            }
            other.sent = sent;
            other.handled = handled;
            other.lost = lost;
            return other;
        }

        void needStore(int store) {
            if (store < 0 || store > 3) {
                throw new IndexOutOfBoundsException();
            }
        }

        void needSite(int site) {
            if (site < 0 || site > 4) {
                throw new IndexOutOfBoundsException();
            }
        }

        void needTransfer(int transfer) {
            if (transfer < 0 || transfer >= transfers.size()) {
                throw new IndexOutOfBoundsException();
            }
        }

        void needTakers(int from, int to) {
            boolean wide = to < 1 || to > 15;
            if (wide || (from == 0 && to % 2 == 1) || (from == 1 && to / 2 % 2 == 1)
                    || (from == 2 && to / 4 % 2 == 1) || (from == 3 && to / 8 == 1)) {
                throw new IllegalArgumentException();
            }
        }

        int share(int[] transfer, int store) {
            int takers = 0;
            int power = 1;
            boolean takes = false;
            for (int s = 0; s < 4; s++) {
                if (transfer[1] / power % 2 == 1) {
                    takers++;
                    takes |= s == store;
                }
                power *= 2;
            }
            return store == transfer[0] ? -takers * transfer[2] : takes ? transfer[2] : 0;
        }

        int share(int transfer, int store) {
            return share(transfers.get(transfer), store);
        }

        boolean has(int site, int kind, int transfer) {
            for (int[] record : logs.get(site)) {
                if (record[0] == kind && record[1] == transfer) {
                    return true;
                }
            }
            return false;
        }

        int state(int store, int transfer) {
            return has(store, 1, transfer) ? 2 : has(store, 2, transfer) ? 3 : has(store, 4, transfer) ? 1 : 0;
        }

        int outcome(int transfer) {
            return has(4, 1, transfer) ? 1 : has(4, 2, transfer) ? 2 : 0;
        }

        int amount(int store) {
            int amount = 100;
            for (int transfer = 0; transfer < transfers.size(); transfer++) {
                amount += state(store, transfer) == 2 ? share(transfer, store) : 0;
            }
            return amount;
        }

        boolean wouldTake(int store, int share) {
            int sum = amount(store) + share;
            for (int transfer = 0; transfer < transfers.size(); transfer++) {
                if (state(store, transfer) == 1 && Integer.signum(share(transfer, store)) == Integer.signum(share)) {
                    sum += share(transfer, store);
                }
            }
            return 0 <= sum && sum <= 999;
        }

        void write(int site, int kind, int transfer) {
            logs.get(site).add(new int[] {kind, transfer});
        }

        void send(int kind, int transfer, int store) {
            sent++;
            if (row.size() == 60) {
                lost++;
            } else {
                row.add(new int[] {kind, transfer, store});
            }
        }

        void sendAll(int kind, int transfer) {
            for (int store = 0; store < 4; store++) {
                if (share(transfer, store) != 0) {
                    send(kind, transfer, store);
                }
            }
        }

        boolean all(boolean[] said, int transfer) {
            for (int store = 0; store < 4; store++) {
                if (share(transfer, store) != 0 && !said[store]) {
                    return false;
                }
            }
            return true;
        }

        int begin(int from, int to, int size) {
            needStore(from);
            needTakers(from, to);
            if (size < 1 || size > 50) {
                throw new IllegalArgumentException();
            }
            if (!up[4] || transfers.size() == 8) {
                throw new IllegalStateException();
            }
            int number = transfers.size();
            transfers.add(new int[] {from, to, size});
            write(4, 0, number);
            sendAll(0, number);
            return number;
        }

        void decide(int transfer, int decision) {
            write(4, decision, transfer);
            sendAll(decision == 1 ? 3 : 4, transfer);
        }

        int giveUp(int transfer) {
            needTransfer(transfer);
            if (!up[4] || outcome(transfer) != 0) {
                throw new IllegalStateException();
            }
            decide(transfer, 2);
            return row.size();
        }

        int ask(int store, int transfer) {
            needStore(store);
            needTransfer(transfer);
            if (!up[store] || state(store, transfer) != 1) {
                throw new IllegalStateException();
            }
            send(6, transfer, store);
            return row.size();
        }

        void needMessage(int place) {
            if (place < 0 || place >= row.size()) {
                throw new IndexOutOfBoundsException();
            }
        }

        boolean deliver(int place) {
            needMessage(place);
            int[] message = row.remove(place);
            boolean toStore = message[0] == 0 || message[0] == 3 || message[0] == 4;
            if (!up[toStore ? message[2] : 4]) {
                lost++;
                return false;
            }
            handled++;
            if (toStore) {
                storeHandles(message[0], message[1], message[2]);
            } else {
                clerkHandles(message[0], message[1], message[2]);
            }
            return true;
        }

        void storeHandles(int kind, int transfer, int store) {
            if (kind == 0) {
                if (state(store, transfer) == 0) {
                    write(store, wouldTake(store, share(transfer, store)) ? 4 : 2, transfer);
                }
                send(state(store, transfer) == 3 ? 2 : 1, transfer, store);
            } else if (kind == 3) {
                if (state(store, transfer) == 1) {
                    write(store, 1, transfer);
                }
                send(5, transfer, store);
            } else {
                if (state(store, transfer) < 2) {
                    write(store, 2, transfer);
                }
                send(5, transfer, store);
            }
        }

        void clerkHandles(int kind, int transfer, int store) {
            int outcome = outcome(transfer);
            if (kind == 5) {
                done[transfer][store] = true;
                if (all(done[transfer], transfer) && !has(4, 3, transfer)) {
                    write(4, 3, transfer);
                }
            } else if (kind == 6) {
                if (outcome != 0) {
                    send(outcome == 1 ? 3 : 4, transfer, store);
                }
            } else if (outcome == 0 && kind == 2) {
                decide(transfer, 2);
            } else if (outcome == 0) {
                yes[transfer][store] = true;
                if (all(yes[transfer], transfer)) {
                    decide(transfer, 1);
                }
            }
        }

        int deliverSome(int most) {
            int count = 0;
            while (count < most && !row.isEmpty()) {
                deliver(0);
                count++;
            }
            return count;
        }

        int lose(int place) {
            needMessage(place);
            lost++;
            return row.remove(place)[0];
        }

        int crash(int site) {
            needSite(site);
            if (!up[site]) {
                throw new IllegalStateException();
            }
            up[site] = false;
            for (int transfer = 0; site == 4 && transfer < 8; transfer++) {
                yes[transfer] = new boolean[4];
                done[transfer] = new boolean[4];
            }
            int count = 0;
            for (boolean one : up) {
                count += one ? 1 : 0;
            }
            return count;
        }

        int recover(int site) {
            needSite(site);
            if (up[site]) {
                throw new IllegalStateException();
            }
            up[site] = true;
            for (int transfer = 0; transfer < transfers.size(); transfer++) {
                if (site < 4 && state(site, transfer) == 1) {
                    send(6, transfer, site);
                } else if (site == 4 && outcome(transfer) == 0) {
                    decide(transfer, 2);
                } else if (site == 4 && !has(4, 3, transfer)) {
                    sendAll(outcome(transfer) + 2, transfer);
                }
            }
            return row.size();
        }

        State settled() {
            State then = copy();
            for (int site : new int[] {4, 0, 1, 2, 3}) {
                if (!then.up[site]) {
                    then.recover(site);
                }
            }
            return then;
        }
    }

    private static final class Model {
        static final Set<String> PARTS = new HashSet<>();
        static final Set<String> BEGINNINGS = new HashSet<>();

        State now = new State();
        State kept;
        final Deque<State> saved = new ArrayDeque<>();
        String buffer = "";

        static {
            for (int i = 0; i < 10; i++) {
                PARTS.add("l" + i);
                if (i > 0) {
                    PARTS.add("d" + i);
                }
                if (i < 5) {
                    PARTS.add("c" + i);
                    PARTS.add("r" + i);
                }
                if (i < 8) {
                    PARTS.add("g" + i);
                    for (int store = 0; store < 4; store++) {
                        PARTS.add("q" + store + i);
                    }
                }
            }
            for (int from = 0; from < 4; from++) {
                for (int to = 1; to < 16; to++) {
                    String takers = takers(to);
                    for (int size = 1; takers.indexOf('0' + from) < 0 && size <= 50; size++) {
                        PARTS.add("b" + from + ">" + takers + ":" + size);
                    }
                }
            }
            for (String part : PARTS) {
                for (int i = 0; i <= part.length(); i++) {
                    BEGINNINGS.add(part.substring(0, i));
                }
            }
        }

        static String takers(int mask) {
            return (mask % 2 == 1 ? "0" : "") + (mask / 2 % 2 == 1 ? "1" : "") + (mask / 4 % 2 == 1 ? "2" : "") + (mask / 8 % 2 == 1 ? "3" : "");
        }

        static boolean isBeginning(String text) {
            String[] parts = text.split(";", -1);
            for (int i = 0; i < parts.length - 1; i++) {
                if (!PARTS.contains(parts[i])) {
                    return false;
                }
            }
            return BEGINNINGS.contains(parts[parts.length - 1]);
        }

        static boolean isCourse(String text) {
            for (String part : text.split(";", -1)) {
                if (!PARTS.contains(part)) {
                    return false;
                }
            }
            return true;
        }

        int firstError() {
            int count = 0;
            while (count < buffer.length() && isBeginning(buffer.substring(0, count + 1))) {
                count++;
            }
            return count;
        }

        void save(State before) {
            saved.addLast(before);
            if (saved.size() > 6) {
                saved.removeFirst();
            }
        }

        int append(int code) {
            if (code < 33 || code > 126) {
                throw new IllegalArgumentException();
            }
            if (buffer.length() == 60) {
                throw new IllegalStateException();
            }
            buffer += (char) code;
            return buffer.length();
        }

        int clearBuffer() {
            int before = buffer.length();
            buffer = "";
            return before;
        }

        int runCourse() {
            if (!isCourse(buffer)) {
                throw new IllegalArgumentException();
            }
            int count = 0;
            for (String part : buffer.split(";", -1)) {
                try {
                    doPart(part);
                } catch (IndexOutOfBoundsException | IllegalStateException e) {
                    break;
                }
                count++;
            }
            buffer = "";
            return count;
        }

        void doPart(String part) {
            int first = part.charAt(1) - '0';
            switch (part.charAt(0)) {
                case 'b' -> {
                    int to = 0;
                    for (int i = 3; part.charAt(i) != ':'; i++) {
                        to += new int[] {1, 2, 4, 8}[part.charAt(i) - '0'];
                    }
                    now.begin(first, to, Integer.parseInt(part.substring(part.indexOf(':') + 1)));
                }
                case 'd' -> now.deliverSome(first);
                case 'l' -> now.lose(first);
                case 'c' -> now.crash(first);
                case 'r' -> now.recover(first);
                case 'g' -> now.giveUp(first);
                default -> now.ask(first, part.charAt(2) - '0');
            }
        }

        int goBack() {
            if (kept == null) {
                throw new IllegalStateException();
            }
            now = kept.copy();
            return now.row.size();
        }

        int undo() {
            if (saved.isEmpty()) {
                throw new IllegalStateException();
            }
            now = saved.removeLast();
            return saved.size();
        }

        int outcomeByStores(int transfer) {
            boolean made = false;
            boolean dropped = false;
            for (int store = 0; store < 4; store++) {
                made |= now.state(store, transfer) == 2;
                dropped |= now.state(store, transfer) == 3;
            }
            return made ? dropped ? 3 : 1 : dropped ? 2 : 0;
        }

        int mask(boolean[] stores) {
            return (stores[0] ? 1 : 0) + (stores[1] ? 2 : 0) + (stores[2] ? 4 : 0) + (stores[3] ? 8 : 0);
        }

        int inDoubt(int store) {
            int count = 0;
            for (int transfer = 0; transfer < now.transfers.size(); transfer++) {
                count += now.state(store, transfer) == 1 ? 1 : 0;
            }
            return count;
        }

        int total() {
            return now.amount(0) + now.amount(1) + now.amount(2) + now.amount(3);
        }

        int wouldSend(int place) {
            now.needMessage(place);
            State then = now.copy();
            return then.deliver(place) ? then.sent - now.sent : -1;
        }

        int greatestSize(int from, int to) {
            now.needStore(from);
            now.needTakers(from, to);
            int greatest = 0;
            for (int size = 1; size <= 50; size++) {
                boolean all = true;
                for (int store = 0; store < 4; store++) {
                    int share = now.share(new int[] {from, to, size}, store);
                    all &= share == 0 || now.wouldTake(store, share);
                }
                greatest = all ? size : greatest;
            }
            return greatest;
        }

        double lostShare() {
            return now.sent == 0 ? 0.0 : (double) now.lost / now.sent;
        }

        float meanSize() {
            int sum = 0;
            for (int[] transfer : now.transfers) {
                sum += transfer[2];
            }
            return now.transfers.isEmpty() ? 0.0f : (float) sum / now.transfers.size();
        }

        int record(int site, int place, int column) {
            now.needSite(site);
            if (place < 0) {
                throw new IndexOutOfBoundsException();
            }
            return place < now.logs.get(site).size() ? now.logs.get(site).get(place)[column] : -1;
        }

        int message(int place, int column) {
            if (place < 0) {
                throw new IndexOutOfBoundsException();
            }
            return place < now.row.size() ? now.row.get(place)[column] : -1;
        }

        long digest() {
            List<Long> values = new ArrayList<>();
            State then = now.settled();
            long toSettle = then.deliverSome(Integer.MAX_VALUE);
            values.add((long) now.transfers.size());
            for (int transfer = 0; transfer < now.transfers.size(); transfer++) {
                boolean[] partners = new boolean[4];
                for (int store = 0; store < 4; store++) {
                    partners[store] = now.share(transfer, store) != 0;
                }
                values.add((long) mask(partners));
                values.add((long) now.outcome(transfer));
                values.add((long) outcomeByStores(transfer));
                values.add(now.has(4, 3, transfer) ? 1L : 0L);
                values.add((long) mask(now.yes[transfer]));
                values.add((long) mask(now.done[transfer]));
                values.add((long) then.outcome(transfer));
                for (int store = 0; store < 4; store++) {
                    values.add((long) now.share(transfer, store));
                    values.add((long) now.state(store, transfer));
                    values.add((long) now.state(store, transfer));
                }
            }
            for (int store = 0; store < 4; store++) {
                values.add((long) now.amount(store));
                values.add((long) now.amount(store));
                values.add((long) inDoubt(store));
                values.add((long) then.amount(store));
            }
            for (int site = 0; site < 5; site++) {
                values.add(now.up[site] ? 1L : 0L);
                values.add((long) now.logs.get(site).size());
                for (int[] record : now.logs.get(site)) {
                    values.add((long) record[0]);
                    values.add((long) record[1]);
                }
            }
            values.add((long) total());
            values.add(400L - total());
            values.add((long) now.row.size());
            for (int place = 0; place < now.row.size(); place++) {
                values.add((long) now.row.get(place)[0]);
                values.add((long) now.row.get(place)[1]);
                values.add((long) now.row.get(place)[2]);
                values.add((long) wouldSend(place));
            }
            values.add((long) now.sent);
            values.add((long) now.sent);
            values.add((long) now.lost);
            values.add(toSettle);
            values.add((long) greatestSize(0, 14));
            values.add((long) saved.size());
            values.add(Double.doubleToLongBits(lostShare()));
            values.add((long) Float.floatToIntBits(meanSize()));
            values.add(kept == null ? 0L : 1L);
            values.add((long) buffer.length());
            for (char sign : buffer.toCharArray()) {
                values.add((long) sign);
            }
            long hash = 4219;
            for (long value : values) {
                hash = 31 * hash + value;
            }
            return hash;
        }
    }

    // ---- one call on both

    private static final String[] UNDOABLE = {"begin", "giveUp", "ask", "deliver", "deliverAll", "lose", "crash", "recover", "runCourse", "goBack"};

    private static final String[] LOOKS = {"transfers", "partners", "share", "isUp", "amount", "amountByLog", "state", "stateByLog", "inDoubt",
        "outcome", "outcomeByStores", "hasEnded", "saidYes", "saidDone", "total", "onTheWay", "records", "recordKind", "recordTransfer",
        "waiting", "kindOf", "transferOf", "storeOf", "sent", "sentByAccount", "lost", "wouldSend", "messagesToSettle", "outcomeIfSettled",
        "amountIfSettled", "greatestSize", "lostShare", "meanSize", "digest", "firstError"};

    private static Object onClass(VoteLogs x, String name, int a, int b, int c) {
        return switch (name) {
            case "begin" -> x.begin(a, b, c);
            case "giveUp" -> x.giveUp(a);
            case "ask" -> x.ask(a, b);
            case "deliver" -> x.deliver(a);
            case "deliverAll" -> x.deliverAll();
            case "lose" -> x.lose(a);
            case "crash" -> x.crash(a);
            case "recover" -> x.recover(a);
            case "append" -> x.append(a);
            case "clearBuffer" -> x.clearBuffer();
            case "firstError" -> x.firstError();
            case "runCourse" -> x.runCourse();
            case "keep" -> x.keep();
            case "goBack" -> x.goBack();
            case "undo" -> x.undo();
            case "transfers" -> x.transfers();
            case "partners" -> x.partners(a);
            case "share" -> x.share(a, b);
            case "isUp" -> x.isUp(a);
            case "amount" -> x.amount(a);
            case "amountByLog" -> x.amountByLog(a);
            case "state" -> x.state(a, b);
            case "stateByLog" -> x.stateByLog(a, b);
            case "inDoubt" -> x.inDoubt(a);
            case "outcome" -> x.outcome(a);
            case "outcomeByStores" -> x.outcomeByStores(a);
            case "hasEnded" -> x.hasEnded(a);
            case "saidYes" -> x.saidYes(a);
            case "saidDone" -> x.saidDone(a);
            case "total" -> x.total();
            case "onTheWay" -> x.onTheWay();
            case "records" -> x.records(a);
            case "recordKind" -> x.recordKind(a, b);
            case "recordTransfer" -> x.recordTransfer(a, b);
            case "waiting" -> x.waiting();
            case "kindOf" -> x.kindOf(a);
            case "transferOf" -> x.transferOf(a);
            case "storeOf" -> x.storeOf(a);
            case "sent" -> x.sent();
            case "sentByAccount" -> x.sentByAccount();
            case "lost" -> x.lost();
            case "wouldSend" -> x.wouldSend(a);
            case "messagesToSettle" -> x.messagesToSettle();
            case "outcomeIfSettled" -> x.outcomeIfSettled(a);
            case "amountIfSettled" -> x.amountIfSettled(a);
            case "greatestSize" -> x.greatestSize(a, b);
            case "lostShare" -> x.lostShare();
            case "meanSize" -> x.meanSize();
            case "digest" -> x.digest();
            default -> throw new UnsupportedOperationException(name);
        };
    }

    private static Object onModel(Model m, String name, int a, int b, int c) {
        boolean undoable = List.of(UNDOABLE).contains(name);
        State before = undoable ? m.now.copy() : null;
        Object answer = change(m, name, a, b, c);
        if (undoable) {
            m.save(before);
        }
        return answer;
    }

    private static Object change(Model m, String name, int a, int b, int c) {
        switch (name) {
            case "begin": return m.now.begin(a, b, c);
            case "giveUp": return m.now.giveUp(a);
            case "ask": return m.now.ask(a, b);
            case "deliver": return m.now.deliver(a);
            case "deliverAll": return m.now.deliverSome(Integer.MAX_VALUE);
            case "lose": return m.now.lose(a);
            case "crash": return m.now.crash(a);
            case "recover": return m.now.recover(a);
            case "append": return m.append(a);
            case "clearBuffer": return m.clearBuffer();
            case "firstError": return m.firstError();
            case "runCourse": return m.runCourse();
            case "keep":
                m.kept = m.now.copy();
                return m.now.row.size();
            case "goBack": return m.goBack();
            case "undo": return m.undo();
            default: return look(m, name, a, b);
        }
    }

    private static Object look(Model m, String name, int a, int b) {
        switch (name) {
            case "partners": case "outcome": case "outcomeByStores": case "hasEnded": case "saidYes": case "saidDone": case "outcomeIfSettled":
                m.now.needTransfer(a);
                break;
            case "share":
                m.now.needTransfer(a);
                m.now.needStore(b);
                break;
            case "state": case "stateByLog":
                m.now.needStore(a);
                m.now.needTransfer(b);
                break;
            case "amount": case "amountByLog": case "inDoubt": case "amountIfSettled":
                m.now.needStore(a);
                break;
            case "isUp": case "records":
                m.now.needSite(a);
                break;
            default:
                break;
        }
        return answer(m, name, a, b);
    }

    private static Object answer(Model m, String name, int a, int b) {
        return switch (name) {
            case "transfers" -> m.now.transfers.size();
            case "partners" -> (1 << m.now.transfers.get(a)[0]) + m.now.transfers.get(a)[1];
            case "share" -> m.now.share(a, b);
            case "isUp" -> m.now.up[a];
            case "amount", "amountByLog" -> m.now.amount(a);
            case "state", "stateByLog" -> m.now.state(a, b);
            case "inDoubt" -> m.inDoubt(a);
            case "outcome" -> m.now.outcome(a);
            case "outcomeByStores" -> m.outcomeByStores(a);
            case "hasEnded" -> m.now.has(4, 3, a);
            case "saidYes" -> m.mask(m.now.yes[a]);
            case "saidDone" -> m.mask(m.now.done[a]);
            case "total" -> m.total();
            case "onTheWay" -> 400 - m.total();
            case "records" -> m.now.logs.get(a).size();
            case "recordKind" -> m.record(a, b, 0);
            case "recordTransfer" -> m.record(a, b, 1);
            case "waiting" -> m.now.row.size();
            case "kindOf" -> m.message(a, 0);
            case "transferOf" -> m.message(a, 1);
            case "storeOf" -> m.message(a, 2);
            case "sent" -> m.now.sent;
            case "sentByAccount" -> m.now.handled + m.now.lost + m.now.row.size();
            case "lost" -> m.now.lost;
            case "wouldSend" -> m.wouldSend(a);
            case "messagesToSettle" -> m.now.settled().deliverSome(Integer.MAX_VALUE);
            case "outcomeIfSettled" -> settledWhole(m).outcome(a);
            case "amountIfSettled" -> settledWhole(m).amount(a);
            case "greatestSize" -> m.greatestSize(a, b);
            case "lostShare" -> m.lostShare();
            case "meanSize" -> m.meanSize();
            case "digest" -> m.digest();
            default -> throw new UnsupportedOperationException(name);
        };
    }

    private static State settledWhole(Model m) {
        State then = m.now.settled();
        then.deliverSome(Integer.MAX_VALUE);
        return then;
    }

    private static boolean both(VoteLogs x, Model m, List<String> told, String name, int... with) {
        int a = with.length > 0 ? with[0] : 0;
        int b = with.length > 1 ? with[1] : 0;
        int c = with.length > 2 ? with[2] : 0;
        Object got;
        Object due;
        try {
            got = onClass(x, name, a, b, c);
        } catch (RuntimeException e) {
            got = "throws." + e.getClass().getSimpleName();
        }
        try {
            due = onModel(m, name, a, b, c);
        } catch (IndexOutOfBoundsException | IllegalArgumentException | IllegalStateException e) {
            due = "throws." + e.getClass().getSimpleName();
        }
        told.add(name + "(" + a + ", " + b + ", " + c + ") answered " + got);
        if (got.equals(due)) {
            return true;
        }
        System.out.println(String.join("\n", told) + "\ndue is " + due);
        return false;
    }

    // ---- the runs

    /** What a run does often, so that rows run full in some runs and empty in others. */
    private static final String[][] HABITS = {
        {"begin", "deliver", "deliver", "deliver", "deliver", "lose", "crash", "recover", "recover", "giveUp", "ask", "ask"},
        {"begin", "deliver", "deliver", "deliverAll", "crash", "recover", "text", "keep", "goBack", "undo"},
        {"begin", "begin", "crashClerk", "recoverClerk", "deliver", "ask", "ask", "ask", "ask"},
        {"begin", "deliver", "deliver", "deliver", "deliver", "deliver", "deliver", "deliver", "deliver", "ask"},
        {"text", "text", "text", "append", "undo", "firstError", "clearBuffer", "deliver"},
        {"undo", "goBack", "keep", "begin", "deliver", "lose", "crash", "recover", "giveUp", "deliverAll", "ask", "append", "firstError", "runCourse"},
        {"begin", "begin", "begin", "deliver", "deliver", "deliver", "deliver", "deliver", "crashClerk", "recoverClerk", "recoverClerk"},
    };

    private static final int[] FAR = {-1, -7, 32, 33, 64, 256, Integer.MIN_VALUE, Integer.MAX_VALUE};

    private static final class Run {
        final VoteLogs x = new VoteLogs();
        final Model m = new Model();
        final List<String> told = new ArrayList<>();
        final String[] habit = HABITS[pick(HABITS.length)];
        /** A place in the row is often the first one in some runs, and any in others. */
        final boolean inOrder = pick(2) == 0;

        /** A number from 0 to most, seldom one that is past it. */
        int near(int most) {
            int kind = pick(40);
            return kind == 0 ? FAR[pick(FAR.length)] : kind == 1 ? most + 1 : pick(most + 1);
        }

        int place() {
            return inOrder && pick(4) > 0 ? 0 : near(Math.max(0, m.now.row.size() - 1));
        }

        int transfer() {
            return near(Math.max(0, m.now.transfers.size() - 1));
        }

        int takers(int from) {
            int to = near(15);
            return pick(10) > 0 && from >= 0 && from < 4 ? to & ~(1 << from) : to;
        }

        boolean call(String name, int... with) {
            return both(x, m, told, name, with);
        }

        boolean step(String name) {
            switch (name) {
                case "begin":
                    int from = near(3);
                    return call("begin", from, takers(from), pick(3) == 0 ? near(50) : 1 + pick(40));
                case "giveUp":
                    return call(name, transfer());
                case "ask":
                    return ask();
                case "deliver":
                case "lose":
                    return call(name, place());
                case "crash":
                    return call(name, near(4));
                case "recover":
                    return call(name, near(4));
                case "crashClerk":
                    return call("crash", 4);
                case "recoverClerk":
                    return call("recover", 4);
                case "append":
                    return call(name, pick(5) == 0 ? near(130) : "b0123456789>:;dlcrgq".charAt(pick(20)));
                case "text":
                    return text();
                default:
                    return call(name);
            }
        }

        /** Looks for a store in doubt, since few stores are at any time. */
        boolean ask() {
            int store = near(3);
            int transfer = transfer();
            for (int i = 0; i < 32 && pick(8) > 0; i++) {
                int s = i % 4;
                int t = i / 4;
                if (t < m.now.transfers.size() && m.now.up[s] && m.now.state(s, t) == 1) {
                    store = s;
                    transfer = t;
                    break;
                }
            }
            return call("ask", store, transfer);
        }

        boolean text() {
            StringBuilder text = new StringBuilder();
            for (int i = pick(5); i >= 0; i--) {
                text.append(text.length() == 0 ? "" : ";").append(part());
            }
            if (pick(3) == 0) {
                text.setCharAt(pick(text.length()), ";>:bdlcrgq0123456789!~".charAt(pick(22)));
            }
            if (pick(12) == 0) {
                text.setLength(pick(text.length()));
            }
            boolean same = pick(4) == 0 || call("clearBuffer");
            for (int i = 0; same && i < text.length(); i++) {
                same = call("append", text.charAt(i));
            }
            return same && call("firstError") && call("runCourse");
        }

        String part() {
            switch (pick(6)) {
                case 0:
                    return "d" + (1 + pick(9));
                case 1:
                    return "c" + pick(5);
                case 2:
                    return "r" + pick(5);
                case 3:
                    return "" + "lg".charAt(pick(2)) + pick(4);
                case 4:
                    return "q" + pick(4) + pick(4);
                default:
                    int from = pick(4);
                    int to = 1 + pick(15) & ~(1 << from);
                    return "b" + from + ">" + Model.takers(to == 0 ? 15 - (1 << from) : to) + ":" + (1 + pick(50));
            }
        }

        boolean looks() {
            for (String name : LOOKS) {
                int calls = name.startsWith("record") ? 4 : 2;
                for (int i = 0; i < calls; i++) {
                    if (!look(name)) {
                        return false;
                    }
                }
            }
            return true;
        }

        boolean look(String name) {
            switch (name) {
                case "partners": case "outcome": case "outcomeByStores": case "hasEnded": case "saidYes": case "saidDone": case "outcomeIfSettled":
                    return call(name, transfer());
                case "share":
                    return call(name, transfer(), near(3));
                case "state": case "stateByLog":
                    return call(name, near(3), transfer());
                case "recordKind": case "recordTransfer":
                    return call(name, near(4), near(17));
                case "greatestSize":
                    int from = near(3);
                    return call(name, from, takers(from));
                case "kindOf": case "transferOf": case "storeOf": case "wouldSend":
                    return call(name, near(m.now.row.size()));
                default:
                    return call(name, near(name.equals("isUp") || name.equals("records") ? 4 : 3));
            }
        }

        /** No more than 512 calls, for behind these nothing is promised. */
        boolean go() {
            while (told.size() < 350) {
                if (!step(habit[pick(habit.length)]) || !call("digest") || pick(60) == 0 && !looks()) {
                    return false;
                }
            }
            return looks();
        }
    }

    public static void main(String[] args) {
        int wrong = 0;
        int calls = 0;
        int fullRows = 0;
        int[] outcomes = new int[3];
        for (int i = 0; i < RUNS && wrong < 3; i++) {
            seed = i;
            Run run = new Run();
            if (!run.go()) {
                wrong++;
                System.out.println("this was the run " + i);
            }
            calls += run.told.size();
            fullRows += run.m.now.row.size() == 60 ? 1 : 0;
            for (int transfer = 0; transfer < run.m.now.transfers.size(); transfer++) {
                outcomes[run.m.now.outcome(transfer)]++;
            }
            if (run.told.size() > MOST_CALLS) {
                wrong++;
                System.out.println("the run " + i + " is too long: " + run.told.size());
            }
        }
        System.out.println(calls + " calls; rows full at the end: " + fullRows + "; transfers undecided, made, dropped: "
                + outcomes[0] + ", " + outcomes[1] + ", " + outcomes[2]);
        System.out.println(wrong == 0 ? "all answers are the model's" : wrong + " runs are not the model's");
        if (wrong != 0) {
            System.exit(1);
        }
    }
}
