import java.math.BigInteger;

/** For each sentence of the promises 1 to 50 that names a boundary case, a test of its own; texts stand in TextTest. */
public final class CallsTest extends Checks {
    private static final int[] NO_MASKS = {0, -1, -2, 16, 17, 18, 32, FEW, MANY};

    // ---- 1: a new object

    private static void newWithoutTransfers() {
        VoteLogs x = new VoteLogs();
        due(x.transfers(), 0);
        noIndex(x, () -> x.partners(0));
        due(x.waiting(), 0);
        due(x.sent(), 0);
        due(x.lost(), 0);
        due(x.records(4), 0);
    }

    private static void newWithAnEmptyBuffer() {
        due(new VoteLogs().clearBuffer(), 0);
    }

    private static void newWithoutASnapshot() {
        VoteLogs x = new VoteLogs();
        noState(x, () -> x.goBack());
    }

    private static void newWithoutSavedStates() {
        VoteLogs x = new VoteLogs();
        noState(x, () -> x.undo());
    }

    private static void objectsAreApart() {
        VoteLogs x = after("b0>12:50;d9;d9;c0");
        VoteLogs y = new VoteLogs();
        due(amounts(x), "0 150 150 100");
        due(amounts(y), "100 100 100 100");
        due(y.isUp(0), true);
    }

    // ---- 2: begin

    private static void beginFromNoStore() {
        VoteLogs x = new VoteLogs();
        noIndex(x, () -> x.begin(-1, 1, 1));
        noIndex(x, () -> x.begin(4, 1, 1));
        noIndex(x, () -> x.begin(FEW, 1, 1));
        noIndex(x, () -> x.begin(MANY, 1, 1));
        due(x.begin(3, 1, 1), 0);
    }

    private static void beginToNoMask() {
        VoteLogs x = new VoteLogs();
        for (int to : NO_MASKS) {
            noArgument(x, () -> x.begin(3, to, 1));
        }
        due(x.begin(3, 1, 1), 0);
        due(x.begin(0, 14, 1), 1);
    }

    private static void beginToTheGiver() {
        VoteLogs x = new VoteLogs();
        for (int from = 0; from < 4; from++) {
            for (int to = 1; to <= 15; to++) {
                int giver = from;
                int takers = to;
                if ((to >> from) % 2 == 1) {
                    noArgument(x, () -> x.begin(giver, takers, 1));
                } else {
                    due(x.begin(giver, takers, 1), 0);
                    due(x.partners(0), takers + (1 << giver));
                    x.undo();
                }
            }
        }
    }

    private static void beginOfAnySize() {
        VoteLogs x = new VoteLogs();
        for (int size = 1; size <= 50; size++) {
            due(x.begin(0, 2, size), 0);
            due(x.share(0, 1), size);
            x.undo();
        }
        for (int size : new int[] {0, 51, -1, FEW, MANY}) {
            noArgument(x, () -> x.begin(0, 2, size));
        }
    }

    private static void beginWithoutAClerk() {
        VoteLogs x = new VoteLogs();
        x.crash(4);
        noState(x, () -> x.begin(0, 2, 1));
        x.recover(4);
        due(x.begin(0, 2, 1), 0);
    }

    private static void beginWithStoresThatAreDown() {
        VoteLogs x = after("c0;c1;c2;c3");
        due(x.begin(0, 2, 1), 0);
        due(x.waiting(), 2);
    }

    private static void beginOfTheNinth() {
        VoteLogs x = afterBegins(8);
        noState(x, () -> x.begin(0, 2, 1));
        x.undo();
        due(x.begin(0, 2, 1), 7);
    }

    // ---- 3: giveUp

    private static void giveUpTellsWhatWaits() {
        VoteLogs x = after("b0>12:1");
        due(x.giveUp(0), 6);
    }

    private static void giveUpOfNoTransfer() {
        VoteLogs x = after("b0>1:1;b0>1:1");
        noNumbersPast(x, 1, n -> x.giveUp(n));
        VoteLogs y = new VoteLogs();
        noIndex(y, () -> y.giveUp(0));
    }

    private static void giveUpWithoutAClerk() {
        VoteLogs x = after("b0>1:1;c4");
        noState(x, () -> x.giveUp(0));
    }

    private static void giveUpOfDecidedOnes() {
        VoteLogs made = after("b0>1:1;d4");
        noState(made, () -> made.giveUp(0));
        VoteLogs dropped = after("b0>1:1;g0");
        noState(dropped, () -> dropped.giveUp(0));
        VoteLogs ended = after("b0>1:1;d8");
        noState(ended, () -> ended.giveUp(0));
    }

    private static void giveUpWithAllButOneYes() {
        VoteLogs x = after("b0>1:1;d3");
        due(x.giveUp(0), 3);
        due(x.outcome(0), 2);
    }

    // ---- 4: ask

    private static void askTellsWhatWaits() {
        VoteLogs x = after("b0>1:1;d1");
        due(x.ask(0, 0), 3);
    }

    private static void askOfNoStore() {
        VoteLogs x = after("b0>1:1;d2");
        noNumbersPast(x, 3, n -> x.ask(n, 0));
    }

    private static void askOfNoTransfer() {
        VoteLogs x = after("b0>1:1;d2");
        noNumbersPast(x, 0, n -> x.ask(0, n));
    }

    private static void askOfAStoreThatIsDown() {
        VoteLogs x = after("b0>1:1;d2;c0");
        noState(x, () -> x.ask(0, 0));
        due(x.ask(1, 0), 3);
    }

    private static void askIfNotReady() {
        VoteLogs unknown = after("b0>1:1");
        noState(unknown, () -> unknown.ask(0, 0));
        noState(unknown, () -> unknown.ask(3, 0));
        VoteLogs made = after("b0>1:1;d5");
        noState(made, () -> made.ask(0, 0));
        due(made.ask(1, 0), 3);
        VoteLogs dropped = after("b0>123:50;d1");
        noState(dropped, () -> dropped.ask(0, 0));
    }

    private static void askTwice() {
        VoteLogs x = after("b0>1:1;d1;q00;q00");
        due(row(x), "001 100 600 600");
    }

    // ---- 5, 6, 7: deliver, deliverAll, lose

    private static void noPlaceToDeliver() {
        VoteLogs x = after("b0>1:1");
        noNumbersPast(x, 1, n -> x.deliver(n));
        noIndex(x, () -> x.deliver(60));
        VoteLogs y = new VoteLogs();
        noIndex(y, () -> y.deliver(0));
    }

    private static void deliverTellsWhetherItIsHandled() {
        VoteLogs x = after("b0>1:1;c0");
        due(x.deliver(0), false);
        due(x.deliver(0), true);
    }

    private static void aLostDeliveryIsUndoable() {
        VoteLogs x = after("b0>1:1;c0");
        x.deliver(0);
        due(x.undo(), 1);
        due(row(x), "000 001");
        due(x.lost(), 0);
    }

    private static void deliverAllOfNone() {
        VoteLogs x = new VoteLogs();
        due(x.deliverAll(), 0);
        due(x.sent(), 0);
    }

    private static void deliverAllTakesTheFirst() {
        VoteLogs x = after("b0>123:50;b0>1:1;c1");
        due(x.deliverAll(), 17);
        due(log(x, 4), "00 01 20");
        due(log(x, 0), "20 41");
    }

    private static void deliverAllCountsLostOnes() {
        VoteLogs x = after("b0>1:1;c0;c1;c4");
        due(x.deliverAll(), 2);
        due(x.lost(), 2);
    }

    private static void deliverAllOfAFullRow() {
        VoteLogs x = afterBegins(8);
        x.crash(4);
        due(x.recover(4), 60);
        due(x.lost(), 4);
        due(x.deliverAll(), 32 + 28 + 60);
        due(x.waiting(), 0);
    }

    private static void noPlaceToLose() {
        VoteLogs x = after("b0>1:1");
        noNumbersPast(x, 1, n -> x.lose(n));
        noIndex(x, () -> x.lose(60));
        VoteLogs y = new VoteLogs();
        noIndex(y, () -> y.lose(0));
    }

    private static void loseTellsTheKind() {
        due(after("b0>1:1").lose(1), 0);
        due(after("b0>1:1;d1").lose(1), 1);
        due(after("b0>123:50;d1").lose(3), 2);
        due(after("b0>1:1;d4").lose(0), 3);
        due(after("b0>1:1;g0").lose(2), 4);
        due(after("b0>1:1;d5").lose(1), 5);
        due(after("b0>1:1;d2;q00").lose(2), 6);
    }

    private static void loseOfTheLastOfSixty() {
        VoteLogs x = afterBegins(8);
        x.crash(4);
        x.recover(4);
        due(x.lose(59), 4);
        due(x.waiting(), 59);
        due(x.storeOf(58), 2);
        noIndex(x, () -> x.lose(59));
    }

    // ---- 8, 9: crash, recover

    private static void crashTellsHowManyAreUp() {
        VoteLogs x = new VoteLogs();
        for (int site = 4; site >= 0; site--) {
            due(x.crash(site), site);
        }
    }

    private static void crashOfNoSite() {
        VoteLogs x = new VoteLogs();
        noNumbersPast(x, 4, n -> x.crash(n));
    }

    private static void crashOfOneThatIsDown() {
        for (int site = 0; site < 5; site++) {
            VoteLogs x = new VoteLogs();
            int number = site;
            x.crash(site);
            noState(x, () -> x.crash(number));
        }
    }

    private static void recoverTellsWhatWaits() {
        VoteLogs x = after("b0>1:1;c4;c0");
        due(x.recover(0), 2);
        due(x.recover(4), 4);
    }

    private static void recoverOfNoSite() {
        VoteLogs x = after("c0;c1;c2;c3;c4");
        noNumbersPast(x, 4, n -> x.recover(n));
    }

    private static void recoverOfOneThatIsUp() {
        VoteLogs x = new VoteLogs();
        for (int site = 0; site < 5; site++) {
            int number = site;
            noState(x, () -> x.recover(number));
        }
    }

    // ---- 14, 15, 16: the snapshot, undo

    private static void keepTellsWhatWaits() {
        due(new VoteLogs().keep(), 0);
        due(after("b0>1:1").keep(), 2);
    }

    private static void keepInPlaceOfTheOneThatWas() {
        VoteLogs x = new VoteLogs();
        x.keep();
        x.crash(0);
        x.keep();
        x.crash(1);
        x.goBack();
        due(x.isUp(0), false);
        due(x.isUp(1), true);
    }

    private static void keepOfAllThatUndoRestores() {
        VoteLogs x = after("b0>1:5;d5;c2");
        x.keep();
        long before = x.digest();
        run(x, "r2;d9;b3>012:9;d9;c4");
        x.goBack();
        x.undo();
        x.undo();
        due(x.digest(), before);
        run(x, "r2;d9;b3>012:9;d9;c4");
        x.undo();
        due(x.goBack(), 2);
        x.undo();
        due(x.digest(), before);
    }

    /** Two courses that leave nothing alike: numbers, sizes, shares, logs, states, messages, counts. */
    private static final String ONE = "b0>123:5;d9;d3;b1>3:7;g1;d4;b2>0:50;d4;c2";
    private static final String OTHER = "b3>12:9;d9;d1;c0;b2>0:4;d3;b1>02:50;c4;d2";

    private static void goBackRestoresAll() {
        VoteLogs x = after(ONE);
        x.keep();
        x.undo();
        run(x, OTHER);
        x.goBack();
        VoteLogs y = after(ONE);
        y.keep();
        y.goBack();
        due(x.digest(), y.digest());
    }

    private static void undoRestoresAll() {
        VoteLogs x = after(OTHER);
        x.keep();
        x.undo();
        run(x, ONE);
        VoteLogs y = after(OTHER);
        y.keep();
        y.undo();
        run(y, ONE);
        y.goBack();
        y.undo();
        due(x.digest(), y.digest());
    }

    private static void keepSavesNoState() {
        VoteLogs x = new VoteLogs();
        x.keep();
        noState(x, () -> x.undo());
    }

    private static void goBackWithoutASnapshot() {
        VoteLogs x = after("b0>1:1");
        noState(x, () -> x.goBack());
        x.keep();
        due(x.goBack(), 2);
    }

    private static void goBackKeepsTheSnapshot() {
        VoteLogs x = new VoteLogs();
        x.keep();
        for (int round = 0; round < 3; round++) {
            x.begin(0, 2, 1);
            due(x.goBack(), 0);
            due(x.transfers(), 0);
        }
    }

    private static void goBackIsUndoable() {
        VoteLogs x = new VoteLogs();
        x.keep();
        x.begin(0, 2, 1);
        x.goBack();
        due(x.undo(), 1);
        due(x.transfers(), 1);
    }

    private static void undoWithoutASavedState() {
        VoteLogs x = after("b0>1:1");
        due(x.undo(), 0);
        noState(x, () -> x.undo());
    }

    private static void undoTellsHowManyAreLeft() {
        VoteLogs x = afterBegins(7);
        due(x.undo(), 5);
        due(x.undo(), 4);
        x.crash(0);
        due(x.undo(), 4);
        due(x.isUp(0), true);
    }

    private static void undoOfLongRuns() {
        VoteLogs x = new VoteLogs();
        for (int round = 0; round < 20; round++) {
            x.crash(round % 5);
            x.recover(round % 5);
            x.lose(x.begin(0, 2, 1));
            x.undo();
            x.undo();
        }
        due(x.transfers(), 0);
        x.crash(1);
        x.crash(3);
        due(x.undo(), 5);
        due(x.isUp(3), true);
        due(x.undo(), 4);
        due(x.undo(), 3);
        due(x.isUp(4), false);
    }

    // ---- 17 to 32: looks at transfers and stores

    private static void noSuchTransfer(int begun, OfNumber call, VoteLogs x) {
        noNumbersPast(x, begun - 1, call);
        for (int transfer = 0; transfer < begun; transfer++) {
            due(call.answer(transfer) != null, true);
        }
    }

    private static void transfersFromNoneToEight() {
        VoteLogs x = new VoteLogs();
        for (int count = 0; count < 8; count++) {
            due(x.transfers(), count);
            x.begin(0, 2, 1);
        }
        due(x.transfers(), 8);
    }

    private static void looksAtNoTransfer() {
        for (int begun = 0; begun <= 8; begun += 4) {
            VoteLogs x = afterBegins(begun);
            noSuchTransfer(begun, n -> x.partners(n), x);
            noSuchTransfer(begun, n -> x.outcome(n), x);
            noSuchTransfer(begun, n -> x.outcomeByStores(n), x);
            noSuchTransfer(begun, n -> x.hasEnded(n), x);
            noSuchTransfer(begun, n -> x.saidYes(n), x);
            noSuchTransfer(begun, n -> x.saidDone(n), x);
            noSuchTransfer(begun, n -> x.outcomeIfSettled(n), x);
        }
    }

    private static void looksAtNoTransferOfAStore() {
        for (int begun = 0; begun <= 8; begun += 4) {
            VoteLogs x = afterBegins(begun);
            noSuchTransfer(begun, n -> x.share(n, 0), x);
            noSuchTransfer(begun, n -> x.state(0, n), x);
            noSuchTransfer(begun, n -> x.stateByLog(0, n), x);
        }
    }

    private static void looksAtAnUndoneTransfer() {
        VoteLogs x = after("b0>1:1");
        x.begin(2, 8, 1);
        x.undo();
        due(x.partners(0), 3);
        noIndex(x, () -> x.partners(1));
        noIndex(x, () -> x.state(2, 1));
    }

    private static void looksAtNoStore() {
        VoteLogs x = afterBegins(1);
        numbersTo(x, 3, n -> x.amount(n));
        numbersTo(x, 3, n -> x.amountByLog(n));
        numbersTo(x, 3, n -> x.inDoubt(n));
        numbersTo(x, 3, n -> x.amountIfSettled(n));
    }

    private static void looksAtNoStoreOfATransfer() {
        VoteLogs x = afterBegins(1);
        numbersTo(x, 3, n -> x.share(0, n));
        numbersTo(x, 3, n -> x.state(n, 0));
        numbersTo(x, 3, n -> x.stateByLog(n, 0));
    }

    private static void looksAtNoSite() {
        VoteLogs x = afterBegins(1);
        numbersTo(x, 4, n -> x.isUp(n));
        numbersTo(x, 4, n -> x.records(n));
        numbersTo(x, 4, n -> x.recordKind(n, 0));
        numbersTo(x, 4, n -> x.recordTransfer(n, 0));
    }

    private static void noShareWithoutPart() {
        VoteLogs x = after("b1>3:50");
        due(x.share(0, 0), 0);
        due(x.share(0, 2), 0);
        due(x.share(0, 1), -50);
        due(x.share(0, 3), 50);
    }

    private static void theLeastAndTheGreatestShare() {
        VoteLogs x = after("b3>012:50;b3>0:1");
        due(x.share(0, 3), -150);
        due(x.share(0, 2), 50);
        due(x.share(1, 3), -1);
        due(x.share(1, 0), 1);
    }

    private static void amountsByEmptyLogs() {
        VoteLogs x = after("b0>12:50;g0;d9;d9");
        for (int store = 0; store < 4; store++) {
            due(x.amountByLog(store), 100);
        }
    }

    private static void amountsByLogsDownToZero() {
        VoteLogs x = after("b0>12:50;d9;d9");
        due(x.amountByLog(0), 0);
        due(x.amountByLog(1), 150);
        due(x.amountByLog(3), 100);
    }

    private static void theGreatestAmount() {
        VoteLogs x = after("b0>3:50;b0>3:50;b1>3:50;b1>3:50;b2>3:50;b2>3:50");
        x.deliverAll();
        due(amounts(x), "0 0 0 400");
        due(x.amountByLog(3), 400);
        due(x.total(), 400);
    }

    private static void statesOfAllKinds() {
        VoteLogs x = after("b0>12:50;d8;b0>3:1");
        due(x.state(3, 0), 0);
        due(x.stateByLog(3, 0), 0);
        due(x.state(2, 0), 1);
        due(x.stateByLog(2, 0), 1);
        due(x.state(0, 0), 2);
        due(x.stateByLog(0, 0), 2);
        x.deliver(placeOf(x, 0, 1, 0));
        due(x.state(0, 1), 3);
        due(x.stateByLog(0, 1), 3);
        due(x.state(0, 0), 2);
        due(x.stateByLog(0, 0), 2);
    }

    private static void inDoubtForNoneToEight() {
        VoteLogs x = afterBegins(8);
        for (int transfer = 0; transfer < 8; transfer++) {
            due(x.inDoubt(3), transfer);
            x.deliver(placeOf(x, 0, transfer, 3));
        }
        due(x.inDoubt(3), 8);
        due(x.inDoubt(2), 0);
    }

    private static void inDoubtNoMoreWhenMadeOrDropped() {
        VoteLogs x = after("b0>1:1;b0>1:1;d4;g1");
        due(x.inDoubt(0), 2);
        x.deliverAll();
        due(x.outcome(0) + " " + x.outcome(1), "1 2");
        due(x.inDoubt(0), 0);
        due(x.inDoubt(1), 0);
    }

    private static void outcomesOfAllKinds() {
        VoteLogs x = after("b0>1:1;b0>1:1;b0>1:1;d1;d1;d1;d1");
        x.giveUp(2);
        for (int store = 0; store < 2; store++) {
            int yes = placeOf(x, 1, 0, store);
            due(x.deliver(yes), true);
        }
        due(x.outcome(0), 1);
        due(x.outcome(1), 0);
        due(x.outcome(2), 2);
    }

    private static void outcomesOfADownClerk() {
        VoteLogs x = after("b0>1:1;d8;b0>1:1;g1;b0>1:1;c4");
        due(x.outcome(0), 1);
        due(x.outcome(1), 2);
        due(x.outcome(2), 0);
    }

    private static void outcomeByStoresThatDidNothing() {
        VoteLogs x = after("b0>1:1;d4");
        due(x.outcome(0), 1);
        due(x.outcomeByStores(0), 0);
    }

    private static void outcomeByOneStoreThatMadeIt() {
        VoteLogs x = after("b0>123:1;d8;d1");
        due(x.outcomeByStores(0), 1);
        VoteLogs y = after("b0>123:1;d8");
        y.deliver(3);
        due(y.outcomeByStores(0), 1);
    }

    private static void outcomeByOneStoreThatDroppedIt() {
        VoteLogs x = after("b0>123:50;d1");
        due(x.outcome(0), 0);
        due(x.outcomeByStores(0), 2);
        VoteLogs y = after("b0>123:1;g0");
        y.deliver(7);
        due(y.outcomeByStores(0), 2);
    }

    private static void outcomeByAllStores() {
        due(after("b0>123:1;d9;d9").outcomeByStores(0), 1);
        due(after("b0>123:1;g0;d9;d9").outcomeByStores(0), 2);
    }

    private static void saidYesFromNoneToAll() {
        VoteLogs x = after("b0>123:1;d4");
        due(x.saidYes(0), 0);
        x.deliver(3);
        due(x.saidYes(0), 8);
        x.deliver(0);
        due(x.saidYes(0), 9);
        x.deliver(1);
        due(x.saidYes(0), 13);
        x.deliver(0);
        due(x.saidYes(0), 15);
    }

    private static void saidDoneFromNoneToAll() {
        VoteLogs x = after("b0>123:1;d9;d3");
        due(x.saidDone(0), 0);
        x.deliver(3);
        due(x.saidDone(0), 8);
        x.deliver(0);
        x.deliver(0);
        due(x.hasEnded(0), false);
        x.deliver(0);
        due(x.saidDone(0), 15);
        due(x.hasEnded(0), true);
    }

    private static void onTheWayWithTheTotal() {
        VoteLogs x = after("b0>12:50;b1>0:20;b3>012:30");
        for (int i = 0; i < 60 && x.waiting() > 0; i++) {
            due(x.total() + x.onTheWay(), 400);
            x.deliver(i * 7 % x.waiting());
        }
        due(x.onTheWay(), 0);
        due(x.total(), 400);
    }

    private static void nothingOnTheWay() {
        due(new VoteLogs().onTheWay(), 0);
        due(after("b0>1:5;d2").onTheWay(), 0);
        due(after("b0>1:5;d2;g0").onTheWay(), 0);
        due(after("b0>1:5;d4").onTheWay(), 0);
    }

    private static void onTheWayAboveAndBelowZero() {
        VoteLogs x = after("b0>1:5;d4");
        x.deliver(0);
        due(x.onTheWay(), 5);
        due(x.total(), 395);
        VoteLogs y = after("b0>1:5;d4");
        y.deliver(1);
        due(y.onTheWay(), -5);
        due(y.total(), 405);
        y.crash(0);
        y.crash(4);
        due(y.onTheWay(), -5);
    }

    // ---- 33 to 42: looks at logs and messages

    private static void recordsThatAreNot() {
        VoteLogs x = after("b0>1:1");
        due(x.recordKind(4, 0), 0);
        due(x.recordKind(4, 1), -1);
        due(x.recordTransfer(4, 0), 0);
        due(x.recordTransfer(4, 1), -1);
        for (int place : new int[] {2, 24, 120, MANY}) {
            due(x.recordKind(4, place), -1);
            due(x.recordTransfer(4, place), -1);
        }
        due(x.recordKind(0, 0), -1);
        due(x.recordTransfer(0, 0), -1);
    }

    private static void recordsBelowZero() {
        VoteLogs x = after("b0>1:1");
        noIndex(x, () -> x.recordKind(4, -1));
        noIndex(x, () -> x.recordKind(4, FEW));
        noIndex(x, () -> x.recordTransfer(4, -1));
        noIndex(x, () -> x.recordTransfer(4, FEW));
    }

    private static void recordsOfNoSiteAndNoPlace() {
        VoteLogs x = after("b0>1:1");
        noIndex(x, () -> x.recordKind(5, MANY));
        noIndex(x, () -> x.recordKind(-1, MANY));
        noIndex(x, () -> x.recordTransfer(5, MANY));
        noIndex(x, () -> x.recordTransfer(-1, MANY));
    }

    private static void messagesThatAreNot() {
        VoteLogs x = after("b0>3:1");
        due(x.kindOf(1) + " " + x.transferOf(1) + " " + x.storeOf(1), "0 0 3");
        for (int place : new int[] {2, 59, 60, MANY}) {
            due(x.kindOf(place), -1);
            due(x.transferOf(place), -1);
            due(x.storeOf(place), -1);
        }
        VoteLogs y = new VoteLogs();
        due(y.kindOf(0), -1);
        due(y.transferOf(0), -1);
        due(y.storeOf(0), -1);
    }

    private static void messagesThatWereTakenOut() {
        VoteLogs x = after("b1>2:1;b1>2:1;l3");
        due(x.kindOf(3), -1);
        due(x.transferOf(3), -1);
        due(x.storeOf(3), -1);
    }

    private static void messagesBelowZero() {
        VoteLogs x = after("b0>1:1");
        for (int place : new int[] {-1, FEW}) {
            noIndex(x, () -> x.kindOf(place));
            noIndex(x, () -> x.transferOf(place));
            noIndex(x, () -> x.storeOf(place));
        }
    }

    private static void waitingFromNoneToSixty() {
        VoteLogs x = new VoteLogs();
        due(x.waiting(), 0);
        for (int i = 0; i < 8; i++) {
            x.begin(0, 14, 1);
        }
        x.crash(4);
        x.recover(4);
        due(x.waiting(), 60);
        x.deliverAll();
        due(x.waiting(), 0);
    }

    private static void sentWithLostOnesAmongThem() {
        VoteLogs x = after("b0>1:1;l0;c1;d1");
        due(x.sent(), 2);
        due(x.lost(), 2);
        due(x.sentByAccount(), 2);
    }

    /** Lost by lose, by a site that is down, and by a row that is full. */
    private static void lostForWhateverReason() {
        VoteLogs x = afterBegins(8);
        x.crash(4);
        x.recover(4);
        due(x.lost(), 4);
        x.lose(0);
        due(x.lost(), 5);
        x.crash(1);
        x.deliver(0);
        due(x.lost(), 6);
        due(x.sent(), 64);
        due(x.sentByAccount(), 64);
    }

    // ---- 43 to 46: what would be

    private static void wouldSendNothing() {
        VoteLogs x = after("b0>1:1;d2");
        due(x.wouldSend(0), 0);
        VoteLogs y = after("b0>1:1;d6");
        due(y.wouldSend(0), 0);
        due(y.wouldSend(1), 0);
        VoteLogs z = after("b0>1:1;d2;q00");
        due(z.wouldSend(2), 0);
    }

    private static void wouldBeLost() {
        VoteLogs x = after("b0>1:1;d1;c1;c4");
        due(row(x), "001 100");
        due(x.wouldSend(0), -1);
        due(x.wouldSend(1), -1);
        x.recover(1);
        due(x.wouldSend(0), 1);
    }

    private static void wouldSendToAll() {
        VoteLogs x = after("b0>123:1;d7");
        due(x.wouldSend(0), 4);
        VoteLogs y = after("b0>123:50;d1");
        due(y.wouldSend(3), 4);
    }

    /** What would be sent to a full row is counted too: sent messages count lost ones among them. */
    private static void wouldSendToAFullRow() {
        VoteLogs x = after("b0>123:50;b1>0:1;d1");
        x.deliver(placeOf(x, 0, 1, 1));
        while (x.waiting() < 60) {
            x.ask(1, 1);
        }
        int no = placeOf(x, 2, 0, 0);
        due(x.wouldSend(no), 4);
        due(x.lost(), 0);
        x.deliver(no);
        due(x.waiting(), 60);
        due(x.lost(), 3);
    }

    private static void wouldSendAtNoPlace() {
        VoteLogs x = after("b0>1:1");
        noNumbersPast(x, 1, n -> x.wouldSend(n));
        VoteLogs y = new VoteLogs();
        noIndex(y, () -> y.wouldSend(0));
    }

    private static void wouldSendChangesNothing() {
        VoteLogs x = after("b0>123:1;d7");
        long before = x.digest();
        x.wouldSend(0);
        due(x.digest(), before);
        due(row(x), "103");
        due(x.outcome(0), 0);
    }

    private static void nothingToSettle() {
        due(new VoteLogs().messagesToSettle(), 0);
        due(after("c0;c1;c2;c3;c4").messagesToSettle(), 0);
        due(after("b0>1:1;d8;c0;c4").messagesToSettle(), 0);
    }

    private static void settlingWhenAllAreUp() {
        VoteLogs x = after("b0>1:1");
        due(x.messagesToSettle(), 8);
        due(x.deliverAll(), 8);
    }

    private static void outcomesWhenAllAreUp() {
        due(after("b0>1:1").outcomeIfSettled(0), 1);
        due(after("b0>123:50").outcomeIfSettled(0), 2);
        due(after("b0>1:1;l1").outcomeIfSettled(0), 0);
    }

    private static void amountsWhenAllAreUp() {
        due(after("b0>1:1").amountIfSettled(0), 99);
        due(after("b0>1:1").amountIfSettled(1), 101);
        due(after("b0>123:50").amountIfSettled(0), 100);
    }

    private static void settlingWithoutLossOfThoseThatAreDown() {
        VoteLogs x = after("b0>1:1;c0;c1;c2;c3");
        due(x.messagesToSettle(), 8);
        due(x.outcomeIfSettled(0), 1);
        due(x.amountIfSettled(0), 99);
        x.crash(4);
        due(x.messagesToSettle(), 8);
        due(x.outcomeIfSettled(0), 2);
        due(x.amountIfSettled(0), 100);
    }

    private static void theClerkIsUpFirst() {
        VoteLogs x = after("b0>1:1;d4;l0;l0;b2>3:1;d1");
        for (int i = 0; i < 57; i++) {
            x.ask(2, 1);
        }
        due(x.waiting(), 59);
        x.crash(4);
        x.crash(1);
        due(x.amountIfSettled(0), 99);
        due(x.amountIfSettled(1), 100);
    }

    private static void thenTheStoresByNumbers() {
        VoteLogs x = after("b0>1:1;d4;l0;l0;b2>3:1;d1");
        for (int i = 0; i < 57; i++) {
            x.ask(2, 1);
        }
        x.crash(1);
        x.crash(0);
        due(x.amountIfSettled(0), 99);
        due(x.amountIfSettled(1), 100);
    }

    private static void whatIsStuckStaysSo() {
        VoteLogs x = after("b0>1:1;l0");
        due(x.messagesToSettle(), 2);
        due(x.outcomeIfSettled(0), 0);
        due(x.amountIfSettled(1), 100);
    }

    private static void settlingChangesNothing() {
        VoteLogs x = after("b0>1:1;d3;c4;c0");
        long before = x.digest();
        x.messagesToSettle();
        x.outcomeIfSettled(0);
        x.amountIfSettled(0);
        due(x.digest(), before);
        due(x.isUp(4), false);
        due(x.isUp(0), false);
        due(row(x), "101");
    }

    // ---- 47: greatestSize

    private static void theSizeIsAtMostFifty() {
        VoteLogs x = new VoteLogs();
        due(x.greatestSize(0, 2), 50);
        due(x.greatestSize(0, 6), 50);
        VoteLogs rich = after("b1>0:50;d8");
        due(rich.greatestSize(0, 2), 50);
        due(rich.greatestSize(0, 14), 50);
    }

    private static void theSizeIsZeroIfThereIsNone() {
        VoteLogs x = after("b0>12:50;d1");
        due(x.greatestSize(0, 2), 0);
        VoteLogs y = after("b0>123:33;d9;d9");
        due(y.amount(0), 1);
        due(y.greatestSize(0, 2), 1);
        due(y.greatestSize(0, 6), 0);
        due(y.greatestSize(0, 14), 0);
    }

    private static void theSizeIsWhatIsSaidYesTo() {
        for (int to = 2; to <= 14; to += 2) {
            VoteLogs x = after("b0>12:9;d1");
            int greatest = x.greatestSize(0, to);
            int count = Integer.bitCount(to);
            due(greatest, Math.min(50, (100 - 18) / count));
            x.begin(0, to, greatest);
            x.deliver(placeOf(x, 0, 1, 0));
            due(x.state(0, 1), 1);
            if (greatest < 50) {
                x.undo();
                x.undo();
                x.begin(0, to, greatest + 1);
                x.deliver(placeOf(x, 0, 1, 0));
                due(x.state(0, 1), 3);
            }
        }
    }

    private static void theSizeUpOrDown() {
        VoteLogs x = after("b0>12:30;d1;c0;c1;c2;c3");
        due(x.greatestSize(0, 2), 40);
        due(x.greatestSize(0, 14), 13);
    }

    private static void theSizeWithoutAClerk() {
        VoteLogs x = after("b0>12:30;d1;c4");
        due(x.greatestSize(0, 2), 40);
    }

    private static void theSizeBehindEightTransfers() {
        VoteLogs x = afterBegins(8);
        due(x.greatestSize(0, 14), 33);
        x.deliver(0);
        due(x.greatestSize(0, 14), 32);
    }

    private static void theSizeAsTheyStandNow() {
        VoteLogs x = after("b1>0:50");
        x.deliver(placeOf(x, 0, 0, 0));
        due(x.inDoubt(0), 1);
        due(x.greatestSize(0, 14), 33);
        x.deliverAll();
        due(x.greatestSize(0, 14), 50);
        due(x.greatestSize(1, 13), 16);
    }

    private static void theSizeOfNoStore() {
        VoteLogs x = new VoteLogs();
        for (int from : new int[] {-1, 4, FEW, MANY}) {
            noIndex(x, () -> x.greatestSize(from, 1));
            noIndex(x, () -> x.greatestSize(from, 0));
            noIndex(x, () -> x.greatestSize(from, 16));
        }
    }

    private static void theSizeToNoMask() {
        VoteLogs x = new VoteLogs();
        for (int to : NO_MASKS) {
            noArgument(x, () -> x.greatestSize(3, to));
        }
        due(x.greatestSize(3, 1), 50);
        due(x.greatestSize(0, 14), 33);
    }

    private static void theSizeToTheGiver() {
        VoteLogs x = new VoteLogs();
        for (int from = 0; from < 4; from++) {
            int giver = from;
            noArgument(x, () -> x.greatestSize(giver, 1 << giver));
            noArgument(x, () -> x.greatestSize(giver, 15));
            due(x.greatestSize(giver, 15 - (1 << giver)), 33);
        }
    }

    // ---- 48, 49, 50: shares, the digest

    private static void noShareWithoutMessages() {
        due(new VoteLogs().lostShare(), 0.0);
    }

    private static void lostSharesFromNoneToAll() {
        VoteLogs x = after("b0>123:1");
        double[] shares = {0.0, 0.25, 0.5, 0.75, 1.0};
        for (int count = 0; count < 4; count++) {
            due(x.lostShare(), shares[count]);
            x.lose(0);
        }
        due(x.lostShare(), shares[4]);
    }

    private static void lostSharesAsDoubles() {
        VoteLogs x = after("b0>12:1;l0");
        due(x.lostShare(), 1.0 / 3.0);
        due(x.lostShare() == (double) (1.0f / 3.0f), false);
    }

    private static void noMeanWithoutTransfers() {
        due(new VoteLogs().meanSize(), 0.0f);
    }

    private static void meansFromOneToFifty() {
        due(afterBegins(8).meanSize(), 1.0f);
        VoteLogs x = new VoteLogs();
        for (int i = 0; i < 8; i++) {
            x.begin(0, 14, 50);
        }
        due(x.meanSize(), 50.0f);
    }

    private static void meansAsFloats() {
        VoteLogs x = after("b0>123:1;b0>1:2;b0>12:2");
        due(x.meanSize(), 5.0f / 3.0f);
    }

    private static void digestOfANewObject() {
        due(new VoteLogs().digest(), hash("0", "100 100 0 100 ".repeat(4), "1 0 ".repeat(5), "400 0 0 0 0 0 0 33 0 0 0 0 0"));
    }

    private static void digestOfATransfer() {
        VoteLogs x = after("b0>1:5;d1;l0");
        due(row(x), "100");
        String lostShare = "" + Double.doubleToLongBits(1.0 / 3.0);
        String meanSize = "" + Float.floatToIntBits(5.0f);
        due(x.digest(), hash("1 3 0 0 0 0 0 0 -5 1 1 5 0 0 0 0 0 0 0 0", "100 100 1 100 100 100 0 100 100 100 0 100 100 100 0 100",
            "1 1 4 0 1 0 1 0 1 0 1 1 0 0", "400 0 1 1 0 0 0 3 3 1 1 31 1", lostShare, meanSize, "0 0"));
    }

    private static void digestOfTheSnapshot() {
        VoteLogs x = new VoteLogs();
        x.keep();
        due(x.digest(), hash("0", "100 100 0 100 ".repeat(4), "1 0 ".repeat(5), "400 0 0 0 0 0 0 33 0 0 0 1 0"));
    }

    private static void digestOfTheBuffer() {
        VoteLogs x = new VoteLogs();
        type(x, "!~0");
        due(x.digest(), hash("0", "100 100 0 100 ".repeat(4), "1 0 ".repeat(5), "400 0 0 0 0 0 0 33 0 0 0 0 3 33 126 48"));
    }

    private static void digestOfAFullBuffer() {
        VoteLogs x = new VoteLogs();
        type(x, "~".repeat(60));
        due(x.digest(), hash("0", "100 100 0 100 ".repeat(4), "1 0 ".repeat(5), "400 0 0 0 0 0 0 33 0 0 0 0 60", " 126".repeat(60)));
    }

    private static void digestOfSavedStates() {
        VoteLogs x = new VoteLogs();
        for (int calls = 1; calls <= 8; calls++) {
            x.deliverAll();
            int saved = Math.min(6, calls);
            due(x.digest(), hash("0", "100 100 0 100 ".repeat(4), "1 0 ".repeat(5), "400 0 0 0 0 0 0 33 " + saved + " 0 0 0 0"));
        }
    }

    private static void digestOfSitesThatAreDown() {
        VoteLogs x = after("c0;c4");
        due(x.digest(), hash("0", "100 100 0 100 ".repeat(4), "0 0 1 0 1 0 1 0 0 0", "400 0 0 0 0 0 0 33 1 0 0 0 0"));
    }

    private static void digestChangesNothing() {
        VoteLogs x = after("b0>123:1;d7;c2");
        long before = x.digest();
        due(x.digest(), before);
        due(row(x), "103");
        due(x.undo(), 0);
    }

    /** The hash in numbers without an end, of which the last 64 bits are left at last: so it wraps around. */
    private static long hash(String... values) {
        BigInteger hash = BigInteger.valueOf(4219);
        for (String value : String.join(" ", values).trim().split(" +")) {
            hash = hash.multiply(BigInteger.valueOf(31)).add(new BigInteger(value));
        }
        return hash.longValue();
    }

    private static void ofTransfers() {
        test("1: without transfers", CallsTest::newWithoutTransfers);
        test("1: with an empty buffer", CallsTest::newWithAnEmptyBuffer);
        test("1: no snapshot", CallsTest::newWithoutASnapshot);
        test("1: nothing to undo", CallsTest::newWithoutSavedStates);
        test("1: each object stands for itself", CallsTest::objectsAreApart);
        test("2: if there is no such store", CallsTest::beginFromNoStore);
        test("2: if to is not from 1 to 15", CallsTest::beginToNoMask);
        test("2: or has the store from", CallsTest::beginToTheGiver);
        test("2: or size is out of range", CallsTest::beginOfAnySize);
        test("2: if the clerk is down", CallsTest::beginWithoutAClerk);
        test("2: but not if a store is down", CallsTest::beginWithStoresThatAreDown);
        test("2: or 8 transfers were begun", CallsTest::beginOfTheNinth);
        test("3: how many messages wait then", CallsTest::giveUpTellsWhatWaits);
        test("3: if there is no such transfer", CallsTest::giveUpOfNoTransfer);
        test("3: if the clerk is down", CallsTest::giveUpWithoutAClerk);
        test("3: or it is decided", CallsTest::giveUpOfDecidedOnes);
        test("3: it is decided to be dropped, with all but one yes", CallsTest::giveUpWithAllButOneYes);
        test("4: how many messages wait then", CallsTest::askTellsWhatWaits);
        test("4: if there is no such store", CallsTest::askOfNoStore);
        test("4: or transfer", CallsTest::askOfNoTransfer);
        test("4: if the store is down", CallsTest::askOfAStoreThatIsDown);
        test("4: or not ready for it", CallsTest::askIfNotReady);
        test("4: it may ask again", CallsTest::askTwice);
    }

    private static void ofMessages() {
        test("5: if there is no such place", CallsTest::noPlaceToDeliver);
        test("5: false if it is lost", CallsTest::deliverTellsWhetherItIsHandled);
        test("5: Undoable, also if it is lost", CallsTest::aLostDeliveryIsUndoable);
        test("6: as long as there is one: none", CallsTest::deliverAllOfNone);
        test("6: the first message", CallsTest::deliverAllTakesTheFirst);
        test("6: lost ones among them", CallsTest::deliverAllCountsLostOnes);
        test("6: as long as there is one: sixty", CallsTest::deliverAllOfAFullRow);
        test("7: if there is no such place", CallsTest::noPlaceToLose);
        test("7: its kind", CallsTest::loseTellsTheKind);
        test("7: the last of sixty", CallsTest::loseOfTheLastOfSixty);
        test("8: how many sites are up then", CallsTest::crashTellsHowManyAreUp);
        test("8: if there is no such site", CallsTest::crashOfNoSite);
        test("8: if it is down", CallsTest::crashOfOneThatIsDown);
        test("9: how many messages wait then", CallsTest::recoverTellsWhatWaits);
        test("9: if there is no such site", CallsTest::recoverOfNoSite);
        test("9: if it is up", CallsTest::recoverOfOneThatIsUp);
        test("14: how many messages wait", CallsTest::keepTellsWhatWaits);
        test("14: in place of the one that was", CallsTest::keepInPlaceOfTheOneThatWas);
        test("14: of all that undo() would restore", CallsTest::keepOfAllThatUndoRestores);
        test("15: all that undo() would restore", CallsTest::goBackRestoresAll);
        test("16: all but the buffer, the snapshot and the saved states", CallsTest::undoRestoresAll);
        test("14: it is not undoable", CallsTest::keepSavesNoState);
        test("15: if there is no snapshot", CallsTest::goBackWithoutASnapshot);
        test("15: which stays", CallsTest::goBackKeepsTheSnapshot);
        test("15: Undoable", CallsTest::goBackIsUndoable);
        test("16: if there is none", CallsTest::undoWithoutASavedState);
        test("16: how many saved states are left", CallsTest::undoTellsHowManyAreLeft);
        test("16: the latest saved state, behind many calls", CallsTest::undoOfLongRuns);
    }

    private static void ofLooks() {
        test("17: how many", CallsTest::transfersFromNoneToEight);
        test("18, 26 to 30, 45: if there is no such transfer", CallsTest::looksAtNoTransfer);
        test("19, 23, 24: if there is no such transfer", CallsTest::looksAtNoTransferOfAStore);
        test("18, 23: one that was undone is none", CallsTest::looksAtAnUndoneTransfer);
        test("21, 22, 25, 46: if there is no such store", CallsTest::looksAtNoStore);
        test("19, 23, 24: if there is no such store", CallsTest::looksAtNoStoreOfATransfer);
        test("20, 33, 34, 35: if there is no such site", CallsTest::looksAtNoSite);
        test("19: 0 if it does not take part", CallsTest::noShareWithoutPart);
        test("19: below 0 if it gives", CallsTest::theLeastAndTheGreatestShare);
        test("22: 100, and no shares", CallsTest::amountsByEmptyLogs);
        test("22: the same as amount()", CallsTest::amountsByLogsDownToZero);
        test("21, 22, 31: the greatest amount", CallsTest::theGreatestAmount);
        test("23, 24: the state, 0 to 3", CallsTest::statesOfAllKinds);
        test("25: for how many transfers: none to eight", CallsTest::inDoubtForNoneToEight);
        test("25: no more when made or dropped", CallsTest::inDoubtNoMoreWhenMadeOrDropped);
        test("26: 1, 2, or 0 if it is undecided", CallsTest::outcomesOfAllKinds);
        test("26: by the log of the clerk, also if it is down", CallsTest::outcomesOfADownClerk);
        test("27: 0 if none has done either", CallsTest::outcomeByStoresThatDidNothing);
        test("27: 1 if some store has made it", CallsTest::outcomeByOneStoreThatMadeIt);
        test("27: 2 if some has dropped it", CallsTest::outcomeByOneStoreThatDroppedIt);
        test("27: 1 or 2 of all", CallsTest::outcomeByAllStores);
        test("29: the stores, as a mask", CallsTest::saidYesFromNoneToAll);
        test("28, 30: the stores, as a mask", CallsTest::saidDoneFromNoneToAll);
        test("32: with total() it is 400", CallsTest::onTheWayWithTheTotal);
        test("32: transfers that are decided to be made: none", CallsTest::nothingOnTheWay);
        test("32: of stores that have not made them yet", CallsTest::onTheWayAboveAndBelowZero);
        test("34, 35: NONE if there are not so many", CallsTest::recordsThatAreNot);
        test("34, 35: or place is below 0", CallsTest::recordsBelowZero);
        test("34, 35: if there is no such site, at any place", CallsTest::recordsOfNoSiteAndNoPlace);
        test("37, 38, 39: NONE if there are not so many", CallsTest::messagesThatAreNot);
        test("37, 38, 39: NONE behind those that were taken out", CallsTest::messagesThatWereTakenOut);
        test("37, 38, 39: if place is below 0", CallsTest::messagesBelowZero);
        test("36: how many: none to sixty", CallsTest::waitingFromNoneToSixty);
        test("40, 41: lost ones among them", CallsTest::sentWithLostOnesAmongThem);
        test("42: for whatever reason", CallsTest::lostForWhateverReason);
    }

    private static void ofWhatWouldBe() {
        test("43: how many: none", CallsTest::wouldSendNothing);
        test("43: NONE if it would be lost", CallsTest::wouldBeLost);
        test("43: how many: to all", CallsTest::wouldSendToAll);
        test("43: how many would be sent, also if they are lost", CallsTest::wouldSendToAFullRow);
        test("43: if there is no such place", CallsTest::wouldSendAtNoPlace);
        test("43: nothing is changed", CallsTest::wouldSendChangesNothing);
        test("44: how many: none", CallsTest::nothingToSettle);
        test("44: as by deliverAll()", CallsTest::settlingWhenAllAreUp);
        test("45: the outcome() then", CallsTest::outcomesWhenAllAreUp);
        test("46: the amount() then", CallsTest::amountsWhenAllAreUp);
        test("44 to 46: if all sites that are down were up again", CallsTest::settlingWithoutLossOfThoseThatAreDown);
        test("44 to 46: the clerk first", CallsTest::theClerkIsUpFirst);
        test("44 to 46: then the stores by numbers", CallsTest::thenTheStoresByNumbers);
        test("44 to 46: what is undecided then", CallsTest::whatIsStuckStaysSo);
        test("44 to 46: nothing is changed", CallsTest::settlingChangesNothing);
        test("47: at most 50", CallsTest::theSizeIsAtMostFifty);
        test("47: 0 if there is none", CallsTest::theSizeIsZeroIfThereIsNone);
        test("47: to which all who take part would say yes", CallsTest::theSizeIsWhatIsSaidYesTo);
        test("47: up or down", CallsTest::theSizeUpOrDown);
        test("47: whether the clerk is up does not matter", CallsTest::theSizeWithoutAClerk);
        test("47: how many transfers were begun does not matter", CallsTest::theSizeBehindEightTransfers);
        test("47: as they stand now", CallsTest::theSizeAsTheyStandNow);
        test("47: if there is no such store", CallsTest::theSizeOfNoStore);
        test("47: if to is not from 1 to 15", CallsTest::theSizeToNoMask);
        test("47: or has the store from", CallsTest::theSizeToTheGiver);
    }

    private static void ofSharesAndTheDigest() {
        test("48: 0.0 without messages", CallsTest::noShareWithoutMessages);
        test("48: from none to all", CallsTest::lostSharesFromNoneToAll);
        test("48: as a double", CallsTest::lostSharesAsDoubles);
        test("49: 0.0f without transfers", CallsTest::noMeanWithoutTransfers);
        test("49: from 1 to 50", CallsTest::meansFromOneToFifty);
        test("49: as a float", CallsTest::meansAsFloats);
        test("50: The hash starts at 4219, with overflow", CallsTest::digestOfANewObject);
        test("50: for each transfer, record and message", CallsTest::digestOfATransfer);
        test("50: 1 if there is a snapshot, otherwise 0", CallsTest::digestOfTheSnapshot);
        test("50: the length of the buffer and each of its character codes", CallsTest::digestOfTheBuffer);
        test("50: a full buffer", CallsTest::digestOfAFullBuffer);
        test("50: how many saved states there are", CallsTest::digestOfSavedStates);
        test("50: 1 for true, 0 for false", CallsTest::digestOfSitesThatAreDown);
        test("50: nothing is changed", CallsTest::digestChangesNothing);
    }

    public static void main(String[] args) {
        ofTransfers();
        ofMessages();
        ofLooks();
        ofWhatWouldBe();
        ofSharesAndTheDigest();
        end();
    }
}
