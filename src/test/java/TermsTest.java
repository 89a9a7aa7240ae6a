/** For each sentence under "Terms" of the document that names a boundary case, a test of its own, named by its words. */
public final class TermsTest extends Checks {
    // ---- sites, transfers

    private static void fiveSites() {
        VoteLogs x = new VoteLogs();
        due(x.isUp(0), true);
        due(x.isUp(4), true);
        noIndex(x, () -> x.isUp(5));
        noIndex(x, () -> x.isUp(-1));
    }

    private static void theClerkIsNoStore() {
        VoteLogs x = new VoteLogs();
        due(x.amount(3), 100);
        noIndex(x, () -> x.amount(4));
        noIndex(x, () -> x.begin(4, 1, 1));
        due(x.crash(4), 4);
    }

    private static void allAreUpAtFirst() {
        VoteLogs x = new VoteLogs();
        for (int site = 0; site < 5; site++) {
            due(x.isUp(site), true);
        }
    }

    private static void upOrDown() {
        VoteLogs x = new VoteLogs();
        for (int site = 0; site < 5; site++) {
            x.crash(site);
            due(x.isUp(site), false);
            x.recover(site);
            due(x.isUp(site), true);
        }
    }

    private static void amountsAtFirst() {
        due(amounts(new VoteLogs()), "100 100 100 100");
    }

    private static void anAmountCanBeZero() {
        VoteLogs x = after("b0>12:50;d9;d9");
        due(amounts(x), "0 150 150 100");
    }

    private static void noAmountIsBelowZero() {
        VoteLogs x = after("b0>12:50;d9;d9;b0>3:1;d9;d9");
        due(x.outcome(1), 2);
        due(amounts(x), "0 150 150 100");
    }

    private static void atMostEightTransfers() {
        VoteLogs x = afterBegins(7);
        due(x.begin(0, 2, 1), 7);
        noState(x, () -> x.begin(0, 2, 1));
        due(x.transfers(), 8);
    }

    private static void transfersAreNumberedFromZero() {
        VoteLogs x = new VoteLogs();
        for (int number = 0; number < 8; number++) {
            due(x.begin(3, 1, 1), number);
        }
    }

    private static void theLeastSize() {
        VoteLogs x = new VoteLogs();
        noArgument(x, () -> x.begin(0, 14, 0));
        due(x.begin(0, 14, 1), 0);
        due(x.share(0, 0), -3);
        due(x.share(0, 3), 1);
    }

    private static void theGreatestSize() {
        VoteLogs x = new VoteLogs();
        noArgument(x, () -> x.begin(0, 14, 51));
        due(x.begin(0, 14, 50), 0);
        due(x.share(0, 0), -150);
        due(x.share(0, 3), 50);
    }

    private static void oneOrMoreOthers() {
        VoteLogs x = new VoteLogs();
        noArgument(x, () -> x.begin(0, 0, 1));
        x.begin(0, 8, 1);
        due(x.partners(0), 9);
        x.begin(0, 14, 1);
        due(x.partners(1), 15);
    }

    private static void theGiverGivesAllThat() {
        VoteLogs x = after("b2>0:7;b2>01:7;b2>013:7");
        due(x.share(0, 2), -7);
        due(x.share(1, 2), -14);
        due(x.share(2, 2), -21);
        for (int transfer = 0; transfer < 3; transfer++) {
            due(x.share(transfer, 0), 7);
        }
    }

    private static void statesAtFirst() {
        VoteLogs x = after("b0>123:1");
        for (int store = 0; store < 4; store++) {
            due(x.state(store, 0), 0);
        }
        due(x.outcome(0), 0);
    }

    // ---- logs

    private static void kindsOfRecords() {
        VoteLogs x = after("b0>12:50;b0>3:1;d9;d9;d9");
        due(log(x, 4), "00 01 10 21 30 31");
        due(log(x, 0), "40 21 10");
        due(log(x, 1), "40 10");
        due(log(x, 3), "41 21");
    }

    private static void logsStayInCrashes() {
        VoteLogs x = after("b0>12:50;b0>3:1;d9;d9;d9;c0;c1;c2;c3;c4");
        due(log(x, 4), "00 01 10 21 30 31");
        due(log(x, 0), "40 21 10");
        due(log(x, 1), "40 10");
    }

    private static void anAmountChangesAtTheRecordMade() {
        VoteLogs x = after("b0>1:5");
        x.deliver(0);
        due(log(x, 0), "40");
        due(x.amount(0), 100);
        x.deliver(0);
        x.deliver(0);
        x.deliver(0);
        due(x.outcome(0), 1);
        due(amounts(x), "100 100 100 100");
        x.deliver(0);
        due(log(x, 0), "40 10");
        due(amounts(x), "95 100 100 100");
        x.deliver(0);
        due(amounts(x), "95 105 100 100");
    }

    private static void noAmountChangesAtOtherRecords() {
        VoteLogs x = after("b0>1:5;d2;g0;d9");
        due(log(x, 0), "40 20");
        due(log(x, 1), "40 20");
        due(amounts(x), "100 100 100 100");
    }

    private static void fullLogs() {
        VoteLogs x = new VoteLogs();
        for (int i = 0; i < 8; i++) {
            x.begin(i % 4, 15 - (1 << i % 4), 1);
            x.deliverAll();
        }
        due(x.records(4), 24);
        due(x.recordKind(4, 23), 3);
        due(x.recordTransfer(4, 23), 7);
        due(x.recordKind(4, 24), -1);
        for (int store = 0; store < 4; store++) {
            due(x.records(store), 16);
            due(x.recordKind(store, 15), 1);
            due(x.recordTransfer(store, 15), 7);
            due(x.recordKind(store, 16), -1);
        }
        due(amounts(x), "100 100 100 100");
    }

    // ---- messages

    /** The message that waits first is told by its kind; its store and the clerk crash in turn. */
    private static void goesToStore(VoteLogs x, int kind, int store) {
        due(x.kindOf(0), kind);
        due(x.storeOf(0), store);
        x.crash(store);
        due(x.deliver(0), false);
        x.undo();
        x.undo();
        x.crash(4);
        due(x.deliver(0), true);
    }

    private static void goesToClerk(VoteLogs x, int kind, int store) {
        due(x.kindOf(0), kind);
        due(x.storeOf(0), store);
        x.crash(4);
        due(x.deliver(0), false);
        x.undo();
        x.undo();
        x.crash(store);
        due(x.deliver(0), true);
    }

    private static void askingGoesToTheStore() {
        goesToStore(after("b1>0:5"), 0, 0);
    }

    private static void yesGoesToTheClerk() {
        goesToClerk(after("b1>0:5;d2"), 1, 0);
    }

    private static void noGoesToTheClerk() {
        goesToClerk(after("b1>023:50;d1;d1;l0;l0;l0"), 2, 1);
    }

    private static void makeGoesToTheStore() {
        goesToStore(after("b1>0:5;d4"), 3, 0);
    }

    private static void dropGoesToTheStore() {
        goesToStore(after("b1>0:5;d2;g0;l0;l0"), 4, 0);
    }

    private static void doneGoesToTheClerk() {
        goesToClerk(after("b1>0:5;d6"), 5, 0);
    }

    private static void whatNowGoesToTheClerk() {
        goesToClerk(after("b1>0:5;d2;l0;l0;q00"), 6, 0);
    }

    private static void newMessagesWaitBehind() {
        VoteLogs x = after("b0>1:5;b2>3:1");
        due(row(x), "000 001 012 013");
        x.deliver(2);
        due(row(x), "000 001 013 112");
        x.ask(2, 1);
        due(row(x), "000 001 013 112 612");
    }

    /** 59 wait, and the store 0 can ask again. */
    private static VoteLogs withRoomForOne() {
        VoteLogs x = afterBegins(8);
        x.deliver(0);
        for (int i = 0; i < 27; i++) {
            x.ask(0, 0);
        }
        due(x.waiting(), 59);
        due(x.lost(), 0);
        due(x.sent(), 60);
        return x;
    }

    private static void theSixtiethWaits() {
        VoteLogs x = withRoomForOne();
        due(x.ask(0, 0), 60);
        due(x.lost(), 0);
        due(x.sent(), 61);
        due(x.kindOf(59), 6);
        due(x.kindOf(60), -1);
    }

    private static void theSixtyFirstIsLost() {
        VoteLogs x = withRoomForOne();
        x.ask(0, 0);
        due(x.ask(0, 0), 60);
        due(x.lost(), 1);
        due(x.sent(), 62);
        due(x.sentByAccount(), 62);
        due(x.kindOf(60), -1);
    }

    private static void ordersOfNumbersWhenItGetsFull() {
        VoteLogs x = withRoomForOne();
        due(x.giveUp(3), 60);
        due(x.outcome(3), 2);
        due(x.kindOf(59), 4);
        due(x.transferOf(59), 3);
        due(x.storeOf(59), 0);
        due(x.lost(), 3);
        due(x.sent(), 64);
    }

    private static void whatIsTakenOutMakesRoom() {
        VoteLogs x = withRoomForOne();
        x.ask(0, 0);
        due(x.kindOf(0), 0);
        due(x.deliver(0), true);
        due(x.waiting(), 60);
        due(x.lost(), 0);
        due(x.kindOf(59), 1);
    }

    private static void askingsAreSentByNumbers() {
        due(row(after("b3>012:1")), "000 001 002 003");
        due(row(after("b2>0:1")), "000 002");
    }

    private static void ordersAreSentByNumbers() {
        due(row(after("b3>02:1;d6")), "300 302 303");
        due(row(after("b3>02:1;d3;g0;l0;l0;l0")), "400 402 403");
    }

    private static void theFirstPlace() {
        VoteLogs x = after("b0>123:1");
        due(x.deliver(0), true);
        due(row(x), "001 002 003 100");
    }

    private static void aPlaceAmidTheRow() {
        VoteLogs x = after("b0>123:1");
        due(x.deliver(2), true);
        due(row(x), "000 001 003 102");
    }

    private static void theLastPlace() {
        VoteLogs x = after("b0>123:1");
        due(x.deliver(3), true);
        due(row(x), "000 001 002 103");
    }

    private static void theLastPlaceOfAFullRow() {
        VoteLogs x = withRoomForOne();
        x.ask(0, 0);
        due(x.deliver(59), true);
        due(x.waiting(), 59);
        due(x.lost(), 0);
    }

    private static void toASiteThatIsDown() {
        VoteLogs x = after("b0>1:1;d1;c1;c4");
        due(row(x), "001 100");
        due(x.deliver(0), false);
        due(x.deliver(0), false);
        due(x.waiting(), 0);
        due(x.lost(), 2);
        due(x.state(1, 0), 0);
        due(x.saidYes(0), 0);
        due(x.sent(), 3);
    }

    private static void fromASiteThatIsDown() {
        VoteLogs x = after("b0>1:1;d1;c0;c4");
        due(row(x), "001 100");
        due(x.deliver(0), true);
        due(x.state(1, 0), 1);
        x.recover(4);
        due(row(x), "100 101 400 401");
        x.deliver(2);
        due(x.lost(), 1);
        due(x.deliver(0), true);
    }

    // ---- what stores do

    private static void exactlyNothingIsLeft() {
        VoteLogs x = after("b0>12:50;d1");
        due(x.state(0, 0), 1);
        due(log(x, 0), "40");
        due(row(x), "001 002 100");
    }

    private static void oneTooMuchIsGiven() {
        VoteLogs x = after("b0>12:50;d9;d9;b3>0:1;d9;b0>12:1;d1");
        due(x.amount(0), 1);
        due(x.state(0, 2), 3);
        due(log(x, 0), "40 10 41 11 22");
        due(row(x), "021 022 220");
    }

    private static void sharesThatItIsReadyToGive() {
        VoteLogs x = after("b0>1:50;b0>1:49;b0>1:1;b0>1:1");
        for (int i = 0; i < 4; i++) {
            x.deliver(placeOf(x, 0, i, 0));
        }
        due(log(x, 0), "40 41 42 23");
    }

    private static void sharesThatItIsReadyToGet() {
        VoteLogs x = after("b1>0:50;b0>12:50;b0>1:1");
        for (int i = 0; i < 3; i++) {
            x.deliver(placeOf(x, 0, i, 0));
        }
        due(log(x, 0), "40 41 22");
    }

    /** A share that was given is in the amount, and doesn't count twice. */
    private static void sharesThatWereGiven() {
        VoteLogs x = after("b0>1:40;d8;b0>12:30;d1");
        due(x.amount(0), 60);
        due(log(x, 0), "40 10 41");
    }

    private static void sharesThatWereDropped() {
        VoteLogs x = after("b0>1:50;d1;g0;d9;b0>12:50;d1");
        due(log(x, 0), "40 20 41");
    }

    /** Only its own share in another transfer counts for a store. */
    private static void sharesOfOthers() {
        VoteLogs x = after("b1>2:50;b0>12:50;d1;d1;d1");
        due(log(x, 0), "41");
    }

    private static void whoCanNotTakePart() {
        VoteLogs x = after("b0>123:34;d1");
        due(x.state(0, 0), 3);
        due(log(x, 0), "20");
        due(row(x), "001 002 003 200");
        due(x.amount(0), 100);
    }

    private static void whoHasDroppedItIsAsked() {
        VoteLogs x = after("b0>1:5;g0");
        x.deliver(placeOf(x, 4, 0, 1));
        due(log(x, 1), "20");
        x.deliver(placeOf(x, 0, 0, 1));
        due(log(x, 1), "20");
        due(row(x), "000 400 501 201");
    }

    private static void whoIsReadyMakesIt() {
        VoteLogs x = after("b0>1:5;d5");
        due(x.state(0, 0), 2);
        due(log(x, 0), "40 10");
        due(row(x), "301 500");
    }

    private static void makeComesTwice() {
        VoteLogs x = after("b0>1:5;d4;c4;r4");
        due(row(x), "300 301 300 301");
        x.deliver(0);
        x.deliver(1);
        due(row(x), "301 301 500 500");
        due(log(x, 0), "40 10");
        due(x.amount(0), 95);
    }

    private static void whoIsReadyDropsIt() {
        VoteLogs x = after("b0>1:5;d1;g0");
        x.deliver(placeOf(x, 4, 0, 0));
        due(x.state(0, 0), 3);
        due(log(x, 0), "40 20");
        due(row(x), "001 100 401 500");
    }

    private static void whoDoesNotKnowOfItDropsIt() {
        VoteLogs x = after("b0>1:5;l0;l0;g0;d1");
        due(x.state(0, 0), 3);
        due(log(x, 0), "20");
        due(row(x), "401 500");
    }

    private static void dropComesTwice() {
        VoteLogs x = after("b0>1:5;l0;l0;g0;c4;r4");
        due(row(x), "400 401 400 401");
        x.deliver(0);
        x.deliver(1);
        due(row(x), "401 401 500 500");
        due(log(x, 0), "20");
    }

    // ---- what the clerk does

    private static void theClerkBegins() {
        VoteLogs x = after("b1>3:5;b0>123:5");
        due(log(x, 4), "00 01");
        due(row(x), "001 003 010 011 012 013");
    }

    private static void oneYesIsMissing() {
        VoteLogs x = after("b0>123:1;d7");
        due(x.saidYes(0), 7);
        due(x.outcome(0), 0);
        due(row(x), "103");
        due(log(x, 4), "00");
    }

    private static void theLastYes() {
        VoteLogs x = after("b0>123:1;d8");
        due(x.saidYes(0), 15);
        due(x.outcome(0), 1);
        due(row(x), "300 301 302 303");
        due(log(x, 4), "00 10");
    }

    private static void theLastYesOfTwo() {
        VoteLogs x = after("b3>1:1;d3");
        due(x.outcome(0), 0);
        x.deliver(0);
        due(x.outcome(0), 1);
        due(row(x), "301 303");
    }

    private static void yesBehindTheDecision() {
        VoteLogs x = after("b0>1:5;d3;g0");
        due(row(x), "101 400 401");
        due(x.deliver(0), true);
        due(x.saidYes(0), 1);
        due(row(x), "400 401");
        due(log(x, 4), "00 20");
    }

    private static void noOfAnUndecidedOne() {
        VoteLogs x = after("b0>123:34;d5");
        due(x.outcome(0), 2);
        due(log(x, 4), "00 20");
        due(row(x), "101 102 103 400 401 402 403");
    }

    private static void noBehindTheDecision() {
        VoteLogs x = after("b0>123:34;d1;g0");
        due(x.deliver(placeOf(x, 2, 0, 0)), true);
        due(log(x, 4), "00 20");
        due(row(x), "001 002 003 400 401 402 403");
    }

    private static void oneDoneIsMissing() {
        VoteLogs x = after("b0>12:1;d9;d2");
        due(x.saidDone(0), 3);
        due(x.hasEnded(0), false);
        due(log(x, 4), "00 10");
    }

    private static void theLastDone() {
        VoteLogs x = after("b0>12:1;d9;d3");
        due(x.saidDone(0), 7);
        due(x.hasEnded(0), true);
        due(log(x, 4), "00 10 30");
        due(x.waiting(), 0);
    }

    private static void theLastDoneOfDrops() {
        VoteLogs x = after("b0>12:1;g0;d9;d2");
        due(x.hasEnded(0), false);
        x.deliver(0);
        due(x.hasEnded(0), true);
        due(log(x, 4), "00 20 30");
    }

    private static void doneTwiceOfOneStore() {
        VoteLogs x = after("b0>1:1;d4;c4;r4");
        x.deliver(placeOf(x, 3, 0, 0));
        x.deliver(placeOf(x, 3, 0, 0));
        due(row(x), "301 301 500 500");
        x.deliver(2);
        x.deliver(2);
        due(x.saidDone(0), 1);
        due(x.hasEnded(0), false);
    }

    private static void doneBehindTheEnd() {
        VoteLogs x = after("b0>1:1;d4;c4;r4;d6;c4");
        due(x.hasEnded(0), true);
        due(x.saidDone(0), 0);
        due(row(x), "500 501");
        x.recover(4);
        x.deliver(0);
        due(x.saidDone(0), 1);
    }

    private static void itEndsOnce() {
        VoteLogs x = after("b0>1:1;d4;c4;r4;d6;c4;r4;d2");
        due(x.saidDone(0), 3);
        due(x.hasEnded(0), true);
        due(log(x, 4), "00 10 30");
    }

    private static void doneMustComeAgainAfterACrash() {
        VoteLogs x = after("b0>1:1;d7;c4;r4");
        due(x.saidDone(0), 0);
        due(row(x), "501 300 301");
        x.deliver(0);
        due(x.hasEnded(0), false);
        x.deliver(0);
        x.deliver(1);
        due(x.hasEnded(0), true);
    }

    private static void whatNowOfAnUndecidedOne() {
        VoteLogs x = after("b0>1:1;d2;q00");
        due(x.deliver(2), true);
        due(row(x), "100 101");
        due(x.sent(), 5);
    }

    private static void whatNowOfOneToBeMade() {
        VoteLogs x = after("b0>12:1;d6;q20");
        x.deliver(placeOf(x, 6, 0, 2));
        due(row(x), "300 301 302 302");
    }

    private static void whatNowOfOneToBeDropped() {
        VoteLogs x = after("b0>12:1;d3;g0;q10");
        x.deliver(placeOf(x, 6, 0, 1));
        due(row(x), "100 101 102 400 401 402 401");
    }

    private static void whatNowOfAnEndedOne() {
        VoteLogs x = after("b0>1:1;d4;q00;d2");
        due(row(x), "600 500 501");
        x.deliver(1);
        x.deliver(1);
        due(x.hasEnded(0), true);
        x.deliver(0);
        due(row(x), "300");
    }

    // ---- crashes, recovery

    private static void aClerkThatIsDownDoesNothing() {
        VoteLogs x = after("b0>1:1;c4");
        noState(x, () -> x.begin(0, 2, 1));
        noState(x, () -> x.giveUp(0));
        due(x.deliverAll(), 4);
        due(log(x, 4), "00");
        due(x.lost(), 2);
    }

    private static void aStoreThatIsDownDoesNothing() {
        VoteLogs x = after("b0>1:1;d1;c0;c1");
        noState(x, () -> x.ask(0, 0));
        x.deliver(0);
        due(x.records(1), 0);
        due(x.state(1, 0), 0);
        due(x.amount(0), 100);
    }

    private static void theClerkForgetsWhoSaidYes() {
        VoteLogs x = after("b0>1:1;b2>3:1;d5;l2");
        due(x.saidYes(0), 1);
        x.crash(4);
        due(x.saidYes(0), 0);
        due(x.saidYes(1), 0);
    }

    private static void theClerkForgetsYesOfDecidedOnes() {
        VoteLogs x = after("b0>1:1;d8;b2>3:1;d3");
        due(x.saidYes(0), 3);
        due(x.saidYes(1), 4);
        x.crash(4);
        due(x.saidYes(0), 0);
        due(x.saidYes(1), 0);
    }

    private static void theClerkForgetsWhoSaidDone() {
        VoteLogs x = after("b0>1:1;d8;b2>3:1;d7");
        due(x.saidDone(0), 3);
        due(x.saidDone(1), 4);
        x.crash(4);
        due(x.saidDone(0), 0);
        due(x.saidDone(1), 0);
    }

    private static void theClerkRemembersWhatItWrote() {
        VoteLogs x = after("b0>1:1;d8;b2>3:1;d4;c4");
        due(x.outcome(0), 1);
        due(x.hasEnded(0), true);
        due(x.outcome(1), 1);
        due(x.hasEnded(1), false);
        due(x.transfers(), 2);
    }

    private static void aCrashOfAStoreForgetsNothing() {
        VoteLogs x = after("b0>1:1;d3;c0;c1");
        due(x.saidYes(0), 1);
        due(x.state(0, 0), 1);
        due(x.inDoubt(1), 1);
        due(x.amount(0), 100);
    }

    private static void messagesStayInCrashes() {
        VoteLogs x = after("b0>1:1;d1;c0;c1;c2;c3;c4");
        due(row(x), "001 100");
        due(x.lost(), 0);
    }

    private static void anUndecidedOneIsDropped() {
        VoteLogs x = after("b0>1:1;l0;l0;c4;r4");
        due(log(x, 4), "00 20");
        due(row(x), "400 401");
    }

    private static void oneWithAllButOneYesIsDropped() {
        VoteLogs x = after("b0>1:1;d3;c4;r4");
        due(log(x, 4), "00 20");
        due(row(x), "101 400 401");
    }

    private static void makeIsSentAgain() {
        VoteLogs x = after("b0>12:1;d9;d2");
        due(row(x), "502");
        x.crash(4);
        due(x.recover(4), 4);
        due(row(x), "502 300 301 302");
        due(log(x, 4), "00 10");
    }

    private static void dropIsSentAgain() {
        VoteLogs x = after("b0>1:1;g0;l0;l0;l0;l0;c4;r4");
        due(row(x), "400 401");
        due(log(x, 4), "00 20");
    }

    private static void nothingIsSentOfEndedOnes() {
        VoteLogs x = after("b0>1:1;b2>3:1;g1;d9;d9;c4");
        due(x.waiting(), 0);
        due(x.recover(4), 0);
        due(log(x, 4).length(), 17);
    }

    private static void theClerkGoesByNumbers() {
        VoteLogs x = after("b0>1:1;b0>1:1;b0>1:1;g1;l0;l0;l0;l0;l0;l0;l0;l0;c4;r4");
        due(row(x), "400 401 410 411 420 421");
        due(log(x, 4), "00 01 02 21 20 22");
    }

    private static void aStoreAsksForAllReadyOnes() {
        VoteLogs x = after("b0>1:1;b0>1:1;b0>1:1");
        x.deliver(4);
        x.deliver(2);
        x.deliver(0);
        x.crash(0);
        due(x.recover(0), 9);
        due(row(x), "001 011 021 120 110 100 600 610 620");
    }

    private static void aStoreAsksForReadyOnesAlone() {
        VoteLogs x = after("b0>1:50;d8;b0>123:50;d1;b0>1:1;b0>1:1");
        due(x.state(0, 0), 2);
        due(x.state(0, 1), 3);
        x.deliver(placeOf(x, 0, 2, 0));
        due(x.state(0, 2), 1);
        due(x.state(0, 3), 0);
        int waiting = x.waiting();
        x.crash(0);
        due(x.recover(0), waiting + 1);
        due(x.kindOf(waiting), 6);
        due(x.transferOf(waiting), 2);
        due(x.storeOf(waiting), 0);
    }

    private static void aStoreThatKnowsOfNothingAsksNothing() {
        VoteLogs x = after("b0>1:1;c2;r2;c0;r0");
        due(row(x), "000 001");
    }

    // ---- undo

    private static void sixStatesAreSaved() {
        VoteLogs x = afterBegins(6);
        for (int left = 5; left >= 0; left--) {
            due(x.undo(), left);
            due(x.transfers(), left);
        }
        noState(x, () -> x.undo());
    }

    private static void theOldestIsDroppedFirst() {
        VoteLogs x = afterBegins(8);
        for (int left = 5; left >= 0; left--) {
            due(x.undo(), left);
            due(x.transfers(), left + 2);
        }
        noState(x, () -> x.undo());
        due(x.transfers(), 2);
    }

    private static void savedAlsoIfNothingChanges() {
        VoteLogs x = new VoteLogs();
        x.deliverAll();
        due(x.undo(), 0);
        run(x, "r0");
        due(x.undo(), 0);
        x.keep();
        x.goBack();
        x.goBack();
        due(x.undo(), 1);
    }

    /** An object for which each undoable call is free, and a state is saved. */
    private static VoteLogs readyForAll() {
        VoteLogs x = after("b0>1:5;b1>23:6;d3;c3");
        x.keep();
        return x;
    }

    private static void undone(VoteLogs x, Call call) {
        long before = x.digest();
        call.answer();
        due(x.digest() == before, false);
        due(x.undo(), 1);
        due(x.digest(), before);
    }

    private static void beginIsUndoable() {
        VoteLogs x = readyForAll();
        undone(x, () -> x.begin(0, 2, 1));
    }

    private static void giveUpIsUndoable() {
        VoteLogs x = readyForAll();
        undone(x, () -> x.giveUp(0));
    }

    private static void askIsUndoable() {
        VoteLogs x = readyForAll();
        undone(x, () -> x.ask(0, 0));
    }

    private static void deliverIsUndoable() {
        VoteLogs x = readyForAll();
        for (int place = x.waiting() - 1; place >= 0; place--) {
            int at = place;
            undone(x, () -> x.deliver(at));
        }
    }

    private static void deliverAllIsUndoable() {
        VoteLogs x = readyForAll();
        undone(x, () -> x.deliverAll());
    }

    private static void loseIsUndoable() {
        VoteLogs x = readyForAll();
        undone(x, () -> x.lose(1));
    }

    private static void crashIsUndoable() {
        VoteLogs x = readyForAll();
        undone(x, () -> x.crash(0));
        undone(x, () -> x.crash(4));
    }

    private static void recoverIsUndoable() {
        VoteLogs x = readyForAll();
        undone(x, () -> x.recover(3));
    }

    private static void goBackIsUndoable() {
        VoteLogs x = readyForAll();
        undone(x, () -> x.goBack());
    }

    private static void refusedCallsSaveNothing() {
        VoteLogs x = after("b0>1:1");
        noIndex(x, () -> x.begin(4, 1, 1));
        noArgument(x, () -> x.begin(0, 1, 1));
        noIndex(x, () -> x.giveUp(1));
        noState(x, () -> x.ask(0, 0));
        noIndex(x, () -> x.deliver(2));
        noIndex(x, () -> x.lose(2));
        noIndex(x, () -> x.crash(5));
        noState(x, () -> x.recover(0));
        noArgument(x, () -> x.runCourse());
        noState(x, () -> x.goBack());
        due(x.undo(), 0);
        due(x.transfers(), 0);
    }

    private static void otherCallsSaveNothing() {
        VoteLogs x = after("b0>1:1;d1");
        x.keep();
        x.append('d');
        x.firstError();
        x.clearBuffer();
        x.wouldSend(0);
        x.messagesToSettle();
        x.outcomeIfSettled(0);
        x.amountIfSettled(0);
        x.greatestSize(0, 2);
        x.digest();
        due(x.undo(), 0);
        due(x.transfers(), 0);
        noState(x, () -> x.undo());
    }

    private static void theBufferIsNotRestored() {
        VoteLogs x = new VoteLogs();
        type(x, "d1");
        x.crash(0);
        x.append(';');
        due(x.undo(), 0);
        due(x.clearBuffer(), 3);
        due(run(x, "c0"), 1);
        x.undo();
        due(x.isUp(0), true);
        due(x.clearBuffer(), 0);
    }

    private static void theSnapshotIsNotRestored() {
        VoteLogs x = new VoteLogs();
        x.crash(0);
        x.keep();
        x.undo();
        due(x.goBack(), 0);
        due(x.isUp(0), false);
        x.crash(1);
        x.keep();
        x.undo();
        x.undo();
        x.goBack();
        due(x.isUp(1), false);
    }

    private static void theSavedStatesAreNotRestored() {
        VoteLogs x = new VoteLogs();
        x.keep();
        x.crash(0);
        x.crash(1);
        x.goBack();
        due(x.undo(), 2);
        due(x.undo(), 1);
        due(x.undo(), 0);
        noState(x, () -> x.undo());
    }

    // ---- exceptions

    /** Refused calls of each kind, on an object that has all that they could change. */
    private static void refusedCallsChangeNothing() {
        VoteLogs x = after("b0>1:1;d3;c3");
        x.keep();
        x.giveUp(0);
        type(x, "d1;");
        Call[] calls = {() -> x.begin(-1, 0, 0), () -> x.begin(0, 16, 1), () -> x.giveUp(0), () -> x.giveUp(-1), () -> x.ask(3, 0),
            () -> x.deliver(-1), () -> x.lose(9), () -> x.crash(3), () -> x.recover(4), () -> x.append(127), () -> x.runCourse()};
        long before = x.digest();
        for (Call call : calls) {
            due(isRefused(call), true);
        }
        due(x.digest(), before);
        due(x.clearBuffer(), 3);
        due(x.undo(), 1);
        due(row(x), "101");
        due(x.goBack(), 1);
        due(x.outcome(0), 0);
        due(x.isUp(3), false);
    }

    private static boolean isRefused(Call call) {
        try {
            call.answer();
            return false;
        } catch (IndexOutOfBoundsException | IllegalArgumentException | IllegalStateException e) {
            return true;
        }
    }

    private static void theFirstNamedIsThrown() {
        VoteLogs x = afterBegins(8);
        for (int i = 0; i < 60; i++) {
            x.append('d');
        }
        x.crash(4);
        x.crash(0);
        noIndex(x, () -> x.begin(4, 0, 0));
        noIndex(x, () -> x.begin(-1, 2, 1));
        noArgument(x, () -> x.begin(0, 0, 1));
        noArgument(x, () -> x.begin(0, 1, 1));
        noArgument(x, () -> x.begin(0, 2, 51));
        noState(x, () -> x.begin(0, 2, 1));
        noIndex(x, () -> x.giveUp(8));
        noIndex(x, () -> x.ask(0, 8));
        noIndex(x, () -> x.ask(4, 0));
        noState(x, () -> x.ask(0, 0));
        noArgument(x, () -> x.append(32));
        noState(x, () -> x.append(33));
        noIndex(x, () -> x.greatestSize(4, 0));
    }

    // ---- the life of an object

    private static void fiveHundredAndTwelveCalls() {
        VoteLogs x = new VoteLogs();
        for (int number = 0; number < 8; number++) {
            x.begin(0, 14, 1);
        }
        for (int round = 0; round < 247; round++) {
            x.crash(round % 5);
            x.recover(round % 5);
        }
        for (int i = 0; i < 8; i++) {
            due(x.waiting(), 60);
        }
        due(x.deliverAll() > 60, true);
        due(x.total(), 400);
    }

    private static void ofSitesAndTransfers() {
        test("There are 5 sites: the stores 0 to 3, and the clerk, 4", TermsTest::fiveSites);
        test("the stores 0 to 3: the clerk is none", TermsTest::theClerkIsNoStore);
        test("A site is up or down", TermsTest::upOrDown);
        test("at first all are up", TermsTest::allAreUpAtFirst);
        test("an amount, at first 100", TermsTest::amountsAtFirst);
        test("an amount, 0 to 999: 0 is reached", TermsTest::anAmountCanBeZero);
        test("an amount, 0 to 999: none is below 0", TermsTest::noAmountIsBelowZero);
        test("At most 8 transfers are begun", TermsTest::atMostEightTransfers);
        test("numbered from 0", TermsTest::transfersAreNumberedFromZero);
        test("a size, 1 to 50: 1", TermsTest::theLeastSize);
        test("a size, 1 to 50: 50", TermsTest::theGreatestSize);
        test("from a store to one or more other ones", TermsTest::oneOrMoreOthers);
        test("each of those gets so much, and the one from which it goes gives all that", TermsTest::theGiverGivesAllThat);
        test("0 it does not know of it, at first; undecided (0)", TermsTest::statesAtFirst);
    }

    private static void ofLogs() {
        test("The clerk writes 0 to 3, a store 1, 2 and 4", TermsTest::kindsOfRecords);
        test("Logs stay when a site crashes", TermsTest::logsStayInCrashes);
        test("An amount changes when the store writes the kind 1 of a transfer, by its share", TermsTest::anAmountChangesAtTheRecordMade);
        test("An amount changes at no other record", TermsTest::noAmountChangesAtOtherRecords);
        test("in the order in which they were written: the longest logs", TermsTest::fullLogs);
    }

    private static void ofMessages() {
        test("The kind 0 goes to the store", TermsTest::askingGoesToTheStore);
        test("The kind 1 goes to the clerk", TermsTest::yesGoesToTheClerk);
        test("The kind 2 goes to the clerk", TermsTest::noGoesToTheClerk);
        test("The kind 3 goes to the store", TermsTest::makeGoesToTheStore);
        test("The kind 4 goes to the store", TermsTest::dropGoesToTheStore);
        test("The kind 5 goes to the clerk", TermsTest::doneGoesToTheClerk);
        test("The kind 6 goes to the clerk", TermsTest::whatNowGoesToTheClerk);
        test("wait in a row, the new ones behind", TermsTest::newMessagesWaitBehind);
        test("at most 60 wait: the 60th waits", TermsTest::theSixtiethWaits);
        test("one that is sent when 60 wait is lost", TermsTest::theSixtyFirstIsLost);
        test("one that is sent when 60 wait is lost: lower numbers come first", TermsTest::ordersOfNumbersWhenItGetsFull);
        test("it is taken out, so a full row has room", TermsTest::whatIsTakenOutMakesRoom);
        test("Messages to several stores are sent in the order of their numbers: asking", TermsTest::askingsAreSentByNumbers);
        test("Messages to several stores are sent in the order of their numbers: make, drop", TermsTest::ordersAreSentByNumbers);
        test("from any place of the row: the first", TermsTest::theFirstPlace);
        test("from any place of the row: amid", TermsTest::aPlaceAmidTheRow);
        test("from any place of the row: the last", TermsTest::theLastPlace);
        test("from any place of the row: the last of 60", TermsTest::theLastPlaceOfAFullRow);
        test("if the site to which it goes is down, it is lost", TermsTest::toASiteThatIsDown);
        test("otherwise it is handled: also if the other site is down", TermsTest::fromASiteThatIsDown);
    }

    private static void ofStores() {
        test("together, must be 0 to 999: 0", TermsTest::exactlyNothingIsLeft);
        test("together, must be 0 to 999: -1", TermsTest::oneTooMuchIsGiven);
        test("all shares below 0 (if its share is below 0)", TermsTest::sharesThatItIsReadyToGive);
        test("not the shares above 0 (if its share is below 0)", TermsTest::sharesThatItIsReadyToGet);
        test("of transfers for which it is ready: not of those that it made", TermsTest::sharesThatWereGiven);
        test("of transfers for which it is ready: not of those that it dropped", TermsTest::sharesThatWereDropped);
        test("of transfers for which it is ready: not of those in which it has no part", TermsTest::sharesOfOthers);
        test("otherwise it writes the kind 2, has dropped it, and sends no", TermsTest::whoCanNotTakePart);
        test("A store that knows of it sends no if it has dropped it", TermsTest::whoHasDroppedItIsAsked);
        test("make: a store that is ready writes the kind 1 and has made it", TermsTest::whoIsReadyMakesIt);
        test("make: also if it had made it before, it sends done", TermsTest::makeComesTwice);
        test("drop: a store that is ready", TermsTest::whoIsReadyDropsIt);
        test("drop: or does not know of it, writes the kind 2", TermsTest::whoDoesNotKnowOfItDropsIt);
        test("drop: also if it had dropped it before, it sends done", TermsTest::dropComesTwice);
    }

    private static void ofTheClerk() {
        test("the clerk writes the kind 0 and sends asking to all who take part", TermsTest::theClerkBegins);
        test("when all who take part have said yes: one is missing", TermsTest::oneYesIsMissing);
        test("when all who take part have said yes: the last of four", TermsTest::theLastYes);
        test("when all who take part have said yes: the last of two", TermsTest::theLastYesOfTwo);
        test("yes: if the transfer is undecided", TermsTest::yesBehindTheDecision);
        test("no: if the transfer is undecided, it is decided to be dropped", TermsTest::noOfAnUndecidedOne);
        test("no: nothing if it is decided", TermsTest::noBehindTheDecision);
        test("when all who take part have said done: one is missing", TermsTest::oneDoneIsMissing);
        test("when all who take part have said done: the last", TermsTest::theLastDone);
        test("when all who take part have said done: the last of drops", TermsTest::theLastDoneOfDrops);
        test("when all who take part have said done: not one of them twice", TermsTest::doneTwiceOfOneStore);
        test("done: the clerk remembers it, also behind the end", TermsTest::doneBehindTheEnd);
        test("done: and it is not ended yet", TermsTest::itEndsOnce);
        test("done: what was forgotten must be said again", TermsTest::doneMustComeAgainAfterACrash);
        test("what now: otherwise nothing happens", TermsTest::whatNowOfAnUndecidedOne);
        test("what now: make to the store that asks", TermsTest::whatNowOfOneToBeMade);
        test("what now: drop to the store that asks", TermsTest::whatNowOfOneToBeDropped);
        test("what now: if it is decided, also if it has ended", TermsTest::whatNowOfAnEndedOne);
    }

    private static void ofCrashes() {
        test("A site that is down does nothing: the clerk", TermsTest::aClerkThatIsDownDoesNothing);
        test("A site that is down does nothing: a store", TermsTest::aStoreThatIsDownDoesNothing);
        test("When the clerk crashes, it forgets who said yes", TermsTest::theClerkForgetsWhoSaidYes);
        test("When the clerk crashes, it forgets who said yes: of decided ones too", TermsTest::theClerkForgetsYesOfDecidedOnes);
        test("When the clerk crashes, it forgets who said done", TermsTest::theClerkForgetsWhoSaidDone);
        test("When the clerk crashes, it forgets no more than that", TermsTest::theClerkRemembersWhatItWrote);
        test("When a store crashes, nothing is forgotten", TermsTest::aCrashOfAStoreForgetsNothing);
        test("When sites crash, what waits waits on", TermsTest::messagesStayInCrashes);
        test("if it is undecided, it is decided to be dropped", TermsTest::anUndecidedOneIsDropped);
        test("if it is undecided, it is decided to be dropped: also with a yes", TermsTest::oneWithAllButOneYesIsDropped);
        test("if it was decided, but has not ended, make is sent to all again", TermsTest::makeIsSentAgain);
        test("if it was decided, but has not ended, drop is sent to all again", TermsTest::dropIsSentAgain);
        test("nothing is sent of those that have ended", TermsTest::nothingIsSentOfEndedOnes);
        test("for each transfer, by numbers", TermsTest::theClerkGoesByNumbers);
        test("it sends what now for each transfer for which it is ready, by numbers", TermsTest::aStoreAsksForAllReadyOnes);
        test("it sends what now for no other transfer", TermsTest::aStoreAsksForReadyOnesAlone);
        test("it sends what now for none of which it does not know", TermsTest::aStoreThatKnowsOfNothingAsksNothing);
    }

    private static void ofUndo() {
        test("At most 6 states are saved: six", TermsTest::sixStatesAreSaved);
        test("the oldest one is dropped first", TermsTest::theOldestIsDroppedFirst);
        test("also if it changes nothing", TermsTest::savedAlsoIfNothingChanges);
        test("begin is undoable", TermsTest::beginIsUndoable);
        test("giveUp is undoable", TermsTest::giveUpIsUndoable);
        test("ask is undoable", TermsTest::askIsUndoable);
        test("deliver is undoable", TermsTest::deliverIsUndoable);
        test("deliverAll is undoable", TermsTest::deliverAllIsUndoable);
        test("lose is undoable", TermsTest::loseIsUndoable);
        test("crash is undoable", TermsTest::crashIsUndoable);
        test("recover is undoable", TermsTest::recoverIsUndoable);
        test("goBack is undoable", TermsTest::goBackIsUndoable);
        test("and does not throw an exception", TermsTest::refusedCallsSaveNothing);
        test("Each method that is marked undoable: no other one", TermsTest::otherCallsSaveNothing);
        test("all but the buffer", TermsTest::theBufferIsNotRestored);
        test("all but the snapshot", TermsTest::theSnapshotIsNotRestored);
        test("all but the saved states", TermsTest::theSavedStatesAreNotRestored);
        test("A call that throws an exception changes nothing", TermsTest::refusedCallsChangeNothing);
        test("the one that is named first in the throws clause is thrown", TermsTest::theFirstNamedIsThrown);
        test("An object is used for at most 512 calls", TermsTest::fiveHundredAndTwelveCalls);
    }

    public static void main(String[] args) {
        ofSitesAndTransfers();
        ofLogs();
        ofMessages();
        ofStores();
        ofTheClerk();
        ofCrashes();
        ofUndo();
        end();
    }
}
