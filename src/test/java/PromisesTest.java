/** For each promise of the document, calls with the answers that are due by its words. */
public final class PromisesTest extends Checks {
    // ---- transfers, messages, crashes

    private static void promise1() {
        VoteLogs x = new VoteLogs();
        due(x.transfers(), 0);
        due(x.waiting(), 0);
        due(x.sent(), 0);
        due(x.lost(), 0);
        due(x.total(), 400);
        for (int store = 0; store < 4; store++) {
            due(x.amount(store), 100);
            due(x.inDoubt(store), 0);
        }
        for (int site = 0; site < 5; site++) {
            due(x.isUp(site), true);
            due(x.records(site), 0);
        }
        due(x.clearBuffer(), 0);
        noState(x, () -> x.goBack());
        noState(x, () -> x.undo());
        due(VoteLogs.NONE, -1);
        x.crash(4);
        due(new VoteLogs().isUp(4), true);
    }

    private static void promise2() {
        VoteLogs x = new VoteLogs();
        due(x.begin(2, 9, 50), 0);
        due(row(x), "000 002 003");
        due(log(x, 4), "00");
        due(x.begin(0, 14, 1), 1);
        due(row(x), "000 002 003 010 011 012 013");
        due(log(x, 4), "00 01");
        noNumbersPast(x, 3, n -> x.begin(n, 1, 1));
        noNumbersPast(x, 3, n -> x.begin(n, 0, 0));
        for (int to : new int[] {0, -1, -2, 16, 17, 18, FEW, MANY}) {
            noArgument(x, () -> x.begin(0, to, 1));
        }
        for (int from = 0; from < 4; from++) {
            int store = from;
            noArgument(x, () -> x.begin(store, 1 << store, 1));
            noArgument(x, () -> x.begin(store, 15, 1));
        }
        for (int size : new int[] {0, 51, -1, FEW, MANY}) {
            noArgument(x, () -> x.begin(0, 2, size));
        }
        x.crash(0);
        due(x.begin(0, 2, 1), 2);
        x.crash(4);
        noState(x, () -> x.begin(0, 2, 1));
        noArgument(x, () -> x.begin(0, 1, 1));
        noArgument(x, () -> x.begin(0, 2, 51));
        noIndex(x, () -> x.begin(4, 2, 1));
        x.recover(4);
        for (int number = 3; number < 8; number++) {
            due(x.begin(3, 1, 1), number);
        }
        noState(x, () -> x.begin(3, 1, 1));
        noArgument(x, () -> x.begin(3, 8, 1));
        due(x.undo(), 5);
        due(x.transfers(), 7);
    }

    private static void promise3() {
        VoteLogs x = after("b1>03:5;b2>3:6;d1");
        due(x.giveUp(0), 8);
        due(row(x), "001 003 012 013 100 400 401 403");
        due(x.outcome(0), 2);
        due(x.outcome(1), 0);
        due(log(x, 4), "00 01 20");
        noState(x, () -> x.giveUp(0));
        noNumbersPast(x, 1, n -> x.giveUp(n));
        noIndex(new VoteLogs(), () -> new VoteLogs().giveUp(0));
        x.crash(4);
        noState(x, () -> x.giveUp(1));
        noIndex(x, () -> x.giveUp(2));
        due(x.undo(), 2);
        due(x.giveUp(1), 10);
        x.undo();
        x.undo();
        due(x.outcome(0), 0);
        VoteLogs made = after("b0>1:5;d4");
        due(made.outcome(0), 1);
        noState(made, () -> made.giveUp(0));
    }

    private static void promise4() {
        VoteLogs x = after("b0>1:5;b2>3:6;d1");
        due(x.ask(0, 0), 5);
        due(row(x), "001 012 013 100 600");
        due(x.ask(0, 0), 6);
        noState(x, () -> x.ask(1, 0));
        noState(x, () -> x.ask(0, 1));
        noState(x, () -> x.ask(3, 0));
        noNumbersPast(x, 3, n -> x.ask(n, 0));
        noNumbersPast(x, 1, n -> x.ask(0, n));
        x.crash(4);
        due(x.ask(0, 0), 7);
        x.crash(0);
        noState(x, () -> x.ask(0, 0));
        noIndex(x, () -> x.ask(0, 2));
        noIndex(x, () -> x.ask(4, 0));
        x.undo();
        due(x.undo(), 4);
        due(x.waiting(), 6);
        VoteLogs done = after("b0>1:50;b0>2:50;b0>3:1;d9;d9;d9;d9");
        due(done.state(0, 0), 2);
        due(done.state(0, 2), 3);
        noState(done, () -> done.ask(0, 0));
        noState(done, () -> done.ask(0, 2));
    }

    /** What the stores and the clerk do when a message is handled, row by row. */
    private static void promise5() {
        VoteLogs x = after("b0>1:5");
        due(x.deliver(1), true);
        due(row(x), "000 101");
        due(log(x, 1), "40");
        due(x.deliver(1), true);
        due(row(x), "000");
        due(x.saidYes(0), 2);
        due(x.deliver(0), true);
        due(row(x), "100");
        due(x.deliver(0), true);
        due(row(x), "300 301");
        due(log(x, 4), "00 10");
        due(x.deliver(0), true);
        due(x.amount(0), 95);
        due(log(x, 0), "40 10");
        due(row(x), "301 500");
        due(x.deliver(1), true);
        due(x.saidDone(0), 1);
        due(x.hasEnded(0), false);
        x.crash(1);
        due(x.deliver(0), false);
        due(x.lost(), 1);
        due(x.waiting(), 0);
        due(x.amount(1), 100);
        x.recover(1);
        due(row(x), "601");
        due(x.deliver(0), true);
        due(row(x), "301");
        x.deliver(0);
        due(x.amount(1), 105);
        due(x.deliver(0), true);
        due(log(x, 4), "00 10 30");
        for (int place : new int[] {0, -1, 1, FEW, MANY}) {
            noIndex(x, () -> x.deliver(place));
        }
        due(x.undo(), 5);
        due(row(x), "501");
        due(x.deliver(0), true);
        promise5OfDrops();
        promise5OfCrowds();
        promise5OfClerks();
    }

    private static void promise5OfDrops() {
        VoteLogs x = after("b0>12:50;b0>1:1;b3>1:7");
        x.deliver(0);
        due(x.deliver(2), true);
        due(row(x), "001 002 011 021 023 100 210");
        due(log(x, 0), "40 21");
        x.deliver(6);
        due(row(x), "001 002 011 021 023 100 410 411");
        x.deliver(7);
        due(log(x, 1), "21");
        due(row(x), "001 002 011 021 023 100 410 511");
        x.deliver(2);
        due(row(x), "001 002 021 023 100 410 511 211");
        due(x.records(1), 1);
        x.deliver(7);
        due(x.records(4), 4);
        x.deliver(5);
        due(x.records(0), 2);
        due(row(x), "001 002 021 023 100 511 510");
        x.deliver(6);
        x.deliver(5);
        due(log(x, 4), "00 01 02 21 31");
        due(x.hasEnded(1), true);
        x.giveUp(0);
        due(row(x), "001 002 021 023 100 400 401 402");
        x.deliver(4);
        due(x.saidYes(0), 0);
        x.deliver(4);
        due(log(x, 0), "40 21 20");
        due(x.state(0, 0), 3);
    }

    /** A store that is ready holds back what it might give, and counts nothing that it might get. */
    private static void promise5OfCrowds() {
        VoteLogs x = after("b0>1:50;b0>1:50;b2>0:50;b0>1:1;b0>123:33");
        x.deliver(5);
        due(x.state(0, 2), 0);
        due(x.state(2, 2), 1);
        x.deliver(4);
        due(x.state(0, 2), 1);
        x.deliver(0);
        x.deliver(1);
        due(x.state(0, 0), 1);
        due(x.state(0, 1), 1);
        due(row(x), "001 011 030 031 040 041 042 043 122 120 100 110");
        x.deliver(2);
        due(x.state(0, 3), 3);
        x.deliver(3);
        due(x.state(0, 4), 3);
        VoteLogs y = after("b0>123:33;b0>1:1;b0>1:1");
        y.deliver(0);
        y.deliver(3);
        y.deliver(4);
        due(y.state(0, 0), 1);
        due(y.state(0, 1), 1);
        due(y.state(0, 2), 3);
        VoteLogs z = after("b0>123:34");
        z.deliver(0);
        due(z.state(0, 0), 3);
    }

    private static void promise5OfClerks() {
        VoteLogs x = after("b0>1:5;d2");
        due(row(x), "100 101");
        x.ask(0, 0);
        due(x.deliver(2), true);
        due(row(x), "100 101");
        x.deliver(0);
        x.crash(4);
        due(x.saidYes(0), 0);
        due(x.deliver(0), false);
        x.recover(4);
        due(row(x), "400 401");
        x.ask(0, 0);
        due(x.deliver(2), true);
        due(row(x), "400 401 400");
        due(x.deliverAll(), 6);
        due(x.saidDone(0), 3);
        due(x.hasEnded(0), true);
        due(log(x, 4), "00 20 30");
        due(log(x, 0), "40 20");
        VoteLogs y = after("b0>1:5;d6");
        due(row(y), "500 501");
        y.crash(4);
        y.recover(4);
        due(row(y), "500 501 300 301");
        due(y.deliver(2), true);
        due(row(y), "500 501 301 500");
        due(y.amount(0), 95);
        due(log(y, 0), "40 10");
        y.deliver(3);
        y.deliver(1);
        due(y.hasEnded(0), true);
        due(log(y, 4), "00 10 30");
        y.crash(4);
        due(y.saidDone(0), 0);
        y.recover(4);
        due(row(y), "500 301");
        y.deliver(0);
        due(y.saidDone(0), 1);
        due(y.deliverAll(), 2);
        due(y.saidDone(0), 3);
        due(log(y, 4), "00 10 30");
        VoteLogs z = after("b0>1:5;d1;b2>3:1");
        due(row(z), "001 100 012 013");
        z.deliver(1);
        z.crash(4);
        z.recover(4);
        due(row(z), "001 012 013 400 401 412 413");
        z.deliver(0);
        due(row(z), "012 013 400 401 412 413 101");
        z.deliver(6);
        due(z.saidYes(0), 0);
        due(z.outcome(0), 2);
    }

    private static void promise6() {
        VoteLogs x = new VoteLogs();
        due(x.deliverAll(), 0);
        due(x.undo(), 0);
        x.begin(0, 2, 5);
        due(x.deliverAll(), 8);
        due(x.waiting(), 0);
        due(x.hasEnded(0), true);
        due(x.amount(0), 95);
        due(x.undo(), 1);
        due(row(x), "000 001");
        x.crash(1);
        due(x.deliverAll(), 3);
        due(x.lost(), 1);
        due(x.saidYes(0), 1);
        VoteLogs y = after("b0>1:5;b0>1:7");
        y.deliverAll();
        due(log(y, 4), "00 01 10 11 30 31");
    }

    private static void promise7() {
        VoteLogs x = after("b0>1:5;d1");
        due(row(x), "001 100");
        due(x.lose(1), 1);
        due(row(x), "001");
        due(x.lost(), 1);
        due(x.sent(), 3);
        due(x.lose(0), 0);
        due(x.lost(), 2);
        for (int place : new int[] {0, -1, 1, FEW, MANY}) {
            noIndex(x, () -> x.lose(place));
        }
        due(x.undo(), 2);
        due(row(x), "001");
        due(x.lost(), 1);
        noIndex(x, () -> x.lose(1));
    }

    private static void promise8() {
        VoteLogs x = after("b0>1:5;d3");
        due(x.saidYes(0), 1);
        due(x.crash(2), 4);
        due(x.isUp(2), false);
        due(x.saidYes(0), 1);
        noState(x, () -> x.crash(2));
        due(x.crash(4), 3);
        due(x.saidYes(0), 0);
        due(log(x, 4), "00");
        due(x.crash(0), 2);
        due(x.state(0, 0), 1);
        due(row(x), "101");
        due(x.crash(1), 1);
        due(x.crash(3), 0);
        noNumbersPast(x, 4, n -> x.crash(n));
        due(x.undo(), 5);
        due(x.isUp(3), true);
        VoteLogs y = after("b0>1:5;d7");
        due(y.saidYes(0), 3);
        due(y.saidDone(0), 1);
        y.crash(4);
        due(y.saidYes(0), 0);
        due(y.saidDone(0), 0);
        y.undo();
        due(y.saidYes(0), 3);
        due(y.saidDone(0), 1);
    }

    private static void promise9() {
        VoteLogs x = new VoteLogs();
        noNumbersPast(x, 4, n -> x.recover(n));
        for (int site = 0; site < 5; site++) {
            int number = site;
            noState(x, () -> x.recover(number));
        }
        VoteLogs z = after("b0>1:5;b2>3:6;b1>2:7;b3>0:8;d9;d9;d9;d9");
        due(z.waiting(), 0);
        z.begin(0, 2, 5);
        z.begin(1, 1, 5);
        z.deliver(0);
        z.crash(4);
        due(z.recover(4), 8);
        due(row(z), "041 050 051 140 440 441 450 451");
        due(log(z, 4), "00 01 02 03 10 11 12 13 30 31 32 33 04 05 24 25");
        due(z.undo(), 5);
        due(z.isUp(4), false);
        VoteLogs s = after("b0>1:5;b2>0:6;b0>3:7;d1;l0;d2;l0;d1");
        due(s.inDoubt(0), 2);
        s.crash(0);
        due(s.state(0, 0), 1);
        due(s.recover(0), 6);
        due(row(s), "100 110 112 123 600 610");
        due(s.isUp(0), true);
        VoteLogs made = after("b0>1:5;d4;c4;l0;l0");
        due(made.waiting(), 0);
        due(made.recover(4), 2);
        due(row(made), "300 301");
        VoteLogs ended = after("b0>1:5;d8;c4");
        due(ended.hasEnded(0), true);
        due(ended.recover(4), 0);
        promise9OfFullRows();
    }

    /** Of what is sent when 60 messages wait, nothing is kept, but it is sent. */
    private static void promise9OfFullRows() {
        VoteLogs x = new VoteLogs();
        for (int i = 0; i < 8; i++) {
            x.begin(0, 14, 1);
        }
        due(x.waiting(), 32);
        x.crash(4);
        due(x.recover(4), 60);
        due(x.sent(), 64);
        due(x.lost(), 4);
        due(row(x).endsWith("460 461 462 463"), true);
        due(x.outcome(7), 2);
        due(x.wouldSend(59), 1);
        due(x.deliver(0), true);
        due(x.waiting(), 60);
        due(x.kindOf(59), 1);
        x.crash(4);
        due(x.recover(4), 60);
        due(x.lost(), 36);
        due(x.sent(), 97);
        due(x.sentByAccount(), 97);
    }

    // ---- texts, the snapshot, undo

    private static void promise10() {
        VoteLogs x = new VoteLogs();
        for (int code : new int[] {32, 127, 0, -1, 33 + 256, FEW, MANY}) {
            noArgument(x, () -> x.append(code));
        }
        due(x.append(33), 1);
        due(x.append(126), 2);
        for (int length = 3; length <= 60; length++) {
            due(x.append('d'), length);
        }
        noState(x, () -> x.append('d'));
        noState(x, () -> x.append(33));
        noArgument(x, () -> x.append(32));
        noArgument(x, () -> x.append(127));
        noState(x, () -> x.undo());
        due(x.clearBuffer(), 60);
    }

    private static void promise11() {
        VoteLogs x = new VoteLogs();
        due(x.clearBuffer(), 0);
        type(x, "d1");
        due(x.clearBuffer(), 2);
        due(x.clearBuffer(), 0);
        due(x.append('d'), 1);
        noState(x, () -> x.undo());
        x.crash(0);
        due(x.undo(), 0);
        due(x.clearBuffer(), 1);
    }

    private static void error(String text, int at) {
        VoteLogs x = new VoteLogs();
        type(x, text);
        long before = x.digest();
        due(x.firstError(), at);
        due(x.digest(), before);
    }

    private static void noError(String text) {
        error(text, text.length());
    }

    private static void promise12() {
        noError("");
        noError("b");
        noError("b0>");
        noError("b0>1");
        noError("b0>123:");
        noError("b3>012:50;");
        noError("b1>023:9;b2>013:10;b1>0:1;b0>3:49");
        noError("d1;d9;l0;l9;c0;c4;r0;r4;g0;g7;q00;q37;");
        noError("q");
        noError("q3");
        error("!", 0);
        error(";", 0);
        error("x", 0);
        error("B0>1:1", 0);
        error("0", 0);
        error("d0", 1);
        error("d:", 1);
        error("d11", 2);
        error("d1;;", 3);
        error("d1,", 2);
        error("c5", 1);
        error("r5", 1);
        error("g8", 1);
        error("l:", 1);
        error("l/", 1);
        error("l10", 2);
        error("q4", 1);
        error("q08", 2);
        error("q0;", 2);
        error("q0>", 2);
        error("q000", 3);
        error("b4", 1);
        error("b;", 1);
        error("b01", 2);
        error("b0:", 2);
        error("b0>:", 3);
        error("b0>0", 3);
        error("b2>2", 3);
        error("b0>4", 3);
        error("b0>11", 4);
        error("b0>21", 4);
        error("b2>12", 4);
        error("b0>1;", 4);
        error("b0>1>", 4);
        error("b0>1:0", 5);
        error("b0>1:;", 5);
        error("b0>1:51", 6);
        error("b0>1:60", 6);
        error("b0>1:99", 6);
        error("b0>1:100", 7);
        error("b0>1:50:", 7);
        error("b0>1:5b", 6);
        error("b/", 1);
        error("b0>/", 3);
        error("b0>1/", 4);
        error("b0>1:/", 5);
        error("b0>1::", 5);
        error("b0>1:1/", 6);
        error("b0>1:1:", 6);
        error("g/", 1);
        error("q0/", 2);
        error("q/", 1);
        error("d1;x;!", 3);
        VoteLogs x = new VoteLogs();
        x.begin(0, 2, 1);
        type(x, "c4;b0>1:5;c4");
        due(x.firstError(), 12);
        x.append(';');
        due(x.firstError(), 13);
        x.append(';');
        due(x.firstError(), 13);
        x.append('d');
        due(x.firstError(), 13);
        noError("d1;d1;d1;d1;d1;d1;d1;d1;d1;d1;d1;d1;d1;d1;d1;d1;d1;d1;d1;b0>");
    }

    private static void promise13() {
        for (String text : new String[] {"", "b", "b0", "b0>", "b0>1", "b0>1:", "d", "d1;", "q0", "d1;x", "b0>1:51", ";d1", "d0", "g"}) {
            VoteLogs x = new VoteLogs();
            type(x, text);
            noArgument(x, () -> x.runCourse());
            noState(x, () -> x.undo());
            due(x.clearBuffer(), text.length());
        }
        VoteLogs x = new VoteLogs();
        due(run(x, "b2>013:17;b1>3:50;d3;l2;c2;r2;g1;q20"), 8);
        due(x.clearBuffer(), 0);
        due(x.transfers(), 2);
        due(x.share(0, 2), -51);
        due(x.share(0, 1), 17);
        due(x.share(0, 0), 17);
        due(x.share(0, 3), 17);
        due(x.share(1, 1), -50);
        due(x.lost(), 1);
        due(x.outcome(1), 2);
        due(row(x), "003 011 100 101 102 602 411 413 602");
        due(x.undo(), 0);
        due(x.transfers(), 0);
        due(x.clearBuffer(), 0);
        promise13Stops();
    }

    /** The first part that a call would refuse ends the course; what was done ahead of it stays done. */
    private static void promise13Stops() {
        String[] refusedParts = {"l2", "l9", "c3", "r0", "g1", "g7", "q10", "q01", "q30"};
        for (String part : refusedParts) {
            VoteLogs x = new VoteLogs();
            due(run(x, "b0>1:5;d1;c3;" + part + ";d1;c0"), 3);
            due(x.clearBuffer(), 0);
            due(x.isUp(0), true);
            due(row(x), "001 100");
            due(x.undo(), 0);
            due(x.transfers(), 0);
        }
        VoteLogs x = new VoteLogs();
        due(run(x, "r0"), 0);
        due(x.undo(), 0);
        due(run(x, "d9;d1"), 2);
        due(run(x, "b0>1:5;d3;d9"), 3);
        due(x.waiting(), 0);
        due(x.hasEnded(0), true);
        due(run(x, "g0"), 0);
        due(run(x, "c0;q00"), 1);
        due(run(x, "c4;b0>1:5;r4"), 1);
        due(x.isUp(4), false);
        due(run(x, "g0"), 0);
        VoteLogs y = after("b0>1:1;b0>1:1;b0>1:1;b0>1:1;b0>1:1;b0>1:1;b0>1:1;b0>1:1");
        due(run(y, "d1;b0>1:1;d1"), 1);
        due(y.transfers(), 8);
        due(run(y, "q00;q00;l9;l0"), 4);
        y.crash(0);
        due(run(y, "q00"), 0);
        y.crash(4);
        due(run(y, "g0"), 0);
        y.recover(0);
        due(run(y, "q00"), 1);
    }

    private static void promise14() {
        VoteLogs x = new VoteLogs();
        due(x.keep(), 0);
        x.begin(0, 2, 5);
        due(x.keep(), 2);
        x.deliver(0);
        x.crash(3);
        type(x, "d1");
        due(x.goBack(), 2);
        due(row(x), "000 001");
        due(x.isUp(3), true);
        due(x.clearBuffer(), 2);
        due(x.undo(), 3);
        due(x.undo(), 2);
        x.deliverAll();
        due(x.keep(), 0);
        x.undo();
        due(x.goBack(), 0);
        due(x.hasEnded(0), true);
        due(x.amount(0), 95);
        due(x.sent(), 8);
    }

    private static void promise15() {
        VoteLogs x = after("b0>1:5;d3");
        noState(x, () -> x.goBack());
        x.keep();
        due(x.deliverAll(), 5);
        x.begin(2, 8, 1);
        due(x.goBack(), 1);
        due(row(x), "101");
        due(x.saidYes(0), 1);
        due(x.transfers(), 1);
        due(x.goBack(), 1);
        due(x.undo(), 4);
        due(x.undo(), 3);
        due(x.transfers(), 2);
        due(x.amount(1), 105);
        due(x.goBack(), 1);
        due(x.amount(1), 100);
        x.crash(1);
        due(x.goBack(), 1);
        due(x.isUp(1), true);
    }

    private static void promise16() {
        VoteLogs x = new VoteLogs();
        noState(x, () -> x.undo());
        for (int i = 0; i < 7; i++) {
            due(x.begin(0, 2, 1 + i), i);
        }
        for (int left = 5; left >= 0; left--) {
            due(x.undo(), left);
            due(x.transfers(), left + 1);
        }
        noState(x, () -> x.undo());
        due(x.transfers(), 1);
        x.deliver(0);
        x.keep();
        x.append('d');
        x.clearBuffer();
        due(x.undo(), 0);
        due(row(x), "000 001");
        due(x.begin(2, 8, 9), 1);
        due(x.undo(), 0);
        due(x.begin(3, 1, 10), 1);
        due(x.share(1, 0), 10);
        due(x.share(1, 2), 0);
        promise16OfAllCalls();
    }

    /** Each call that is marked so can be undone, the whole of it. */
    private static void promise16OfAllCalls() {
        VoteLogs x = after("b0>1:5;b1>23:6;d3;c3");
        x.keep();
        due(x.undo(), 0);
        x.goBack();
        long before = x.digest();
        Call[] calls = {() -> x.begin(0, 2, 1), () -> x.giveUp(0), () -> x.ask(0, 0), () -> x.deliver(1), () -> x.deliverAll(),
            () -> x.lose(2), () -> x.crash(4), () -> x.recover(3), () -> x.goBack()};
        for (Call call : calls) {
            call.answer();
            due(x.undo(), 1);
            due(x.digest(), before);
        }
        run(x, "d9;d9;d9;b0>1:5;c1");
        due(x.undo(), 1);
        due(x.digest(), before);
    }

    // ---- looks at transfers and stores

    private static void promise17() {
        VoteLogs x = new VoteLogs();
        due(x.transfers(), 0);
        for (int i = 1; i <= 8; i++) {
            x.begin(1, 4, i);
            due(x.transfers(), i);
        }
        x.deliverAll();
        due(x.transfers(), 8);
    }

    private static void promise18() {
        VoteLogs x = after("b0>1:5;b3>02:6;b2>013:1");
        due(x.partners(0), 3);
        due(x.partners(1), 13);
        due(x.partners(2), 15);
        numbersTo(x, 2, n -> x.partners(n));
        noIndex(new VoteLogs(), () -> new VoteLogs().partners(0));
    }

    private static void promise19() {
        VoteLogs x = after("b0>1:5;b3>02:50;b2>013:1");
        int[][] shares = {{-5, 5, 0, 0}, {50, 0, 50, -100}, {1, 1, -3, 1}};
        for (int transfer = 0; transfer < 3; transfer++) {
            for (int store = 0; store < 4; store++) {
                due(x.share(transfer, store), shares[transfer][store]);
            }
        }
        numbersTo(x, 2, n -> x.share(n, 0));
        numbersTo(x, 3, n -> x.share(0, n));
    }

    private static void promise20() {
        VoteLogs x = new VoteLogs();
        for (int site = 0; site < 5; site++) {
            due(x.isUp(site), true);
            x.crash(site);
            due(x.isUp(site), false);
        }
        x.recover(2);
        due(x.isUp(2), true);
        due(x.isUp(1), false);
        numbersTo(x, 4, n -> x.isUp(n));
    }

    private static void promise21() {
        VoteLogs x = after("b0>12:30;d6");
        due(x.amount(0), 100);
        x.deliver(0);
        due(x.amount(0), 40);
        due(x.amount(1), 100);
        x.deliverAll();
        due(x.amount(1), 130);
        due(x.amount(2), 130);
        due(x.amount(3), 100);
        x.crash(0);
        due(x.amount(0), 40);
        numbersTo(x, 3, n -> x.amount(n));
    }

    private static void promise22() {
        VoteLogs x = after("b0>12:30;b1>3:7;b0>3:50;d9;d9;d9;d9");
        due(x.outcome(2), 2);
        int[] amounts = {40, 123, 130, 107};
        for (int store = 0; store < 4; store++) {
            due(x.amountByLog(store), amounts[store]);
            due(x.amount(store), amounts[store]);
        }
        x.crash(1);
        due(x.amountByLog(1), 123);
        numbersTo(x, 3, n -> x.amountByLog(n));
        VoteLogs y = after("b0>1:5;d1");
        due(y.amountByLog(0), 100);
    }

    private static void promise23() {
        VoteLogs x = after("b0>12:30;b0>1:50");
        due(x.state(0, 0), 0);
        x.deliver(0);
        due(x.state(0, 0), 1);
        x.deliver(2);
        due(x.state(0, 1), 3);
        x.deliverAll();
        due(x.state(0, 0), 2);
        due(x.state(1, 0), 2);
        due(x.state(1, 1), 3);
        due(x.state(3, 0), 0);
        x.crash(0);
        due(x.state(0, 0), 2);
        numbersTo(x, 3, n -> x.state(n, 0));
        numbersTo(x, 1, n -> x.state(0, n));
    }

    private static void promise24() {
        VoteLogs x = after("b0>12:30;b0>1:50");
        due(x.stateByLog(0, 0), 0);
        x.deliver(0);
        due(x.stateByLog(0, 0), 1);
        x.deliver(2);
        due(x.stateByLog(0, 1), 3);
        due(x.stateByLog(0, 0), 1);
        x.deliverAll();
        due(x.stateByLog(0, 0), 2);
        due(x.stateByLog(0, 1), 3);
        due(x.stateByLog(1, 1), 3);
        due(x.stateByLog(3, 0), 0);
        numbersTo(x, 3, n -> x.stateByLog(n, 0));
        numbersTo(x, 1, n -> x.stateByLog(0, n));
    }

    private static void promise25() {
        VoteLogs x = after("b0>1:5;b2>0:6;b0>3:9");
        due(x.inDoubt(0), 0);
        x.deliver(0);
        due(x.inDoubt(0), 1);
        x.deliver(1);
        due(x.inDoubt(0), 2);
        due(x.inDoubt(2), 0);
        x.crash(0);
        due(x.inDoubt(0), 2);
        x.recover(0);
        x.deliverAll();
        due(x.inDoubt(0), 0);
        numbersTo(x, 3, n -> x.inDoubt(n));
    }

    private static void promise26() {
        VoteLogs x = after("b0>1:5;b1>3:6;b2>3:7");
        due(x.outcome(0), 0);
        x.giveUp(1);
        due(x.outcome(1), 2);
        due(x.outcome(0), 0);
        x.deliverAll();
        due(x.outcome(0), 1);
        due(x.outcome(1), 2);
        due(x.outcome(2), 1);
        due(x.hasEnded(2), true);
        x.crash(4);
        due(x.outcome(0), 1);
        numbersTo(x, 2, n -> x.outcome(n));
        VoteLogs no = after("b0>123:34;d4;d1");
        due(no.outcome(0), 2);
    }

    private static void promise27() {
        VoteLogs x = after("b0>12:5;d3");
        due(x.outcomeByStores(0), 0);
        x.deliver(0);
        x.deliver(0);
        x.deliver(0);
        due(x.outcome(0), 1);
        due(x.outcomeByStores(0), 0);
        x.deliver(1);
        due(x.outcomeByStores(0), 1);
        VoteLogs y = after("b0>123:34;d1");
        due(y.outcomeByStores(0), 2);
        due(y.outcome(0), 0);
        numbersTo(x, 0, n -> x.outcomeByStores(n));
    }

    private static void promise28() {
        VoteLogs x = after("b0>1:5;b2>3:6;b0>3:7");
        due(x.hasEnded(0), false);
        x.crash(2);
        x.deliverAll();
        due(x.hasEnded(0), true);
        due(x.hasEnded(1), false);
        due(x.hasEnded(2), true);
        x.crash(4);
        due(x.hasEnded(0), true);
        x.recover(2);
        x.recover(4);
        x.deliverAll();
        due(x.hasEnded(1), true);
        due(x.outcome(1), 2);
        numbersTo(x, 2, n -> x.hasEnded(n));
    }

    private static void promise29() {
        VoteLogs x = after("b0>3:5;d2");
        due(x.saidYes(0), 0);
        x.deliver(1);
        due(x.saidYes(0), 8);
        x.ask(0, 0);
        x.deliverAll();
        due(x.saidYes(0), 9);
        x.crash(4);
        due(x.saidYes(0), 0);
        numbersTo(x, 0, n -> x.saidYes(n));
        VoteLogs y = after("b0>1:5;b0>2:6;d5;g0;g1");
        due(row(y), "101 110 112 400 401 410 412");
        due(y.saidYes(0), 1);
        y.deliverAll();
        due(y.saidYes(0), 1);
        due(y.saidYes(1), 0);
    }

    private static void promise30() {
        VoteLogs x = after("b1>3:5;d4;d2");
        due(row(x), "501 503");
        due(x.saidDone(0), 0);
        x.deliver(1);
        due(x.saidDone(0), 8);
        x.crash(4);
        due(x.saidDone(0), 0);
        x.recover(4);
        x.deliver(0);
        due(x.saidDone(0), 2);
        x.deliverAll();
        due(x.saidDone(0), 10);
        numbersTo(x, 0, n -> x.saidDone(n));
    }

    private static void promise31() {
        VoteLogs x = after("b0>12:30;d7");
        due(x.total(), 340);
        x.deliver(0);
        due(x.total(), 370);
        x.deliverAll();
        due(x.total(), 400);
        due(new VoteLogs().total(), 400);
    }

    private static void promise32() {
        VoteLogs x = after("b0>12:30;b3>0:4");
        due(x.onTheWay(), 0);
        for (int i = 0; i < 40 && x.waiting() > 0; i++) {
            x.deliver(x.waiting() - 1);
            due(x.onTheWay() + x.total(), 400);
        }
        VoteLogs y = after("b0>12:30;d6");
        due(y.onTheWay(), 0);
        y.deliver(0);
        due(y.onTheWay(), 60);
        y.deliver(0);
        due(y.onTheWay(), 30);
        y.crash(2);
        y.deliverAll();
        due(y.onTheWay(), 30);
        due(y.total(), 370);
        VoteLogs z = after("b0>12:30;d6");
        z.deliver(1);
        due(z.onTheWay(), -30);
    }

    // ---- looks at logs and messages

    private static void promise33() {
        VoteLogs x = after("b0>12:30;b3>1:4");
        due(x.records(4), 2);
        due(x.records(0), 0);
        x.deliver(0);
        due(x.records(0), 1);
        x.deliverAll();
        due(x.records(4), 6);
        due(x.records(0), 2);
        due(x.records(1), 4);
        due(x.records(2), 2);
        due(x.records(3), 2);
        x.crash(1);
        due(x.records(1), 4);
        numbersTo(x, 4, n -> x.records(n));
        VoteLogs full = new VoteLogs();
        for (int i = 0; i < 8; i++) {
            full.begin(0, 14, 1);
        }
        full.deliverAll();
        due(full.records(4), 24);
        due(full.records(3), 16);
    }

    private static void promise34() {
        VoteLogs x = after("b0>1:5;d8");
        int[] clerk = {0, 1, 3, -1, -1};
        int[] store = {4, 1, -1, -1, -1};
        for (int place = 0; place < 5; place++) {
            due(x.recordKind(4, place), clerk[place]);
            due(x.recordKind(1, place), store[place]);
            due(x.recordKind(2, place), -1);
        }
        due(x.recordKind(4, MANY), -1);
        due(x.recordKind(0, 23), -1);
        numbersTo(x, 4, n -> x.recordKind(n, 0));
        noIndex(x, () -> x.recordKind(0, -1));
        noIndex(x, () -> x.recordKind(4, FEW));
        noIndex(x, () -> x.recordKind(5, 0));
        due(after("b0>1:5;g0;d2").recordKind(4, 1), 2);
        VoteLogs no = after("b0>123:40;d1");
        due(no.recordKind(0, 0), 2);
    }

    private static void promise35() {
        VoteLogs x = after("b0>1:5;b1>2:6;b2>3:7;g1");
        int[] clerk = {0, 1, 2, 1, -1};
        for (int place = 0; place < 5; place++) {
            due(x.recordTransfer(4, place), clerk[place]);
        }
        x.deliver(4);
        x.deliver(2);
        due(x.recordTransfer(2, 0), 2);
        due(x.recordTransfer(1, 0), 1);
        due(x.recordTransfer(1, 1), -1);
        due(x.recordTransfer(4, MANY), -1);
        due(x.recordTransfer(0, 0), -1);
        numbersTo(x, 4, n -> x.recordTransfer(n, 0));
        noIndex(x, () -> x.recordTransfer(0, -1));
        noIndex(x, () -> x.recordTransfer(4, FEW));
    }

    private static void promise36() {
        VoteLogs x = new VoteLogs();
        due(x.waiting(), 0);
        x.begin(0, 14, 1);
        due(x.waiting(), 4);
        x.lose(0);
        due(x.waiting(), 3);
        x.deliver(0);
        due(x.waiting(), 3);
        x.deliverAll();
        due(x.waiting(), 0);
    }

    private static void promise37() {
        VoteLogs x = after("b0>1:5;b2>0:6;d1;c0;r0;g1");
        due(row(x), "001 010 012 100 600 410 412");
        int[] kinds = {0, 0, 0, 1, 6, 4, 4, -1};
        for (int place = 0; place < 8; place++) {
            due(x.kindOf(place), kinds[place]);
        }
        due(x.kindOf(60), -1);
        due(x.kindOf(MANY), -1);
        noIndex(x, () -> x.kindOf(-1));
        noIndex(x, () -> x.kindOf(FEW));
        VoteLogs no = after("b0>123:40;d1");
        due(no.kindOf(3), 2);
        VoteLogs made = after("b0>1:5;d5");
        due(made.kindOf(0), 3);
        due(made.kindOf(1), 5);
    }

    private static void promise38() {
        VoteLogs x = after("b0>1:5;b2>0:6;b0>3:1");
        int[] transfers = {0, 0, 1, 1, 2, 2, -1};
        for (int place = 0; place < 7; place++) {
            due(x.transferOf(place), transfers[place]);
        }
        due(x.transferOf(59), -1);
        due(x.transferOf(MANY), -1);
        noIndex(x, () -> x.transferOf(-1));
        noIndex(x, () -> x.transferOf(FEW));
    }

    private static void promise39() {
        VoteLogs x = after("b3>1:5;b2>01:6;d1");
        int[] stores = {3, 0, 1, 2, 1, -1};
        for (int place = 0; place < 6; place++) {
            due(x.storeOf(place), stores[place]);
        }
        due(x.kindOf(4), 1);
        due(x.storeOf(60), -1);
        due(x.storeOf(MANY), -1);
        noIndex(x, () -> x.storeOf(-1));
        noIndex(x, () -> x.storeOf(FEW));
    }

    private static void promise40() {
        VoteLogs x = new VoteLogs();
        due(x.sent(), 0);
        x.begin(0, 6, 1);
        due(x.sent(), 3);
        x.lose(0);
        due(x.sent(), 3);
        x.deliver(0);
        due(x.sent(), 4);
        x.deliverAll();
        due(x.sent(), 5);
        x.undo();
        x.undo();
        due(x.sent(), 3);
    }

    private static void promise41() {
        VoteLogs x = new VoteLogs();
        due(x.sentByAccount(), 0);
        x.begin(0, 6, 1);
        due(x.sentByAccount(), 3);
        x.deliver(1);
        due(x.sentByAccount(), 4);
        x.lose(0);
        due(x.sentByAccount(), 4);
        x.crash(4);
        x.deliver(1);
        due(x.sentByAccount(), 4);
        x.deliverAll();
        due(x.sentByAccount(), 5);
        due(x.sent(), 5);
    }

    private static void promise42() {
        VoteLogs x = after("b0>12:1");
        due(x.lost(), 0);
        x.lose(1);
        due(x.lost(), 1);
        x.deliver(0);
        due(x.lost(), 1);
        x.crash(2);
        x.deliver(0);
        due(x.lost(), 2);
        x.crash(4);
        x.deliver(0);
        due(x.lost(), 3);
        x.undo();
        due(x.lost(), 2);
    }

    // ---- what would be

    private static void would(VoteLogs x, int place, int want) {
        long before = x.digest();
        due(x.wouldSend(place), want);
        due(x.digest(), before);
        int sent = x.sent();
        boolean handled = x.deliver(place);
        due(handled ? x.sent() - sent : -1, want);
        x.undo();
    }

    private static void promise43() {
        VoteLogs x = after("b0>12:30;d5");
        due(row(x), "102");
        would(x, 0, 3);
        x.deliver(0);
        would(x, 2, 1);
        x.deliver(0);
        would(x, 2, 0);
        x.crash(1);
        would(x, 0, -1);
        would(x, 1, 1);
        x.crash(4);
        would(x, 2, -1);
        VoteLogs y = after("b0>123:40;d1");
        would(y, 0, 1);
        would(y, 3, 4);
        noNumbersPast(y, 3, n -> y.wouldSend(n));
        noIndex(new VoteLogs(), () -> new VoteLogs().wouldSend(0));
        VoteLogs z = after("b0>1:5;d2;q00");
        would(z, 2, 0);
        z.giveUp(0);
        would(z, 2, 1);
    }

    private static void promise44() {
        VoteLogs x = new VoteLogs();
        due(x.messagesToSettle(), 0);
        x.begin(0, 6, 30);
        due(x.messagesToSettle(), 12);
        due(x.waiting(), 3);
        x.deliver(0);
        due(x.messagesToSettle(), 11);
        x.crash(0);
        due(x.messagesToSettle(), 12);
        x.crash(4);
        due(x.messagesToSettle(), 14);
        long before = x.digest();
        x.messagesToSettle();
        due(x.digest(), before);
        VoteLogs y = after("b0>1:5;d8;c4;c0");
        due(y.messagesToSettle(), 0);
        promise44InOrder();
    }

    /** The row runs full while all come up: which messages are lost tells who came first. */
    private static void promise44InOrder() {
        VoteLogs x = new VoteLogs();
        for (int i = 0; i < 8; i++) {
            x.begin(0, 14, 1);
        }
        for (int i = 0; i < 8; i++) {
            x.deliver(3 * i);
        }
        due(x.inDoubt(0), 8);
        x.crash(4);
        x.crash(0);
        due(x.waiting(), 32);
        due(x.messagesToSettle(), 112);
        int[] amounts = {x.amountIfSettled(0), x.amountIfSettled(3)};
        x.recover(4);
        x.recover(0);
        due(x.waiting(), 60);
        due(x.lost(), 12);
        due(x.deliverAll(), 112);
        due(x.amount(0), amounts[0]);
        due(x.amount(3), amounts[1]);
    }

    private static void promise45() {
        VoteLogs x = after("b0>12:30;b0>1:50;d1");
        due(x.outcomeIfSettled(0), 1);
        due(x.outcomeIfSettled(1), 2);
        due(x.outcome(0), 0);
        x.crash(4);
        due(x.outcomeIfSettled(0), 2);
        x.recover(4);
        due(x.outcomeIfSettled(0), 2);
        VoteLogs y = after("b0>1:5;l0");
        due(y.outcomeIfSettled(0), 0);
        y.crash(1);
        due(y.outcomeIfSettled(0), 0);
        VoteLogs z = after("b0>1:5;d4;c4;c0;c1");
        due(z.outcomeIfSettled(0), 1);
        long before = z.digest();
        z.outcomeIfSettled(0);
        due(z.digest(), before);
        numbersTo(x, 1, n -> x.outcomeIfSettled(n));
    }

    private static void promise46() {
        VoteLogs x = after("b0>12:30;b0>1:50;d1");
        int[] amounts = {40, 130, 130, 100};
        for (int store = 0; store < 4; store++) {
            due(x.amountIfSettled(store), amounts[store]);
            due(x.amount(store), 100);
        }
        x.crash(0);
        due(x.amountIfSettled(0), 40);
        x.crash(4);
        due(x.amountIfSettled(0), 100);
        due(x.amountIfSettled(2), 100);
        numbersTo(x, 3, n -> x.amountIfSettled(n));
        VoteLogs y = after("b0>1:5;d4;l0;l0");
        due(y.amountIfSettled(0), 100);
        y.crash(1);
        due(y.amountIfSettled(0), 100);
        due(y.amountIfSettled(1), 105);
        promise46InOrder();
    }

    /** There is room for one message more, so who is up first is the only one that is heard. */
    private static void promise46InOrder() {
        VoteLogs x = after("b0>1:5;d4;l0;l0;b2>3:1;d1");
        due(row(x), "013 112");
        for (int i = 0; i < 57; i++) {
            x.ask(2, 1);
        }
        due(x.waiting(), 59);
        x.crash(1);
        x.crash(0);
        due(x.amountIfSettled(0), 95);
        due(x.amountIfSettled(1), 100);
        x.recover(1);
        due(x.amountIfSettled(0), 100);
        due(x.amountIfSettled(1), 105);
        x.undo();
        x.undo();
        x.crash(4);
        due(x.amountIfSettled(0), 95);
        due(x.amountIfSettled(1), 100);
    }

    private static void promise47() {
        VoteLogs x = new VoteLogs();
        due(x.greatestSize(0, 2), 50);
        due(x.greatestSize(0, 6), 50);
        due(x.greatestSize(0, 14), 33);
        due(x.greatestSize(3, 7), 33);
        run(x, "b0>12:30");
        due(x.greatestSize(0, 2), 50);
        x.deliver(0);
        due(x.greatestSize(0, 2), 40);
        due(x.greatestSize(0, 12), 20);
        due(x.greatestSize(0, 14), 13);
        x.crash(4);
        x.crash(0);
        due(x.greatestSize(0, 2), 40);
        x.recover(4);
        x.recover(0);
        x.deliverAll();
        due(x.amount(0), 100);
        VoteLogs y = after("b0>12:50;d9;d9");
        due(y.amount(0), 0);
        due(y.greatestSize(0, 2), 0);
        due(y.greatestSize(1, 1), 50);
        due(y.greatestSize(1, 13), 50);
        y.begin(1, 1, 50);
        y.deliver(0);
        due(y.greatestSize(0, 8), 0);
        due(y.greatestSize(1, 1), 50);
        y.deliver(0);
        due(y.greatestSize(1, 13), 33);
        noNumbersPast(y, 3, n -> y.greatestSize(n, 1));
        noNumbersPast(y, 3, n -> y.greatestSize(n, 0));
        for (int to : new int[] {0, -1, -2, 1, 3, 15, 16, 18, FEW, MANY}) {
            noArgument(y, () -> y.greatestSize(0, to));
        }
        noArgument(y, () -> y.greatestSize(3, 8));
        VoteLogs small = after("b0>123:33;d9;d9");
        due(small.amount(0), 1);
        due(small.greatestSize(0, 4), 1);
        due(small.greatestSize(0, 12), 0);
        VoteLogs all = after("b0>1:1;b0>1:1;b0>1:1;b0>1:1;b0>1:1;b0>1:1;b0>1:1;b0>1:1");
        due(all.greatestSize(0, 2), 50);
        for (int i = 0; i < 8; i++) {
            all.deliver(i);
        }
        due(all.greatestSize(0, 14), 30);
        due(all.greatestSize(0, 6), 46);
    }

    private static void promise48() {
        VoteLogs x = new VoteLogs();
        due(x.lostShare(), 0.0);
        x.begin(0, 6, 1);
        due(x.lostShare(), 0.0);
        x.lose(0);
        due(x.lostShare(), 1.0 / 3.0);
        x.lose(0);
        due(x.lostShare(), 2.0 / 3.0);
        x.lose(0);
        due(x.lostShare(), 1.0);
        x.begin(0, 14, 1);
        due(x.lostShare(), 3.0 / 7.0);
    }

    private static void promise49() {
        VoteLogs x = new VoteLogs();
        due(x.meanSize(), 0.0f);
        x.begin(0, 6, 50);
        due(x.meanSize(), 50.0f);
        x.begin(1, 1, 1);
        due(x.meanSize(), 25.5f);
        x.begin(1, 1, 2);
        due(x.meanSize(), 53.0f / 3.0f);
        x.deliverAll();
        due(x.meanSize(), 53.0f / 3.0f);
        x.undo();
        x.undo();
        due(x.meanSize(), 25.5f);
        x.keep();
        x.undo();
        x.begin(1, 1, 30);
        due(x.meanSize(), 40.0f);
        x.goBack();
        due(x.meanSize(), 25.5f);
    }

    private static final class Hash {
        long hash = 4219;

        void add(long value) {
            hash = 31 * hash + value;
        }

        void add(boolean value) {
            add(value ? 1 : 0);
        }
    }

    private interface Maker {
        VoteLogs make();
    }

    private static void addTransfers(Hash h, VoteLogs x) {
        int transfers = x.transfers();
        h.add(transfers);
        for (int t = 0; t < transfers; t++) {
            h.add(x.partners(t));
            h.add(x.outcome(t));
            h.add(x.outcomeByStores(t));
            h.add(x.hasEnded(t));
            h.add(x.saidYes(t));
            h.add(x.saidDone(t));
            h.add(x.outcomeIfSettled(t));
            for (int s = 0; s < 4; s++) {
                h.add(x.share(t, s));
                h.add(x.state(s, t));
                h.add(x.stateByLog(s, t));
            }
        }
    }

    private static void addSites(Hash h, VoteLogs x) {
        for (int s = 0; s < 4; s++) {
            h.add(x.amount(s));
            h.add(x.amountByLog(s));
            h.add(x.inDoubt(s));
            h.add(x.amountIfSettled(s));
        }
        for (int site = 0; site < 5; site++) {
            h.add(x.isUp(site));
            int records = x.records(site);
            h.add(records);
            for (int place = 0; place < records; place++) {
                h.add(x.recordKind(site, place));
                h.add(x.recordTransfer(site, place));
            }
        }
    }

    private static void addMessages(Hash h, VoteLogs x) {
        h.add(x.total());
        h.add(x.onTheWay());
        int waiting = x.waiting();
        h.add(waiting);
        for (int place = 0; place < waiting; place++) {
            h.add(x.kindOf(place));
            h.add(x.transferOf(place));
            h.add(x.storeOf(place));
            h.add(x.wouldSend(place));
        }
        h.add(x.sent());
        h.add(x.sentByAccount());
        h.add(x.lost());
        h.add(x.messagesToSettle());
        h.add(x.greatestSize(0, 14));
    }

    /** Like objects are asked, one for each part of the list, so that none has more than 512 calls. */
    private static void digestIs(Maker maker, int saved, boolean kept, String buffer) {
        Hash h = new Hash();
        addTransfers(h, maker.make());
        addSites(h, maker.make());
        VoteLogs x = maker.make();
        addMessages(h, x);
        h.add(saved);
        h.add(Double.doubleToLongBits(x.lostShare()));
        h.add(Float.floatToIntBits(x.meanSize()));
        h.add(kept);
        h.add(buffer.length());
        for (char sign : buffer.toCharArray()) {
            h.add(sign);
        }
        due(maker.make().digest(), h.hash);
    }

    /** The first so many of some calls that bring much about, each of them undoable. */
    private static VoteLogs afterCalls(int calls) {
        VoteLogs x = new VoteLogs();
        Call[] all = {() -> x.begin(0, 14, 33), () -> x.begin(1, 4, 50), () -> x.deliver(0), () -> x.crash(3), () -> x.deliver(2),
            () -> x.crash(4), () -> x.recover(4), () -> x.deliver(4), () -> x.recover(3), () -> x.begin(2, 3, 7), () -> x.deliverAll()};
        for (int i = 0; i < calls; i++) {
            all[i].answer();
        }
        return x;
    }

    private static VoteLogs ofSizes(int count, int losses) {
        int[] sizes = {1, 3, 2, 2, 12, 50, 50, 49};
        VoteLogs x = new VoteLogs();
        for (int i = 0; i < count; i++) {
            x.begin(0, 14, sizes[i]);
            x.deliver(0);
        }
        for (int i = 0; i < losses; i++) {
            x.lose(x.waiting() - 1);
        }
        return x;
    }

    private static void promise50() {
        digestIs(() -> new VoteLogs(), 0, false, "");
        for (int i = 0; i <= 11; i++) {
            int calls = i;
            digestIs(() -> afterCalls(calls), Math.min(6, calls), false, "");
        }
        digestIs(() -> {
            VoteLogs x = afterCalls(11);
            type(x, "b0>1:5;x~!");
            return x;
        }, 6, false, "b0>1:5;x~!");
        digestIs(() -> {
            VoteLogs x = afterCalls(7);
            x.keep();
            x.undo();
            x.undo();
            type(x, "d1");
            return x;
        }, 4, true, "d1");
        for (int i = 1; i <= 8; i++) {
            int count = i;
            digestIs(() -> ofSizes(count, 0), Math.min(6, 2 * count), false, "");
        }
        for (int i = 1; i <= 25; i++) {
            int losses = i;
            digestIs(() -> ofSizes(8, losses), 6, false, "");
        }
        due(new VoteLogs().digest() == afterCalls(1).digest(), false);
    }

    public static void main(String[] args) {
        Runnable[] promises = {
            PromisesTest::promise1, PromisesTest::promise2, PromisesTest::promise3, PromisesTest::promise4, PromisesTest::promise5,
            PromisesTest::promise6, PromisesTest::promise7, PromisesTest::promise8, PromisesTest::promise9, PromisesTest::promise10,
            PromisesTest::promise11, PromisesTest::promise12, PromisesTest::promise13, PromisesTest::promise14, PromisesTest::promise15,
            PromisesTest::promise16, PromisesTest::promise17, PromisesTest::promise18, PromisesTest::promise19, PromisesTest::promise20,
            PromisesTest::promise21, PromisesTest::promise22, PromisesTest::promise23, PromisesTest::promise24, PromisesTest::promise25,
            PromisesTest::promise26, PromisesTest::promise27, PromisesTest::promise28, PromisesTest::promise29, PromisesTest::promise30,
            PromisesTest::promise31, PromisesTest::promise32, PromisesTest::promise33, PromisesTest::promise34, PromisesTest::promise35,
            PromisesTest::promise36, PromisesTest::promise37, PromisesTest::promise38, PromisesTest::promise39, PromisesTest::promise40,
            PromisesTest::promise41, PromisesTest::promise42, PromisesTest::promise43, PromisesTest::promise44, PromisesTest::promise45,
            PromisesTest::promise46, PromisesTest::promise47, PromisesTest::promise48, PromisesTest::promise49, PromisesTest::promise50,
        };
        for (int i = 0; i < promises.length; i++) {
            test("promise " + (i + 1), promises[i]);
        }
        end();
    }
}
