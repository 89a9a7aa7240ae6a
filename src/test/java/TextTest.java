/** For each sentence about courses as texts that names a boundary case, a test of its own, named by its words. */
public final class TextTest extends Checks {
    private static int errorIn(String text) {
        VoteLogs x = new VoteLogs();
        type(x, text);
        return x.firstError();
    }

    /** The text is no course, and its first error is at this place. */
    private static void error(String text, int at) {
        due(errorIn(text), at);
        noCourse(text);
    }

    /** Courses begin with the text, which is none yet. */
    private static void begun(String text) {
        due(errorIn(text), text.length());
        noCourse(text);
    }

    private static void noCourse(String text) {
        VoteLogs x = new VoteLogs();
        type(x, text);
        noArgument(x, () -> x.runCourse());
        due(x.clearBuffer(), text.length());
    }

    /** The text is a course; tells the object after it, of which the first parts were done. */
    private static VoteLogs course(String text, int done) {
        due(errorIn(text), text.length());
        VoteLogs x = new VoteLogs();
        due(run(x, text), done);
        due(x.clearBuffer(), 0);
        return x;
    }

    // ---- the buffer

    private static void theLeastCode() {
        VoteLogs x = new VoteLogs();
        noArgument(x, () -> x.append(32));
        due(x.append(33), 1);
    }

    private static void theGreatestCode() {
        VoteLogs x = new VoteLogs();
        noArgument(x, () -> x.append(127));
        due(x.append(126), 1);
    }

    private static void codesFarOut() {
        VoteLogs x = new VoteLogs();
        for (int code : new int[] {-1, 0, 33 + 128, 33 + 256, 33 + 65536, FEW, MANY}) {
            noArgument(x, () -> x.append(code));
        }
    }

    private static void sixtyCharacters() {
        VoteLogs x = new VoteLogs();
        for (int length = 1; length <= 60; length++) {
            due(x.append('!'), length);
        }
        noState(x, () -> x.append('!'));
        due(x.clearBuffer(), 60);
        due(x.append('!'), 1);
    }

    private static void aBadCodeAndAFullBuffer() {
        VoteLogs x = new VoteLogs();
        type(x, "!".repeat(60));
        noArgument(x, () -> x.append(32));
        noArgument(x, () -> x.append(127));
        noState(x, () -> x.append(126));
    }

    private static void clearingAnEmptyBuffer() {
        due(new VoteLogs().clearBuffer(), 0);
    }

    private static void clearingTellsTheLength() {
        VoteLogs x = new VoteLogs();
        type(x, "d1!");
        due(x.clearBuffer(), 3);
        due(x.clearBuffer(), 0);
    }

    // ---- the parts

    private static void theEmptyText() {
        begun("");
    }

    private static void onePart() {
        course("d1", 1);
    }

    private static void partsWithSemicolonsBetween() {
        course("d1;d2;d3", 3);
        error("d1d2", 2);
    }

    private static void aSemicolonAhead() {
        error(";d1", 0);
    }

    private static void aSemicolonBehind() {
        begun("d1;");
    }

    private static void twoSemicolons() {
        error("d1;;d2", 3);
    }

    private static void twentyParts() {
        course("c0;r0;c1;r1;c2;r2;c3;r3;c4;r4;d1;d1;d1;d1;d1;d1;d1;d1;d1;d1", 20);
    }

    private static void otherLetters() {
        for (char letter = 33; letter <= 126; letter++) {
            if ("bdlcrgq".indexOf(letter) < 0) {
                error(letter + "1", 0);
            } else {
                begun("" + letter);
            }
        }
    }

    private static void storesThatGive() {
        begun("b0");
        begun("b3");
        error("b4", 1);
        error("b/", 1);
        error("b>", 1);
    }

    private static void theArrow() {
        begun("b0>");
        error("b01", 2);
        error("b0:", 2);
        error("b0;", 2);
    }

    private static void oneOrMoreStores() {
        error("b0>:", 3);
        begun("b0>1");
        begun("b0>123");
        error("b0>1;", 4);
    }

    private static void otherStores() {
        for (int store = 0; store < 4; store++) {
            error("b" + store + ">" + store, 3);
        }
        error("b1>01", 4);
        error("b1>03:1;b2>02", 12);
        error("b0>4", 3);
        error("b0>/", 3);
        error("b0>14", 4);
    }

    private static void growingOrder() {
        error("b0>11", 4);
        error("b0>21", 4);
        error("b0>31", 4);
        error("b2>10", 4);
        begun("b2>013");
        error("b2>0133", 6);
        error("b2>013>", 6);
    }

    private static void storesThatGetAreTheMask() {
        VoteLogs x = course("b2>013:7;b0>13:8;b3>2:9", 3);
        due(x.partners(0), 15);
        due(x.share(0, 2), -21);
        due(x.partners(1), 11);
        due(x.share(1, 0), -16);
        due(x.partners(2), 12);
        due(x.share(2, 3), -9);
    }

    private static void theLeastSize() {
        VoteLogs x = course("b0>1:1", 1);
        due(x.share(0, 1), 1);
        error("b0>1:0", 5);
    }

    private static void theGreatestSize() {
        VoteLogs x = course("b0>1:50", 1);
        due(x.share(0, 1), 50);
        error("b0>1:51", 6);
    }

    private static void sizesOfOneDigit() {
        for (int size = 1; size <= 9; size++) {
            due(course("b0>1:" + size, 1).share(0, 1), size);
        }
    }

    private static void sizesOfTwoDigits() {
        for (int size = 10; size <= 49; size++) {
            due(course("b0>1:" + size, 1).share(0, 1), size);
        }
    }

    private static void sizesPastFifty() {
        for (int size = 51; size <= 99; size++) {
            error("b0>1:" + size, 6);
        }
    }

    private static void sizesOfThreeDigits() {
        error("b0>1:100", 7);
        error("b0>1:500", 7);
        error("b0>1:111", 7);
    }

    private static void aZeroAheadOfTheSize() {
        error("b0>1:01", 5);
        error("b0>1:00", 5);
    }

    private static void noSize() {
        begun("b0>1:");
        error("b0>1:;", 5);
        error("b0>1::", 5);
        error("b0>1:/", 5);
    }

    private static void behindTheSize() {
        begun("b0>1:5;");
        begun("b0>1:50;");
        error("b0>1:5:", 6);
        error("b0>1:5/", 6);
        error("b0>1:1:", 6);
        error("b0>1:1/", 6);
        error("b0>1:5d", 6);
        error("b0>1:50d", 7);
    }

    private static void deliveriesFromOneToNine() {
        error("d0", 1);
        course("d1", 1);
        course("d9", 1);
        error("d:", 1);
        error("d10", 2);
        begun("d");
    }

    private static void soManyAreDelivered() {
        VoteLogs x = course("b0>123:1;b0>123:1;b0>123:1;d9", 4);
        due(x.sent(), 12 + 9);
        due(row(x), "021 022 023 100 101 102 103 110 111 112 113 120");
    }

    private static void oneIsDelivered() {
        VoteLogs x = course("b0>123:1;d1", 2);
        due(row(x), "001 002 003 100");
    }

    private static void asLongAsThereIsOne() {
        VoteLogs x = course("b0>1:5;d7;d9;d1", 4);
        due(x.waiting(), 0);
        due(x.hasEnded(0), true);
    }

    private static void placesToLose() {
        course("l0", 0);
        course("l9", 0);
        error("l:", 1);
        error("l/", 1);
        error("l10", 2);
        begun("l");
    }

    private static void theTenthPlaceIsLost() {
        VoteLogs x = course("b0>12:1;b0>12:1;b0>12:1;l0;b3>1:1;l9", 6);
        due(row(x), "001 002 010 011 012 020 021 022 031");
        due(x.lost(), 2);
    }

    private static void sitesThatCrash() {
        due(course("c0", 1).isUp(0), false);
        due(course("c4", 1).isUp(4), false);
        error("c5", 1);
        error("c/", 1);
        error("c00", 2);
        begun("c");
    }

    private static void sitesThatAreUpAgain() {
        due(course("c0;r0", 2).isUp(0), true);
        due(course("c4;r4", 2).isUp(4), true);
        error("r5", 1);
        error("r/", 1);
        error("r00", 2);
        begun("r");
    }

    private static void transfersThatAreGivenUp() {
        course("g0", 0);
        course("g7", 0);
        error("g8", 1);
        error("g/", 1);
        error("g00", 2);
        begun("g");
    }

    private static void storesThatAsk() {
        course("q00", 0);
        course("q30", 0);
        error("q4", 1);
        error("q/", 1);
        begun("q");
        begun("q3");
        error("q3;", 2);
    }

    private static void transfersOfWhichTheyAsk() {
        course("q07", 0);
        error("q08", 2);
        error("q0/", 2);
        error("q000", 3);
    }

    private static void theEighthTransferIsGivenUp() {
        VoteLogs x = afterBegins(8);
        due(run(x, "g7"), 1);
        due(x.outcome(7), 2);
        due(x.outcome(6), 0);
    }

    private static void theThirdStoreAsksOfTheEighthTransfer() {
        VoteLogs x = afterBegins(8);
        x.deliver(31);
        due(run(x, "q37"), 1);
        due(x.kindOf(32), 6);
        due(x.transferOf(32), 7);
        due(x.storeOf(32), 3);
    }

    // ---- firstError

    private static void thereIsNone() {
        due(errorIn(""), 0);
        due(errorIn("d1"), 2);
        due(errorIn("b0>1:5"), 6);
    }

    private static void theFirstOfManyErrors() {
        due(errorIn("!!"), 0);
        due(errorIn("d1;x;!"), 3);
        due(errorIn("d0;d0"), 1);
    }

    private static void theLastCharacterOfSixty() {
        String text = "d1;".repeat(19) + "d1";
        due(errorIn(text + "!"), 59);
        due(errorIn(text + ";"), 60);
        noCourse(text + ";");
    }

    private static void coursesOfAnyLength() {
        String text = "d1;".repeat(19);
        due(errorIn(text + "b0>"), 60);
        due(errorIn(text + "q"), 58);
        due(errorIn(text + "b0:"), 59);
        noCourse(text + "b0>");
    }

    /** The syntax alone counts, not what the call would answer. */
    private static void whatCouldNotBeDoneIsNoError() {
        due(errorIn("c0;c0;l9;g7;q37;r0"), 18);
    }

    private static void lookingChangesNothing() {
        VoteLogs x = new VoteLogs();
        type(x, "d1;!");
        long before = x.digest();
        due(x.firstError(), 3);
        due(x.firstError(), 3);
        due(x.digest(), before);
        noState(x, () -> x.undo());
    }

    // ---- runCourse

    private static void stops(String text, int done) {
        VoteLogs x = new VoteLogs();
        due(run(x, text + ";c0"), done);
        due(x.clearBuffer(), 0);
        due(x.undo(), 0);
        due(x.digest(), new VoteLogs().digest());
    }

    private static void beginOfADownClerkStops() {
        stops("c4;b0>1:1", 1);
    }

    private static void theNinthBeginStops() {
        VoteLogs x = afterBegins(7);
        due(run(x, "b0>1:2;b0>1:3;c0"), 1);
        due(x.transfers(), 8);
        due(x.share(7, 1), 2);
        due(x.isUp(0), true);
    }

    private static void loseStops() {
        stops("b0>1:1;l2", 1);
        stops("b0>1:1;l1;l0;l0", 3);
        stops("l0", 0);
    }

    private static void crashStops() {
        stops("c1;c1", 1);
    }

    private static void recoverStops() {
        stops("r1", 0);
        stops("c1;r1;r1", 2);
    }

    private static void giveUpStops() {
        stops("g0", 0);
        stops("b0>1:1;g1", 1);
        stops("b0>1:1;g0;g0", 2);
        stops("b0>1:1;d4;g0", 2);
        stops("b0>1:1;c4;g0", 2);
    }

    private static void askStops() {
        stops("q00", 0);
        stops("b0>1:1;q00", 1);
        stops("b0>1:1;d1;q01", 2);
        stops("b0>1:1;d1;q10", 2);
        stops("b0>1:1;d1;c0;q00", 3);
        stops("b0>1:1;d5;q00", 2);
    }

    private static void deliverNeverStops() {
        VoteLogs x = course("d9;d1;c0", 3);
        due(x.isUp(0), false);
    }

    private static void whatWasDoneStays() {
        VoteLogs x = course("b0>1:1;d1;c2;c2;c3", 3);
        due(row(x), "001 100");
        due(x.isUp(2), false);
        due(x.isUp(3), true);
    }

    private static void oneUndoForAll() {
        VoteLogs x = course("b0>1:1;d1;c2;g0;l0", 5);
        due(x.undo(), 0);
        due(x.digest(), new VoteLogs().digest());
    }

    private static void undoableIfNothingIsDone() {
        VoteLogs x = course("r0", 0);
        due(x.undo(), 0);
        noState(x, () -> x.undo());
    }

    private static void itClearsTheBuffer() {
        VoteLogs x = new VoteLogs();
        type(x, "c0");
        due(x.runCourse(), 1);
        due(x.append('d'), 1);
        noArgument(x, () -> x.runCourse());
    }

    private static void noCourseLeavesTheBuffer() {
        VoteLogs x = new VoteLogs();
        type(x, "d");
        noArgument(x, () -> x.runCourse());
        due(x.append('1'), 2);
        due(x.runCourse(), 1);
    }

    private static void aCourseOfSixty() {
        String text = "d1;".repeat(18) + "b0>1:5";
        due(text.length(), 60);
        due(course(text, 19).transfers(), 1);
    }

    private static void ofTheBuffer() {
        test("the character code, 33 to 126: 33", TextTest::theLeastCode);
        test("the character code, 33 to 126: 126", TextTest::theGreatestCode);
        test("the character code, 33 to 126: far out", TextTest::codesFarOut);
        test("The buffer has at most 60 characters", TextTest::sixtyCharacters);
        test("append: a code that is not 33 to 126 comes ahead of a full buffer", TextTest::aBadCodeAndAFullBuffer);
        test("clearBuffer: an empty one", TextTest::clearingAnEmptyBuffer);
        test("clearBuffer: the length that it had", TextTest::clearingTellsTheLength);
    }

    private static void ofParts() {
        test("one or more parts: none", TextTest::theEmptyText);
        test("one or more parts: one", TextTest::onePart);
        test("with ; between them", TextTest::partsWithSemicolonsBetween);
        test("with ; between them: not ahead", TextTest::aSemicolonAhead);
        test("with ; between them: not behind", TextTest::aSemicolonBehind);
        test("with ; between them: not twice", TextTest::twoSemicolons);
        test("one or more parts: many", TextTest::twentyParts);
        test("b, d, l, c, r, g, q: no other", TextTest::otherLetters);
        test("b, a store", TextTest::storesThatGive);
        test(">", TextTest::theArrow);
        test("one or more stores", TextTest::oneOrMoreStores);
        test("other stores", TextTest::otherStores);
        test("in growing order", TextTest::growingOrder);
        test("such a transfer is begun", TextTest::storesThatGetAreTheMask);
        test("a size, 1 to 50: 1", TextTest::theLeastSize);
        test("a size, 1 to 50: 50", TextTest::theGreatestSize);
        test("a size, 1 to 50: of one digit", TextTest::sizesOfOneDigit);
        test("a size, 1 to 50: of two digits", TextTest::sizesOfTwoDigits);
        test("a size, 1 to 50: past 50", TextTest::sizesPastFifty);
        test("a size, 1 to 50: of three digits", TextTest::sizesOfThreeDigits);
        test("without a 0 ahead", TextTest::aZeroAheadOfTheSize);
        test("a size: none", TextTest::noSize);
        test("a size: what stands behind it", TextTest::behindTheSize);
    }

    private static void ofOtherParts() {
        test("d and 1 to 9", TextTest::deliveriesFromOneToNine);
        test("so many messages are delivered, each time the first one", TextTest::soManyAreDelivered);
        test("so many messages are delivered: one", TextTest::oneIsDelivered);
        test("as long as there is one", TextTest::asLongAsThereIsOne);
        test("l and a place, 0 to 9", TextTest::placesToLose);
        test("the message there is lost: at 9", TextTest::theTenthPlaceIsLost);
        test("c and a site", TextTest::sitesThatCrash);
        test("r and a site", TextTest::sitesThatAreUpAgain);
        test("g and a transfer, 0 to 7", TextTest::transfersThatAreGivenUp);
        test("g: the transfer 7", TextTest::theEighthTransferIsGivenUp);
        test("q, a store", TextTest::storesThatAsk);
        test("q, and a transfer, 0 to 7", TextTest::transfersOfWhichTheyAsk);
        test("q: the store 3, the transfer 7", TextTest::theThirdStoreAsksOfTheEighthTransfer);
    }

    private static void ofFirstError() {
        test("the length of the buffer if there is none", TextTest::thereIsNone);
        test("the index of the first character that is a syntax error", TextTest::theFirstOfManyErrors);
        test("the index of the first character: the last of 60", TextTest::theLastCharacterOfSixty);
        test("no course as a text, of any length", TextTest::coursesOfAnyLength);
        test("a syntax error: nothing else is one", TextTest::whatCouldNotBeDoneIsNoError);
        test("firstError is not undoable", TextTest::lookingChangesNothing);
    }

    private static void ofRunCourse() {
        test("begin() would throw: the clerk is down", TextTest::beginOfADownClerkStops);
        test("begin() would throw: 8 transfers were begun", TextTest::theNinthBeginStops);
        test("lose() would throw", TextTest::loseStops);
        test("crash() would throw", TextTest::crashStops);
        test("recover() would throw", TextTest::recoverStops);
        test("giveUp() would throw", TextTest::giveUpStops);
        test("ask() would throw", TextTest::askStops);
        test("for deliveries nothing is thrown", TextTest::deliverNeverStops);
        test("up to the first part", TextTest::whatWasDoneStays);
        test("Undoable, as one call", TextTest::oneUndoForAll);
        test("also if nothing is done", TextTest::undoableIfNothingIsDone);
        test("and clears the buffer", TextTest::itClearsTheBuffer);
        test("if the buffer is not a complete course, it stays", TextTest::noCourseLeavesTheBuffer);
        test("a course of 60 characters", TextTest::aCourseOfSixty);
    }

    public static void main(String[] args) {
        ofTheBuffer();
        ofParts();
        ofOtherParts();
        ofFirstError();
        ofRunCourse();
        end();
    }
}
