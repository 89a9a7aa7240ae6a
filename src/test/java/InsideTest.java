import java.lang.reflect.Field;

/**
 * Sentences of the document that no run of calls reaches: four stores of 100 never come near 999, and a clerk that
 * decides once, with stores that wait for it, never sends what a store couldn't take. So an amount or a message is
 * put inside, where the class holds it; who changes how the state is held changes the two helpers below.
 */
public final class InsideTest extends Checks {
    private static Object inside(Object holder, String name) {
        return read(holder, name, null);
    }

    /** Reads a field, and writes a number into it if there is one. */
    private static Object read(Object holder, String name, Integer number) {
        try {
            Field field = holder.getClass().getDeclaredField(name);
            field.setAccessible(true);
            if (number != null) {
                field.setInt(holder, number);
            }
            return field.get(holder);
        } catch (ReflectiveOperationException e) {
            throw new IllegalStateException("the state is held in another way: " + e);
        }
    }

    private static void putAmount(VoteLogs x, int store, int amount) {
        int[] amounts = (int[]) inside(inside(x, "now"), "amounts");
        amounts[store] = amount;
        due(x.amount(store), amount);
    }

    /** The message waits behind the others, as if it had been sent. */
    private static void putMessage(VoteLogs x, int kind, int transfer, int store) {
        Object now = inside(x, "now");
        int place = x.waiting();
        ((int[]) inside(now, "row"))[place] = kind << 5 | transfer << 2 | store;
        read(now, "rowLength", place + 1);
        read(now, "sentCount", x.sent() + 1);
        due("" + x.kindOf(place) + x.transferOf(place) + x.storeOf(place), "" + kind + transfer + store);
    }

    private static void handle(VoteLogs x, int kind, int transfer, int store) {
        putMessage(x, kind, transfer, store);
        due(x.deliver(x.waiting() - 1), true);
    }

    // ---- 0 to 999

    private static void exactly999() {
        VoteLogs x = after("b0>1:9");
        putAmount(x, 1, 990);
        x.deliver(1);
        due(x.state(1, 0), 1);
    }

    private static void oneMoreThan999() {
        VoteLogs x = after("b0>1:10");
        putAmount(x, 1, 990);
        x.deliver(1);
        due(x.state(1, 0), 3);
        due(row(x), "000 201");
    }

    private static void sharesThatItIsReadyToGet() {
        VoteLogs x = after("b0>1:9;b0>1:1");
        putAmount(x, 1, 990);
        x.deliver(placeOf(x, 0, 0, 1));
        x.deliver(placeOf(x, 0, 1, 1));
        due(log(x, 1), "40 21");
    }

    private static void theLeastShareThatItIsReadyToGet() {
        VoteLogs x = after("b0>1:1;b0>1:50;b0>1:49");
        putAmount(x, 1, 949);
        x.deliver(placeOf(x, 0, 0, 1));
        x.deliver(placeOf(x, 0, 1, 1));
        x.deliver(placeOf(x, 0, 2, 1));
        due(log(x, 1), "40 21 42");
    }

    private static void sharesThatItIsReadyToGive() {
        VoteLogs x = after("b1>2:50;b0>1:10");
        putAmount(x, 1, 990);
        x.deliver(placeOf(x, 0, 0, 1));
        x.deliver(placeOf(x, 0, 1, 1));
        due(log(x, 1), "40 21");
    }

    private static void whatIsAskedOfAFullStore() {
        VoteLogs x = after("b1>023:50");
        putAmount(x, 1, 999);
        x.deliver(1);
        due(x.state(1, 0), 1);
    }

    private static void theSizeToAStoreNear999() {
        VoteLogs x = new VoteLogs();
        putAmount(x, 2, 990);
        due(x.greatestSize(0, 2), 50);
        due(x.greatestSize(0, 4), 9);
        due(x.greatestSize(0, 14), 9);
        putAmount(x, 2, 998);
        due(x.greatestSize(0, 6), 1);
        putAmount(x, 2, 999);
        due(x.greatestSize(0, 6), 0);
        due(x.greatestSize(2, 1), 50);
    }

    // ---- what stores and the clerk do

    private static void askingOfAReadyStore() {
        VoteLogs x = after("b0>1:5;d1");
        handle(x, 0, 0, 0);
        due(row(x), "001 100 100");
        due(log(x, 0), "40");
    }

    private static void askingOfAStoreThatMadeIt() {
        VoteLogs x = after("b0>1:5;d6;l0;l0");
        handle(x, 0, 0, 1);
        due(row(x), "101");
        due(log(x, 1), "40 10");
        due(x.amount(1), 105);
    }

    private static void makeOfAStoreThatIsNotReady() {
        VoteLogs x = after("b0>1:5");
        handle(x, 3, 0, 0);
        due(x.state(0, 0), 0);
        due(x.records(0), 0);
        due(x.amount(0), 100);
    }

    private static void makeOfAStoreThatDroppedIt() {
        VoteLogs x = after("b0>123:50;d1");
        handle(x, 3, 0, 0);
        due(x.state(0, 0), 3);
        due(log(x, 0), "20");
        due(x.amount(0), 100);
    }

    private static void dropOfAStoreThatMadeIt() {
        VoteLogs x = after("b0>1:5;d5");
        handle(x, 4, 0, 0);
        due(x.state(0, 0), 2);
        due(log(x, 0), "40 10");
        due(x.amount(0), 95);
    }

    private static void someMadeItOthersDroppedIt() {
        VoteLogs x = after("b0>1:5;d5");
        handle(x, 4, 0, 1);
        due(x.state(0, 0), 2);
        due(x.state(1, 0), 3);
        due(x.outcomeByStores(0), 3);
        VoteLogs z = after("b0>1:5;d4");
        handle(z, 4, 0, 0);
        handle(z, 3, 0, 1);
        due(z.outcomeByStores(0), 3);
    }

    private static void oneStoreSaysYesTwice() {
        VoteLogs x = after("b0>1:5;d3");
        handle(x, 1, 0, 0);
        due(x.saidYes(0), 1);
        due(x.outcome(0), 0);
        due(x.waiting(), 1);
    }

    private static void aYesOfADecidedOneIsNotRemembered() {
        VoteLogs x = after("b0>1:5;d8;c4;r4");
        handle(x, 1, 0, 0);
        due(x.saidYes(0), 0);
        due(log(x, 4), "00 10 30");
    }

    private static void aNoOfADecidedOne() {
        VoteLogs x = after("b0>1:5;d4");
        handle(x, 2, 0, 1);
        due(x.outcome(0), 1);
        due(row(x), "300 301");
        due(log(x, 4), "00 10");
    }

    public static void main(String[] args) {
        test("together, must be 0 to 999: 999", InsideTest::exactly999);
        test("together, must be 0 to 999: 1000", InsideTest::oneMoreThan999);
        test("all shares above 0 (if it is above 0)", InsideTest::sharesThatItIsReadyToGet);
        test("all shares above 0 (if it is above 0): 1 too", InsideTest::theLeastShareThatItIsReadyToGet);
        test("not the shares below 0 (if it is above 0)", InsideTest::sharesThatItIsReadyToGive);
        test("an amount, 0 to 999: 999", InsideTest::whatIsAskedOfAFullStore);
        test("47: all who take part would say yes, near 999", InsideTest::theSizeToAStoreNear999);
        test("A store that knows of it sends yes if it is ready", InsideTest::askingOfAReadyStore);
        test("A store that knows of it sends yes if it has made it", InsideTest::askingOfAStoreThatMadeIt);
        test("make: a store that is ready, no other", InsideTest::makeOfAStoreThatIsNotReady);
        test("make: not a store that has dropped it", InsideTest::makeOfAStoreThatDroppedIt);
        test("drop: a store that is ready, or does not know of it, no other", InsideTest::dropOfAStoreThatMadeIt);
        test("27: 3 if some have made it and others dropped it", InsideTest::someMadeItOthersDroppedIt);
        test("when all who take part have said yes: not one of them twice", InsideTest::oneStoreSaysYesTwice);
        test("yes: if the transfer is undecided, the clerk remembers it", InsideTest::aYesOfADecidedOneIsNotRemembered);
        test("no: if the transfer is undecided", InsideTest::aNoOfADecidedOne);
        end();
    }
}
