import java.util.function.Supplier;

/** 'Change text' and promises 27 to 30: a test for each sentence that names an edge. */
public final class ChangeTextEdgesTest {
    private static final Check check = new Check("ChangeTextEdgesTest");
    private static final String FIFTY_NINE = "d;".repeat(29) + "d";

    public static void main(String[] args) {
        check.each(
            ChangeTextEdgesTest::atMost60, ChangeTextEdgesTest::emptyAtFirst,
            ChangeTextEdgesTest::oneOrMoreParts, ChangeTextEdgesTest::separatorsBetween,
            ChangeTextEdgesTest::plusAndDigit, ChangeTextEdgesTest::minusAndNumber,
            ChangeTextEdgesTest::comeAndLeave, ChangeTextEdgesTest::singles, ChangeTextEdgesTest::nothingElse,
            ChangeTextEdgesTest::errorHoweverLong, ChangeTextEdgesTest::errorAtFirstOnly,
            ChangeTextEdgesTest::appendRange, ChangeTextEdgesTest::appendReturns,
            ChangeTextEdgesTest::appendRefusedWhenFull, ChangeTextEdgesTest::clearReturns,
            ChangeTextEdgesTest::firstErrorReturns, ChangeTextEdgesTest::lengthIfNoError,
            ChangeTextEdgesTest::runDoesPartsInOrder, ChangeTextEdgesTest::runStopsAtFirstThatThrows,
            ChangeTextEdgesTest::runStopsInHandover, ChangeTextEdgesTest::runEmptiesBuffer,
            ChangeTextEdgesTest::runIsOneUndo, ChangeTextEdgesTest::runWithoutPartsIsUndoable,
            ChangeTextEdgesTest::runReturns, ChangeTextEdgesTest::runRefused, ChangeTextEdgesTest::bufferStays);
        check.end();
    }

    private static DoorstepRounds written(String text) {
        return written(new DoorstepRounds(), text);
    }

    private static DoorstepRounds written(DoorstepRounds x, String text) {
        Check.write(x, text);
        return x;
    }

    /** The first error, and whether the text is complete. */
    private static void text(String text, int error, boolean complete) {
        DoorstepRounds x = written(text);
        check.due("firstError() of '" + text + "'", error, () -> x.firstError());
        if (complete) {
            check.dueTrue("run() of '" + text + "'", x.run() >= 0 && x.clearText() == 0);
        } else {
            check.dueThrow("run() of '" + text + "'", x, IllegalArgumentException.class, () -> x.run());
            check.due("clearText() of '" + text + "'", text.length(), () -> x.clearText());
        }
    }

    private static void complete(String text) {
        text(text, text.length(), true);
    }

    private static void brokenOff(String text) {
        text(text, text.length(), false);
    }

    private static void wrong(String text, int error) {
        text(text, error, false);
    }

    private static void run(DoorstepRounds x, String text, int want) {
        Check.write(x, text);
        check.due("run() of '" + text + "'", want, () -> x.run());
    }

    private static void atMost60() {
        check.says("The buffer contains at most 60 characters");
        DoorstepRounds x = written(FIFTY_NINE);
        check.due("the 60th character", 60, () -> x.append(';'));
        check.dueThrow("the 61st character", x, IllegalStateException.class, () -> x.append('d'));
        check.due("clearText()", 60, () -> x.clearText());
        check.due("append('d') behind it", 1, () -> x.append('d'));
    }

    private static void emptyAtFirst() {
        check.says("and is empty at first");
        DoorstepRounds x = new DoorstepRounds();
        check.due("firstError()", 0, () -> x.firstError());
        check.due("clearText()", 0, () -> x.clearText());
        check.dueThrow("run()", x, IllegalArgumentException.class, () -> x.run());
        check.due("append('p')", 1, () -> x.append('p'));
    }

    private static void oneOrMoreParts() {
        check.says("A change text is one or more parts (none is no change text)");
        brokenOff("");
        complete("d");
        complete("d;d");
        complete("d;d;d");
        complete(FIFTY_NINE);
        complete(FIFTY_NINE.substring(2) + ";+1");
        check.due("the longest one has 60 characters", 60, () -> (FIFTY_NINE.substring(2) + ";+1").length());
    }

    private static void separatorsBetween() {
        check.says("with \";\" between them (not at the start, not at the end, not twice)");
        wrong(";", 0);
        wrong(";d", 0);
        brokenOff("d;");
        brokenOff("+1;c0;");
        brokenOff("-1;");
        wrong("d;;", 2);
        wrong("d;;d", 2);
        wrong("-1;;d", 3);
        wrong("dd", 1);
        wrong("+1+1", 2);
        wrong("-1-1", 2);
        wrong("c0c1", 2);
        wrong("d:d", 1);
        wrong("d,d", 1);
    }

    private static void plusAndDigit() {
        check.says("\"+\" and a digit from 1 to 9: a doorstep with so many pints is added, like addDoorstep()");
        brokenOff("+");
        wrong("+0", 1);
        wrong("+;", 1);
        wrong("++1", 1);
        wrong("+a", 1);
        wrong("+:", 1);
        wrong("+/", 1);
        wrong("+10", 2);
        wrong("+99", 2);
        wrong("1", 0);
        DoorstepRounds x = new DoorstepRounds();
        for (int pints = 1; pints <= 9; pints++) {
            int added = pints;
            run(x, "+" + pints, 1);
            check.due("pints(" + (pints - 1) + ")", pints, () -> x.pints(added - 1));
            check.due("owner(" + (pints - 1) + ")", -1, () -> x.owner(added - 1));
        }
        check.due("doorsteps()", 9, () -> x.doorsteps());
    }

    private static void minusAndNumber() {
        check.says("\"-\" and the number of a doorstep, 0 to 19, without leading zeros: like removeDoorstep()");
        brokenOff("-");
        for (int number = 0; number <= 19; number++) {
            complete("-" + number);
            complete("-" + number + ";d");
            removes(number);
        }
        for (int number = 20; number <= 99; number++) {
            wrong("-" + number, 2);
        }
        for (int number = 0; number <= 9; number++) {
            wrong("-0" + number, 2);
            wrong("-1" + number + "0", 3);
        }
        wrong("-;", 1);
        wrong("--1", 1);
        wrong("-+", 1);
        wrong("-/", 1);
        wrong("-:", 1);
        wrong("-1/", 2);
        wrong("-1:", 2);
        wrong("-100", 3);
    }

    private static void removes(int number) {
        DoorstepRounds x = Dairies.fresh(20, 0);
        x.setPints(number, 9);
        run(x, "-" + number, 1);
        check.due("doorsteps()", 19, () -> x.doorsteps());
        for (int i = 0; i < 19; i++) {
            int doorstep = i;
            check.due("pints(" + i + ") behind -" + number, 1, () -> x.pints(doorstep));
        }
    }

    private static void comeAndLeave() {
        check.says("\"c\" and a digit from 0 to 5: like come(); \"l\" and a digit from 0 to 5: like leave()");
        for (String kind : new String[] {"c", "l"}) {
            brokenOff(kind);
            for (int number = 0; number <= 5; number++) {
                complete(kind + number);
            }
            for (int number = 6; number <= 9; number++) {
                wrong(kind + number, 1);
            }
            wrong(kind + "-1", 1);
            wrong(kind + "/", 1);
            wrong(kind + "05", 2);
            wrong(kind + "50", 2);
            wrong(kind + ";", 1);
        }
        DoorstepRounds x = Dairies.fresh(0, 0);
        for (int milkman = 0; milkman <= 5; milkman++) {
            int one = milkman;
            run(x, "c" + milkman, 1);
            check.due("isAtWork(" + milkman + ")", 1, () -> x.isAtWork(one) ? 1 : 0);
            run(x, "l" + milkman, 1);
            check.due("isAtWork(" + milkman + ")", 0, () -> x.isAtWork(one) ? 1 : 0);
        }
    }

    private static void singles() {
        check.says("\"p\": like plan(); \"h\": like handOver(); \"x\": like callOff(); \"d\": like deliver()");
        for (String single : new String[] {"p", "h", "x", "d"}) {
            complete(single);
            wrong(single + "0", 1);
            wrong(single + "1", 1);
            wrong(single + single, 1);
        }
        DoorstepRounds x = Dairies.fresh(3, 1);
        run(x, "p", 1);
        check.due("handover() behind p", 1, () -> x.handover());
        run(x, "h", 1);
        check.due("handover() behind h", 2, () -> x.handover());
        run(x, "x", 1);
        check.due("handover() behind x", 0, () -> x.handover());
        check.due("misses() before d", 0, () -> x.misses());
        run(x, "d", 1);
        check.due("misses() behind d", 3, () -> x.misses());
        run(x, "p;h;h", 3);
        check.due("changed() behind p;h;h", 3, () -> x.changed());
    }

    private static void nothingElse() {
        check.says("A change text is one or more parts (and no other character begins one)");
        for (int code = 33; code <= 126; code++) {
            String sign = String.valueOf((char) code);
            boolean single = "phxd".indexOf(code) >= 0;
            boolean begins = "+-cl".indexOf(code) >= 0;
            text(sign, single || begins ? 1 : 0, single);
            text("d;" + sign, single || begins ? 3 : 2, single);
        }
    }

    private static void errorHoweverLong() {
        check.says("if no change text, however long, begins with the characters before it and this character");
        String sixty = FIFTY_NINE + ";";
        check.due("firstError() of 60 that go on", 60, () -> written(sixty).firstError());
        for (String last : new String[] {";+", ";-", ";c", ";l"}) {
            String text = "+1" + ";d".repeat(28) + last;
            check.due("firstError() of 60 that end with " + last, 60, () -> written(text).firstError());
            check.dueThrow("run() of it", written(text), IllegalArgumentException.class, () -> written(text).run());
        }
        String last = FIFTY_NINE + "d";
        check.due("firstError() of an error at the end", 59, () -> written(last).firstError());
    }

    private static void errorAtFirstOnly() {
        check.says("begins with the characters before it (an error before it is one for all behind it)");
        check.due("firstError() of 'q;p'", 0, () -> written("q;p").firstError());
        check.due("firstError() of 'p;+0;p'", 3, () -> written("p;+0;p").firstError());
        check.due("firstError() of '-20;-20'", 2, () -> written("-20;-20").firstError());
        check.due("firstError() of ';;'", 0, () -> written(";;").firstError());
        check.dueThrow("run() of 'p;+0;p'", written("p;+0;p"), IllegalArgumentException.class,
            () -> written("p;+0;p").run());
    }

    private static void appendRange() {
        check.says("code: a character code, 33 to 126. Throws IllegalArgumentException if code is out of range");
        DoorstepRounds x = new DoorstepRounds();
        int[] all = {32, 127, 0, -1, 31, 128, 33 + 256, 'p' + 65536, Integer.MIN_VALUE, Integer.MAX_VALUE};
        for (int wrong : all) {
            check.dueThrow("append(" + wrong + ")", x, IllegalArgumentException.class, () -> x.append(wrong));
        }
        check.due("clearText()", 0, () -> x.clearText());
        for (int code = 33; code <= 126; code++) {
            DoorstepRounds y = new DoorstepRounds();
            int good = code;
            check.due("append(" + code + ")", 1, () -> y.append(good));
        }
    }

    private static void appendReturns() {
        check.says("Returns the new length of the buffer");
        DoorstepRounds x = new DoorstepRounds();
        for (int i = 1; i <= 60; i++) {
            check.due("append('z')", i, () -> x.append('z'));
        }
        check.due("savedStates(), append() is not undoable", 0, () -> x.savedStates());
    }

    private static void appendRefusedWhenFull() {
        check.says("Throws IllegalStateException if the buffer contains 60 characters");
        DoorstepRounds x = written(FIFTY_NINE);
        check.due("append(126) to 59", 60, () -> x.append(126));
        check.dueThrow("append(126) to 60", x, IllegalStateException.class, () -> x.append(126));
        check.dueThrow("append(33) to 60", x, IllegalStateException.class, () -> x.append(33));
        DoorstepRounds y = written(FIFTY_NINE);
        y.run();
        check.due("append('d') behind run()", 1, () -> y.append('d'));
    }

    private static void clearReturns() {
        check.says("Empties the buffer. Returns the length that it had");
        DoorstepRounds x = new DoorstepRounds();
        check.due("clearText() of an empty one", 0, () -> x.clearText());
        check.due("clearText() of one", 1, () -> written(x, "p").clearText());
        check.due("clearText() again", 0, () -> x.clearText());
        check.due("clearText() of 60", 60, () -> written(x, FIFTY_NINE + ";").clearText());
        check.due("firstError() behind it", 0, () -> x.firstError());
        check.dueThrow("run() behind it", x, IllegalArgumentException.class, () -> x.run());
        check.due("savedStates()", 0, () -> x.savedStates());
    }

    private static void firstErrorReturns() {
        check.says("Returns the index of the first character that is an error");
        wrong("q", 0);
        wrong("0", 0);
        wrong("C0", 0);
        wrong("!", 0);
        wrong("~", 0);
        wrong("p;+1;-19;c5;l0;h;x;d;q", 21);
        DoorstepRounds x = written("+x");
        check.due("firstError()", 1, () -> x.firstError());
        check.due("firstError() again", 1, () -> x.firstError());
        x.append('1');
        check.due("firstError() when more is behind it", 1, () -> x.firstError());
        check.due("clearText(), firstError() changes nothing", 3, () -> x.clearText());
    }

    private static void lengthIfNoError() {
        check.says("the length of the buffer if there is none (also if the buffer is not a complete change text)");
        brokenOff("");
        brokenOff("+");
        brokenOff("p;");
        brokenOff("-1;");
        complete("-1");
        complete("p");
        complete("+1;-19;c5;l0;p;h;x;d");
        check.due("firstError() of 60", 60, () -> written(FIFTY_NINE + ";").firstError());
    }

    private static void runDoesPartsInOrder() {
        check.says("Does the parts of the change text in the buffer, one after the other");
        DoorstepRounds x = new DoorstepRounds();
        run(x, "+9;+8;+7;-0;c3;p;h;h;d;l3;d", 11);
        check.due("doorsteps()", 2, () -> x.doorsteps());
        check.due("pints(0)", 8, () -> x.pints(0));
        check.due("pints(1)", 7, () -> x.pints(1));
        check.due("delivered()", 15, () -> x.delivered());
        check.due("misses()", 2, () -> x.misses());
        check.due("changed()", 2, () -> x.changed());
        check.due("isAtWork(3)", 0, () -> x.isAtWork(3) ? 1 : 0);
        DoorstepRounds full = new DoorstepRounds();
        run(full, "+1;+2;+3;+4;+5;+6;+7;+8;+9;+1;+2;+3;+4;+5;+6;+7;+8;+9;+1;+2", 20);
        check.due("doorsteps() behind 20 parts", 20, () -> full.doorsteps());
        check.due("pints(19)", 2, () -> full.pints(19));
    }

    /** How far the text is done, and what doorsteps(), handover() and misses() answer then. */
    private static void stops(Supplier<DoorstepRounds> maker, String text, int done, String state) {
        DoorstepRounds x = maker.get();
        run(x, text, done);
        check.compare("the state behind '" + text + "'", x.doorsteps() + "/" + x.handover() + "/" + x.misses(), state);
        check.due("clearText() behind '" + text + "'", 0, () -> x.clearText());
        int saved = Math.min(6, maker.get().savedStates() + 1);
        check.due("savedStates() behind '" + text + "'", saved, () -> x.savedStates());
    }

    private static void runStopsAtFirstThatThrows() {
        check.says("up to the first one whose method would throw an exception");
        Supplier<DoorstepRounds> empty = DoorstepRounds::new;
        stops(empty, "-0;+1", 0, "0/0/0");
        stops(empty, "+1;-1;+1", 1, "1/0/0");
        stops(empty, "+1;-0;-0;+1", 2, "0/0/0");
        stops(empty, "c0;c0;+1", 1, "0/0/0");
        stops(empty, "l5;+1", 0, "0/0/0");
        stops(empty, "c5;l5;l5;+1", 2, "0/0/0");
        stops(empty, "p;+1", 0, "0/0/0");
        stops(empty, "h;+1", 0, "0/0/0");
        stops(empty, "x;+1", 0, "0/0/0");
        stops(empty, "c0;p;h;+1", 2, "0/0/0");
        stops(empty, "c0;p;x;+1", 2, "0/0/0");
        stops(() -> Dairies.fresh(20, 0), "+1;d", 0, "20/0/0");
        stops(() -> Dairies.fresh(20, 0), "-19;-19;d", 1, "19/0/0");
        stops(() -> Dairies.fresh(19, 0), "+1;d;+1;d", 2, "20/0/20");
        stops(() -> Dairies.fresh(19, 0), "-19;d", 0, "19/0/0");
    }

    private static void runStopsInHandover() {
        check.says("up to the first one whose method would throw an exception (in a handover)");
        for (String refused : new String[] {"+1", "-0", "-4", "c5", "l0", "l1", "p"}) {
            stops(Dairies::beforeFirstStep, refused + ";d", 0, "5/1/0");
            stops(Dairies::beforeSecondStep, refused + ";d", 0, "5/2/0");
            stops(Dairies::beforeFirstStep, "h;" + refused + ";d", 1, "5/2/0");
        }
        stops(Dairies::beforeFirstStep, "h;h;h;d", 2, "5/0/0");
        stops(Dairies::beforeFirstStep, "x;x;d", 1, "5/0/0");
        stops(Dairies::beforeFirstStep, "h;d;x;d;+1;d", 6, "6/0/5");
        stops(Dairies::beforeFirstStep, "h;h;+1;p;d", 5, "6/1/1");
    }

    private static void runEmptiesBuffer() {
        check.says("and empties the buffer");
        DoorstepRounds all = new DoorstepRounds();
        run(all, "d;d", 2);
        check.due("clearText() when all is done", 0, () -> all.clearText());
        DoorstepRounds some = new DoorstepRounds();
        run(some, "d;h;d", 1);
        check.due("clearText() when some is done", 0, () -> some.clearText());
        DoorstepRounds none = new DoorstepRounds();
        run(none, "h;d", 0);
        check.due("clearText() when none is done", 0, () -> none.clearText());
        run(none, "+1", 1);
        check.due("doorsteps() by the text behind it", 1, () -> none.doorsteps());
    }

    private static void runIsOneUndo() {
        check.says("Undoable, as one call");
        DoorstepRounds x = Dairies.freshAndShared(2, 1);
        x.deliver();
        long digest = x.digest();
        run(x, "+1;+2;+3;c1;c2;p;h;h;d;d", 10);
        check.due("savedStates()", 6, () -> x.savedStates());
        check.due("undo()", 5, () -> x.undo());
        check.due("digest() behind undo()", digest, () -> x.digest());
        check.due("clearText(), undo() leaves the buffer", 0, () -> x.clearText());
        check.due("undo() of the call before", 4, () -> x.undo());
        check.due("delivered()", 0, () -> x.delivered());
        DoorstepRounds y = new DoorstepRounds();
        run(y, "+1;+2;+3;+4;+5;+6;+7;+8", 8);
        check.due("savedStates() behind eight parts", 1, () -> y.savedStates());
        check.due("undo() of eight parts", 0, () -> y.undo());
        check.due("doorsteps()", 0, () -> y.doorsteps());
    }

    private static void runWithoutPartsIsUndoable() {
        check.says("also if no part is done");
        DoorstepRounds x = new DoorstepRounds();
        run(x, "h", 0);
        check.due("savedStates()", 1, () -> x.savedStates());
        check.due("undo()", 0, () -> x.undo());
        x.addDoorstep(4);
        for (int i = 0; i < 6; i++) {
            run(x, "x;d", 0);
        }
        check.due("savedStates() of six of them", 6, () -> x.savedStates());
        for (int i = 5; i >= 0; i--) {
            check.due("undo() of one of them", i, () -> x.undo());
        }
        check.due("doorsteps(), the oldest state is discarded", 1, () -> x.doorsteps());
    }

    private static void runReturns() {
        check.says("Returns the number of parts that are done");
        run(new DoorstepRounds(), "h", 0);
        run(new DoorstepRounds(), "d", 1);
        run(new DoorstepRounds(), FIFTY_NINE, 30);
        // a part that changes nothing is done too
        run(Dairies.freshAndShared(2, 2), "p;p;p", 3);
        run(Dairies.freshAndShared(2, 2), "p;h", 1);
        run(new DoorstepRounds(), "d;-19", 1);
    }

    private static void runRefused() {
        check.says("Throws IllegalArgumentException if the buffer is not a complete change text");
        String[] all = {"", "+", "-", "c", "l", "d;", ";", ";d", "d;;d", "dd", "+0", "-20", "-01", "c6", "l6", "d1",
            "D", "d;+", "d;q"};
        for (String text : all) {
            DoorstepRounds x = written(Dairies.beforeFirstStep(), text);
            check.dueThrow("run() of '" + text + "'", x, IllegalArgumentException.class, () -> x.run());
            check.due("misses(), nothing is done", 0, () -> x.misses());
        }
        DoorstepRounds full = written(FIFTY_NINE + ";");
        check.dueThrow("run() of 60 that go on", full, IllegalArgumentException.class, () -> full.run());
    }

    private static void bufferStays() {
        check.says("(the buffer stays)");
        DoorstepRounds x = written("+1;c");
        check.dueThrow("run() of '+1;c'", x, IllegalArgumentException.class, () -> x.run());
        check.dueThrow("run() of '+1;c' again", x, IllegalArgumentException.class, () -> x.run());
        check.due("append('5')", 5, () -> x.append('5'));
        check.due("run() of '+1;c5'", 2, () -> x.run());
        check.due("isAtWork(5)", 1, () -> x.isAtWork(5) ? 1 : 0);
        DoorstepRounds full = written(FIFTY_NINE + ";");
        check.dueThrow("run() of 60", full, IllegalArgumentException.class, () -> full.run());
        check.dueThrow("append('d') to 60", full, IllegalStateException.class, () -> full.append('d'));
        check.due("clearText()", 60, () -> full.clearText());
    }
}
