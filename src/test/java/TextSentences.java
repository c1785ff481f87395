import java.util.function.Supplier;

/** Texts, and the promises 32 to 36. */
final class TextSentences extends Offices {
    private static final String SIXTY = "seed:1;seed:2;seed:3;seed:4;seed:5;seed:6;seed:7;seed:99999;";

    static void all() {
        texts();
        words();
        errors();
        append();
        run();
        errorPosition();
        report();
        reportInWords();
        character();
    }

    /** The text runs, and has the effect of this call. */
    private static void runs(String text, int commands, Call same) {
        runs(Offices::quiet, text, commands, same);
    }

    private static void runs(Supplier<LotInspector> start, String text, int commands, Call same) {
        LotInspector x = start.get();
        type(x, text);
        due(text + " run", x.run(), commands);
        due(text + " errorPosition()", x.errorPosition(), -1);
        due(text + " count(5)", x.count(5), 0);
        LotInspector y = start.get();
        same.on(y);
        due(text + " has the effect", States.withoutText(x), States.withoutText(y));
    }

    /** The text does not run, the error is at this position, and nothing else has changed. */
    private static void fails(String text, Class<?> kind, int position) {
        fails(Offices::quiet, text, kind, position);
    }

    private static void fails(Supplier<LotInspector> start, String text, Class<?> kind, int position) {
        LotInspector x = start.get();
        type(x, text);
        due("\"" + text + "\" throws", thrownBy(x, LotInspector::run), kind.getName());
        due("\"" + text + "\" errorPosition()", x.errorPosition(), position);
        due("\"" + text + "\" count(5)", x.count(5), 0);
        due("\"" + text + "\" has no effect", States.withoutText(x), States.withoutText(start.get()));
    }

    private static void texts() {
        test(32, "Texts. A buffer holds at most 60 characters.", () -> {
            LotInspector x = new LotInspector();
            type(x, SIXTY);
            due("count(5)", x.count(5), 60);
            due("one more throws", thrownBy(x, y -> y.append('x')), STATE.getName());
            due("run() of 60", x.run(), 8);
            due("the last one", x.count(6), 99999);
        });
        test(33, "A text consists of one or more commands.", () -> {
            runs("seed:3;", 1, x -> x.seed(3));
            runs(SIXTY, 8, x -> x.seed(99999));
            fails("", NUMBER, 0);
            fails("seed:3;;", NUMBER, 7);
        });
        test(33, "A command is a word, a colon, numbers with commas between them, and a semicolon.", () -> {
            runs("machine:5,6,1;", 1, x -> x.machine(5, 6, 1));
            fails("machine5,6,1;", NUMBER, 7);
            fails("machine;5,6,1;", NUMBER, 7);
            fails("machine:5;6;1;", NUMBER, 9);
            fails("machine:5,,6;", NUMBER, 10);
            fails("machine:5,6,1,", NUMBER, 13);
            fails("machine:5,6,1:", NUMBER, 13);
            fails("seed:1;seed:2", NUMBER, 13);
            fails(":5;", NUMBER, 0);
            fails("seed:;", NUMBER, 5);
            fails("seed:1,;", NUMBER, 6);
        });
        test(33, "A number has 1 to 5 digits, the first of which is not 0 unless it is the only one.", () -> {
            runs("seed:0;", 1, x -> x.seed(0));
            runs("seed:9;", 1, x -> x.seed(9));
            runs("seed:10;", 1, x -> x.seed(10));
            runs("seed:99999;", 1, x -> x.seed(99999));
            runs("seed:10000;", 1, x -> x.seed(10000));
            fails("seed:100000;", NUMBER, 10);
            fails("seed:00;", NUMBER, 6);
            fails("seed:01;", NUMBER, 6);
            fails("seed:a;", NUMBER, 5);
            fails("seed:-1;", NUMBER, 5);
            fails("seed:+1;", NUMBER, 5);
            fails("seed:/;", NUMBER, 5);
            fails("raw:0,00,1;", NUMBER, 7);
        });
    }

    private static LotInspector accepted() {
        LotInspector x = office();
        for (int i = 0; i < 3; i++) {
            blindLot(x, i, 3);
        }
        return x;
    }

    private static void words() {
        test(33, "The words and their numbers are those of the methods with these names: machine with 3 numbers, product "
                + "with 4, raw with 3, make with 4 to 6, inspect, sort, ship, release and seed with 1 each;", () -> {
            runs("machine:5,50,3;", 1, x -> x.machine(5, 50, 3));
            runs("product:2,30,15,1;", 1, x -> x.product(2, 30, 15, 1));
            runs("raw:4,3,9;", 1, x -> x.raw(4, 3, 9));
            runs(TextSentences::accepted, "make:3,2,1,1,2,0;", 1, x -> x.make(3, 2, 1, 1, 2, 0));
            runs("inspect:2;", 1, x -> x.inspect(2));
            runs("sort:3;", 1, x -> x.sort(3));
            runs("ship:1;", 1, x -> x.ship(1));
            runs(Offices::stopped, "release:0;", 1, x -> x.release(0));
            runs("seed:77;", 1, x -> x.seed(77));
            String[] fewer = {"machine:1,2;", "product:1,2,3;", "raw:1,2;", "make:1,2,3;"};
            int[] behind = {11, 13, 7, 10};
            for (int i = 0; i < fewer.length; i++) {
                fails(fewer[i], NUMBER, behind[i]);
            }
            String[] more = {"machine:1,2,3,4;", "product:1,2,3,4,5;", "raw:1,2,3,4;", "make:1,2,3,4,5,6,7;",
                "inspect:2,2;", "sort:3,3;", "ship:1,1;", "release:0,0;", "seed:1,1;"};
            int[] ahead = {13, 15, 9, 16, 9, 6, 6, 9, 6};
            for (int i = 0; i < more.length; i++) {
                fails(more[i], NUMBER, ahead[i]);
            }
        });
        test(33, "The words and their numbers are those of the methods with these names:", () -> {
            LotInspector x = accepted();
            type(x, "make:4,2,3,1,0,2;raw:5,1,7;");
            due("run()", x.run(), 2);
            due("the machine of make", x.lot(3, 9), 4);
            due("the product of make", x.lot(3, 0), 2);
            due("the size of make", x.lot(3, 1), 3);
            due("the first part", x.madeOf(3, 0, 0), 1000);
            due("the second part", x.madeOf(3, 0, 1), 0);
            due("the third part", x.madeOf(3, 0, 2), 2000);
            due("the machine of raw", x.lot(4, 9), 5);
            due("the product of raw", x.lot(4, 0), 1);
            due("the size of raw", x.lot(4, 1), 7);
        });
        test(33, "numbers of parts that make does not have are -1.", () -> {
            runs(TextSentences::accepted, "make:0,1,2,1;", 1, x -> x.make(0, 1, 2, 1, -1, -1));
            runs(TextSentences::accepted, "make:0,1,2,1,2;", 1, x -> x.make(0, 1, 2, 1, 2, -1));
            LotInspector x = accepted();
            type(x, "make:0,1,1,1,2,0;make:0,1,1,2;make:0,1,1,2,0;");
            due("run()", x.run(), 3);
            due("parts, whatever the command before had", x.lot(3, 8) * 100 + x.lot(4, 8) * 10 + x.lot(5, 8), 312);
            fails("make:0,0,1,-1;", NUMBER, 11);
        });
    }

    private static void errors() {
        test(34, "The error position of a text that is not like this is the index of the first character with which no "
                + "such text can go on,", () -> {
            fails("seed:1x", NUMBER, 6);
            fails("seed:1:", NUMBER, 6);
            fails("seed:1;~", NUMBER, 7);
            fails("Seed:1;", NUMBER, 0);
            fails("1;", NUMBER, 0);
            fails("seed.1;", NUMBER, 4);
            fails("seedX:1;", NUMBER, 4);
            fails("seed:1;seed:2;seed:3;seed:4;5", NUMBER, 28);
            fails("raw:10,2x", NUMBER, 8);
            fails("make:1,2,3;", NUMBER, 10);
            fails("make:1,2,3,4,5,6,", NUMBER, 16);
            fails("seed:123456", NUMBER, 10);
            fails("raw:1,2,3;Raw:1,2,3;", NUMBER, 10);
        });
        test(34, "or its length if it ends too early;", () -> {
            fails("", NUMBER, 0);
            fails("seed", NUMBER, 4);
            fails("seed:", NUMBER, 5);
            fails("seed:1", NUMBER, 6);
            fails("seed:12345", NUMBER, 10);
            fails("raw:1,", NUMBER, 6);
            fails("raw:1,2", NUMBER, 7);
            fails("raw:1,2,3", NUMBER, 9);
            fails("make:1,2,3,4", NUMBER, 12);
            fails("make:1,2,3,4,5,6", NUMBER, 16);
            fails("seed:1;sort", NUMBER, 11);
            fails("machine:0,0,0;machine:0,0,0;machine:0,0,0;machine:0,0,0;seed", NUMBER, 60);
            fails("machine:0,0,0;machine:0,0,0;machine:0,0,0;machine:0,0,0;s:1;", NUMBER, 56);
            LotInspector x = new LotInspector();
            type(x, "seed:12;seed:3;");
            due("a longer text", x.run(), 2);
            for (String shorter : new String[] {"seed:12", "seed:1", "seed:", "seed"}) {
                type(x, shorter);
                due(shorter + " after a longer text throws", thrownBy(x, LotInspector::run), NUMBER.getName());
                due("its error position", x.errorPosition(), shorter.length());
            }
        });
        test(34, "for a word that is none of these, read as far as letters a to z go, it is that of the first letter of "
                + "the word, also if the text ends behind it.", () -> {
            fails("see:1;", NUMBER, 0);
            fails("see", NUMBER, 0);
            fails("seeds:1;", NUMBER, 0);
            fails("seeds", NUMBER, 0);
            fails("s", NUMBER, 0);
            fails("z", NUMBER, 0);
            fails("seed:1;seedy", NUMBER, 7);
            fails("seed:1;x;", NUMBER, 7);
            fails("seedseed:1;", NUMBER, 0);
            fails("seedz:1;", NUMBER, 0);
            fails("seeda:1;", NUMBER, 0);
            fails("feed:1;", NUMBER, 0);
            fails("seek:1;", NUMBER, 0);
            fails("soed:1;", NUMBER, 0);
            fails("undo:1;", NUMBER, 0);
            fails("complain:4,1;", NUMBER, 0);
            fails("run:1;", NUMBER, 0);
            fails("rAw:1,1,1;", NUMBER, 0);
            fails("raw{1,1,1;", NUMBER, 3);
            fails("raw`1,1,1;", NUMBER, 3);
        });
        test(34, "If a text is like this, but the method of a command throws an exception, it is the index of the first "
                + "letter of this command, and none of the commands has an effect.", () -> {
            fails("seed:5;seed:6;inspect:99999;", STATE, 14);
            fails("machine:6,0,0;", STATE, 0);
            fails("seed:5;machine:0,51,0;", STATE, 7);
            fails("product:0,31,0,0;", STATE, 0);
            fails("raw:0,0,5;inspect:8;sort:8;", STATE, 20);
            fails("raw:0,0,5;inspect:8;ship:8;ship:8;", STATE, 27);
            fails("sort:3;raw:0,0,0;seed:9;", STATE, 7);
            fails("ship:1;make:1,1,1,1;", STATE, 7);
            fails("inspect:6;release:3;", STATE, 10);
            fails("make:0,0,1,0,1,99999;", STATE, 0);
            fails("make:0,0,1,0,0;", STATE, 0);
        });
    }

    private static void append() {
        test(32, "Appends up to four characters to the buffer: the bytes of an int from the most significant one to the "
                + "least significant one, where bytes that are 0 are skipped.", () -> {
            LotInspector x = new LotInspector();
            due("none", x.append(0), 0);
            due("four", x.append('s' << 24 | 'e' << 16 | 'e' << 8 | 'd'), 4);
            due("two, with gaps", x.append(':' << 24 | '4' << 8), 6);
            due("two, with other gaps", x.append('2' << 16 | ';'), 8);
            due("run()", x.run(), 1);
            due("in this order", x.count(6), 42);
        });
        test(32, "`packed`: the characters", () -> {
            LotInspector x = new LotInspector();
            due("33 in each byte", x.append(0x21212121), 4);
            due("126 in each byte", x.append(0x7e7e7e7e), 8);
            due("one in the first byte", x.append(0x7e000000), 9);
            due("one in the second byte", x.append(0x210000), 10);
            due("one in the third byte", x.append(0x7e00), 11);
            due("one in the last byte", x.append(0x21), 12);
        });
        test(32, "Returns the number of characters in the buffer.", () -> {
            LotInspector x = new LotInspector();
            for (int i = 1; i <= 15; i++) {
                due("append", x.append(0x41414141), 4 * i);
            }
            due("nothing into a full buffer", x.append(0), 60);
            due("count(5)", x.count(5), 60);
        });
        test(32, "Throws `IllegalArgumentException` if a byte that is not 0 is not from 33 to 126", () -> {
            for (int b : new int[] {1, 10, 32, 127, 128, 161, 255}) {
                for (int shift = 0; shift < 32; shift += 8) {
                    int among = 0x41414141 & ~(255 << shift) | b << shift;
                    int alone = b << shift;
                    refused("append(" + among + ")", NUMBER, Offices::busy, x -> x.append(among));
                    refused("append(" + alone + ")", NUMBER, Offices::busy, x -> x.append(alone));
                    refused("append(" + alone + ") to a full buffer, the number first", NUMBER, TextSentences::sixty,
                            x -> x.append(alone));
                }
            }
            refused("append(-1)", NUMBER, Offices::busy, x -> x.append(-1));
            refused("append(MIN)", NUMBER, Offices::busy, x -> x.append(MIN));
            refused("append(MAX)", NUMBER, Offices::busy, x -> x.append(MAX));
        });
        test(32, "Throws `IllegalStateException` if there would be more than 60 characters", () -> {
            refused("a 61st", STATE, TextSentences::sixty, x -> x.append('x'));
            refused("a 61st to a 64th", STATE, TextSentences::sixty, x -> x.append(0x41414141));
            refused("three when there are 58", STATE, TextSentences::fiftyEight, x -> x.append(0x41004141));
            due("two when there are 58", fiftyEight().append(0x41000041), 60);
        });
    }

    private static LotInspector sixty() {
        LotInspector x = quiet();
        type(x, SIXTY);
        return x;
    }

    private static LotInspector fiftyEight() {
        LotInspector x = quiet();
        type(x, SIXTY.substring(2));
        return x;
    }

    private static void run() {
        test(33, "Carries out the commands of the text in the buffer, in their order.", () -> {
            LotInspector x = new LotInspector();
            type(x, "machine:1,1,0;product:0,0,15,1;raw:1,0,8;inspect:0;sort:0;");
            due("run()", x.run(), 5);
            due("the lot waits again", x.lot(0, 2) * 10 + x.lot(0, 3), 1);
            due("eight repairs", x.count(2), 8);
            due("one change", x.count(4), 1);
            type(x, "seed:2;seed:1;inspect:0;seed:3;");
            x.run();
            due("the seventh repair was found", x.units(0, 1) * 10 + x.blame(6, 3), 11);
            due("the last seed", x.count(6), 3);
        });
        test(33, "The buffer is empty afterwards, also if an exception is thrown.", () -> {
            String[] texts = {"seed:1;", "seed:1", "inspect:99;"};
            for (String text : texts) {
                LotInspector x = quiet();
                type(x, text);
                thrownBy(x, LotInspector::run);
                due("count(5) after " + text, x.count(5), 0);
                type(x, "seed:4;");
                due("the next text after " + text, x.run(), 1);
            }
        });
        test(33, "Returns the number of commands.", () -> {
            for (int n = 1; n <= 8; n++) {
                LotInspector x = new LotInspector();
                type(x, SIXTY.substring(0, n == 8 ? 60 : 7 * n));
                due(n + " commands", x.run(), n);
            }
        });
        test(33, "Throws `IllegalArgumentException` if the text is not a text of commands", () -> {
            fails("", NUMBER, 0);
            fails("seed:1;x", NUMBER, 7);
            // The first command of these would throw, but they are no texts of commands.
            fails("inspect:99;x", NUMBER, 11);
            fails("inspect:99;seed:", NUMBER, 16);
        });
        test(33, "Throws `IllegalStateException` if the method of a command throws an exception", () -> {
            fails("inspect:8;", STATE, 0);
            fails("machine:0,0,4;", STATE, 0);
            fails("sort:2;", STATE, 0);
            fails("seed:1;raw:0,4,1;", STATE, 7);
            fails(Offices::full, "seed:1;raw:0,3,1;", STATE, 7);
            fails("release:0;", STATE, 0);
            fails("ship:2;", STATE, 0);
            fails("make:0,0,201,0;", STATE, 0);
        });
    }

    private static void errorPosition() {
        test(34, "Returns the error position of the text that run read most recently.", () -> {
            LotInspector x = new LotInspector();
            type(x, "seed:x");
            thrownBy(x, LotInspector::run);
            due("first", x.errorPosition(), 5);
            type(x, "seed:1;seed:2;sort:3;");
            thrownBy(x, LotInspector::run);
            due("second", x.errorPosition(), 14);
            type(x, "zzz");
            due("only appended", x.errorPosition(), 14);
            thrownBy(x, LotInspector::run);
            due("third", x.errorPosition(), 0);
        });
        test(34, "Returns the position, or -1 if this text had no error or none was read.", () -> {
            LotInspector x = new LotInspector();
            due("none was read", x.errorPosition(), -1);
            thrownBy(x, LotInspector::run);
            due("an empty one", x.errorPosition(), 0);
            type(x, "seed:1;");
            x.run();
            due("one without an error", x.errorPosition(), -1);
        });
    }

    private static void report() {
        test(35, "Writes the report on a lot, in place of the report before.", () -> {
            LotInspector x = busy();
            due("a long one", reportOn(x, 3), "lot 3: product 0, 1 of 3 here, normal 2/0, found 2, rejected");
            due("a short one", reportOn(x, 2), "lot 2: product 3, 2 of 2 here, not inspected, waiting");
            due("it ends", thrownBy(x, y -> y.character(53)), PLACE.getName());
        });
        test(35, "It is like \"lot 3: product 1, 42 of 50 here, tightened 8/0, found 1, rejected\":", () -> {
            LotInspector x = new LotInspector();
            x.machine(1, 7, 0);
            x.machine(2, 30, 1);
            blindLot(x, 1, 50);
            blindLot(x, 2, 50);
            x.raw(0, 0, 1);
            x.make(0, 1, 50, 0, 1, -1);
            x.product(1, 5, 1, 0);
            x.seed(1);
            // Of 50 units, 38, 25 and 34 are drawn first; 34 is one of the seven that have the defect 0.
            x.inspect(3);
            due("scrapped", x.sort(3), 7);
            x.product(1, 5, 2, 0);
            x.seed(1);
            // Of the 43 that are left, 29 is drawn first: it alone has the defect 1.
            x.inspect(3);
            due("reportOn(3)", reportOn(x, 3), "lot 3: product 1, 42 of 50 here, tightened 8/0, found 1, rejected");
        });
        test(35, "the numbers of the lot and of its product, how many units are here and how many it has,", () -> {
            LotInspector x = office();
            for (int i = 0; i < 23; i++) {
                x.raw(0, 0, 1);
            }
            x.raw(1, 2, 200);
            due("before", reportOn(x, 23), "lot 23: product 2, 200 of 200 here, not inspected, waiting");
            x.inspect(23);
            due("after", reportOn(x, 23), "lot 23: product 2, 168 of 200 here, normal 32/1, found 32, rejected");
            due("the first", reportOn(x, 0), "lot 0: product 0, 1 of 1 here, not inspected, waiting");
        });
    }

    private static void reportInWords() {
        test(35, "the severity of the latest inspection as normal, tightened or reduced, the size of its sample and the "
                + "number allowed, the number found,", () -> {
            due("normal", reportOn(after("a"), 0), "lot 0: product 0, 9 of 9 here, normal 3/0, found 0, accepted");
            due("tightened", reportOn(after("rrr"), 2),
                    "lot 2: product 0, 6 of 9 here, tightened 3/0, found 3, rejected");
            due("reduced", reportOn(after("aaaaaa"), 5),
                    "lot 5: product 0, 9 of 9 here, reduced 2/1, found 0, accepted");
            LotInspector x = office();
            x.product(2, 30, 1, 1);
            x.raw(1, 2, 200);
            x.inspect(0);
            due("the latest, when it is sorted, too", x.sort(0), 0);
            due("first", reportOn(x, 0), "lot 0: product 2, 200 of 200 here, normal 32/9, found 32, waiting");
            x.inspect(0);
            due("second", reportOn(x, 0), "lot 0: product 2, 200 of 200 here, tightened 32/8, found 0, accepted");
        });
        test(35, "and the status as waiting, accepted, rejected or shipped.", () -> {
            LotInspector x = busy();
            due("waiting", reportOn(x, 6), "lot 6: product 2, 3 of 3 here, normal 2/0, found 2, waiting");
            due("accepted", reportOn(x, 0), "lot 0: product 3, 1 of 3 here, normal 2/0, found 0, accepted");
            due("rejected", reportOn(x, 3), "lot 3: product 0, 1 of 3 here, normal 2/0, found 2, rejected");
            due("shipped", reportOn(x, 4), "lot 4: product 3, 0 of 2 here, normal 2/0, found 0, shipped");
        });
        test(35, "If the lot was not inspected yet, \"not inspected\" stands in place of all from the severity up to the "
                + "number found.", () -> {
            LotInspector x = office();
            x.raw(1, 3, 9);
            due("not inspected", reportOn(x, 0), "lot 0: product 3, 9 of 9 here, not inspected, waiting");
            x.inspect(0);
            x.undo();
            due("inspected and undone", reportOn(x, 0), "lot 0: product 3, 9 of 9 here, not inspected, waiting");
        });
        test(35, "`lot`: the lot", () -> {
            LotInspector x = office();
            for (int i = 0; i < 24; i++) {
                x.raw(0, i % 4, i + 1);
            }
            for (int i = 0; i < 3; i++) {
                int lot = 9 * i + 3;
                due("report(" + lot + ")", reportOn(x, lot), "lot " + lot + ": product " + lot % 4 + ", " + (lot + 1)
                        + " of " + (lot + 1) + " here, not inspected, waiting");
            }
        });
        test(35, "Returns the length of the report.", () -> {
            LotInspector x = office();
            x.raw(1, 0, 200);
            due("lot 0: product 0, 200 of 200 here, not inspected, waiting", x.report(0), 57);
            x.inspect(0);
            due("lot 0: product 0, 168 of 200 here, normal 32/1, found 32, rejected", x.report(0), 66);
        });
        test(35, "Throws `IndexOutOfBoundsException` if there is no such lot", () -> {
            for (int n : beside(0, 7)) {
                refused("report(" + n + ")", PLACE, Offices::busy, x -> x.report(n));
            }
            due("report(24) of 24", thrownBy(full(), x -> x.report(24)), PLACE.getName());
        });
    }

    private static void character() {
        test(36, "Returns a character of the report, which is empty at first.", () -> {
            LotInspector x = office();
            x.raw(0, 0, 5);
            due("empty at first", thrownBy(x, y -> y.character(0)), PLACE.getName());
            int length = x.report(0);
            due("character(0)", x.character(0), 'l');
            x.inspect(0);
            due("as it was written", x.character(length - 1), 'g');
            x.undo();
            x.undo();
            due("also when the lot is undone", x.character(4), '0');
        });
        test(36, "`index`: the index, from 0", () -> {
            LotInspector x = office();
            x.raw(0, 0, 7);
            String text = "lot 0: product 0, 7 of 7 here, not inspected, waiting";
            due("report(0)", x.report(0), text.length());
            for (int i = 0; i < text.length(); i++) {
                due("character(" + i + ")", x.character(i), text.charAt(i));
            }
        });
        test(36, "Returns the character.", () -> {
            LotInspector x = office();
            x.raw(0, 3, 7);
            x.report(0);
            due("a letter", x.character(2), 't');
            due("a space", x.character(3), ' ');
            due("a number", x.character(15), '3');
            due("a comma", x.character(16), ',');
        });
        test(36, "Throws `IndexOutOfBoundsException` if there is no such index", () -> {
            // The report of this office: lot 3: product 0, 1 of 3 here, normal 2/0, found 2, rejected
            for (int n : beside(0, 59)) {
                refused("character(" + n + ")", PLACE, Offices::busy, x -> x.character(n));
            }
            due("the last one", busy().character(59), 'd');
            refused("character(0) without a report", PLACE, Offices::full, x -> x.character(0));
        });
    }
}
