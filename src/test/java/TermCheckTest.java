public final class TermCheckTest {
    private static final int COPY = Code.toOut(1, 0);

    public static void main(String[] args) {
        Section section = new Section(Part.CHECK);
        sizeKindTarget(section);
        sources(section);
        numbers(section);
        loopsEndsPlaces(section);
        order(section);
        section.end();
    }

    private static Code copy() {
        return new Code().add(COPY, Code.in(0));
    }

    private static int[] sourcesOf(int kind) {
        int[] sources = new int[Code.sources(kind)];
        for (int i = 0; i < sources.length; i++) {
            sources[i] = Code.in(7 - i);
        }
        return sources;
    }

    /** A first word of this kind in which nothing is wrong, at place 0. */
    private static int firstOf(int kind) {
        boolean hasNumber = kind == 34 || kind == 36 || kind == 37;
        return Code.hasTarget(kind) ? Code.toOut(kind, 0) : Code.numbered(kind, hasNumber ? 1 : 0);
    }

    private static void sizeKindTarget(Section section) {
        section.test("THE CHECK. A program has 1 .. 256 instructions", TermCheckTest::size)
                .test("numbered from 0 on", TermCheckTest::numberedFromZero)
                .test("FAULTS of an instruction: 1 its kind is above 40", TermCheckTest::kindAbove)
                .test("2 its target: a file above 1", TermCheckTest::fileAbove)
                .test("an out above 7", TermCheckTest::outAbove)
                .test("no part set", TermCheckTest::noPart)
                .test("with a kind without a target any of the bits 6 to 16", TermCheckTest::noTarget);
    }

    private static void size() {
        new Code().end().taken("1 instruction", false, 1);
        Code longest = new Code().times(255, Code.IDLE).end();
        ShaderMachine m = longest.taken("256 instructions", false, 256);
        Expect.is("run() of them", m.run(), 256);
        Expect.index("0 instructions", () -> m.load(0, 0, false));
        Expect.index("257 instructions", () -> m.load(0, 257, false));
    }

    private static void numberedFromZero() {
        new Code().add(63).end().refused("the first one", false, 1, 0);
        copy().add(63).end().refused("the second one", false, 1, 1);
        new Code().times(255, Code.IDLE).add(63).refused("the last one of 256", false, 1, 255);
        Expect.is("goes on with 2", new Code().go(2).add(COPY, Code.in(0)).end().taken("goes", false, 3).run(), 2);
    }

    private static void kindAbove() {
        for (int kind = 41; kind < 64; kind++) {
            copy().add(kind).end().refused("kind " + kind, true, 1, 1);
            new Code().words(-1 << 6 | kind, -1, -1).refused("kind " + kind + " with all else", true, 1, 0);
        }
        new Code().add(firstOf(40), Code.in(0)).end().taken("kind 40", false, 2);
    }

    private static void fileAbove() {
        for (int kind = 1; kind <= 40; kind++) {
            if (Code.hasTarget(kind)) {
                for (int file = 0; file < 4; file++) {
                    Code code = new Code().add(kind | 0xF000 | file << 6, sourcesOf(kind)).end();
                    if (file <= 1) {
                        code.taken("file " + file, false, 2);
                    } else {
                        code.refused("file " + file, true, 2, 0);
                    }
                }
            }
        }
    }

    private static void outAbove() {
        for (int kind = 1; kind <= 40; kind++) {
            for (int number = 0; number < 16 && Code.hasTarget(kind); number++) {
                int[] sources = sourcesOf(kind);
                new Code().add(Code.toTemporary(kind, number), sources).end().taken("to temporary", false, 2);
                Code toOut = new Code().add(Code.toOut(kind, number), sources).end();
                if (number <= 7) {
                    toOut.taken("to out " + number, false, 2);
                } else {
                    toOut.refused("to out " + number, false, 2, 0);
                }
            }
        }
    }

    private static void noPart() {
        for (int kind = 1; kind <= 40; kind++) {
            if (Code.hasTarget(kind)) {
                for (int bits : new int[] {0, 1 << 16, 1 << 6, 1 << 6 | 7 << 8, 15 << 8}) {
                    new Code().add(kind | bits, sourcesOf(kind)).end().refused("no part, bits " + bits, true, 2, 0);
                }
                for (int part = 0; part < 4; part++) {
                    new Code().add(kind | 1 << (12 + part), sourcesOf(kind)).end().taken("part " + part, false, 2);
                }
            }
        }
    }

    private static void noTarget() {
        for (int kind : new int[] {0, 34, 35, 36, 37, 38}) {
            for (int bit = 6; bit <= 16; bit++) {
                new Code().add(firstOf(kind) | 1 << bit, sourcesOf(kind)).end()
                        .refused("bit " + bit + " of kind " + kind, true, 2, 0);
            }
        }
        new Code().loop(1).add(Code.KILL, Code.in(0)).add(Code.numbered(36, 3), Code.in(0)).go(4).endLoop().end()
                .taken("none of these bits", true, 6);
    }

    private static void sources(Section section) {
        section.test("3 its sources: an in above 7", () -> eachNumber(1, 7))
                .test("a temporary above 15", () -> eachNumber(0, 15))
                .test("a number with file 3", () -> eachNumber(3, 0))
                .test("any bit of a source that its kind doesn't have", TermCheckTest::sourcesThatAKindHasNot)
                .test("any bit above c", TermCheckTest::aboveC);
    }

    private static void eachNumber(int file, int last) {
        for (int number = 0; number < 32; number++) {
            source(Code.source(file, number, Code.WZYX, true), number <= last);
            source(Code.uniform(number), true);
        }
    }

    private static void source(int source, boolean isRight) {
        for (int at = 0; at < 3; at++) {
            int[] sources = new int[3];
            sources[at] = source;
            Code code = copy().add(Code.toOut(5, 0), sources).end();
            takenOrNot(code, "source " + source + " at " + at, isRight);
        }
        takenOrNot(copy().add(Code.KILL, source).end(), "kind 38 with " + source, isRight);
        takenOrNot(copy().add(Code.numbered(36, 2), source).end(), "kind 36 with " + source, isRight);
    }

    private static void takenOrNot(Code code, String what, boolean isRight) {
        if (isRight) {
            code.taken(what, true, 3);
        } else {
            code.refused(what, true, 3, 1);
        }
    }

    private static void sourcesThatAKindHasNot() {
        for (int kind = 0; kind <= 40; kind++) {
            for (int bit = 16 * Code.sources(kind); bit < 48; bit++) {
                int second = bit < 32 ? 1 << bit : 0;
                int third = bit >= 32 ? 1 << (bit - 32) : 0;
                new Code().words(firstOf(kind), second, third).end().refused("bit " + bit + " of kind " + kind, true, 3, 0);
            }
        }
    }

    private static void aboveC() {
        for (int kind = 0; kind <= 40; kind++) {
            for (int bit = 16; bit < 32; bit++) {
                new Code().words(firstOf(kind), 0, 1 << bit).end().refused("bit " + bit + " of kind " + kind, true, 3, 0);
            }
        }
        copy().words(Code.toOut(20, 0), ~0x7C007C, 0xFF83).end().taken("all bits that may be", false, 3);
    }

    private static void numbers(Section section) {
        section.test("4 its number: for 36 and 37 not above its own place", TermCheckTest::goesBack)
                .test("or not below how many there are", TermCheckTest::goesOut)
                .test("for 34 not 1 .. 255", TermCheckTest::rounds)
                .test("for 32 and 33 above 3", TermCheckTest::textures)
                .test("for others not 0", TermCheckTest::noNumber);
    }

    private static Code goesFrom2(int kind, int n) {
        return copy().add(COPY, Code.in(0)).add(Code.numbered(kind, n), sourcesOf(kind)).add(COPY, Code.in(0)).end();
    }

    private static void goesBack() {
        for (int kind = 36; kind <= 37; kind++) {
            goesFrom2(kind, 0).refused("to 0", false, 4, 2);
            goesFrom2(kind, 1).refused("to the one before", false, 4, 2);
            goesFrom2(kind, 2).refused("to itself", false, 4, 2);
            goesFrom2(kind, 3).taken("to the next one", false, 5);
            new Code().add(kind, sourcesOf(kind)).end().refused("from 0 to itself", false, 4, 0);
        }
    }

    private static void goesOut() {
        for (int kind = 36; kind <= 37; kind++) {
            goesFrom2(kind, 4).taken("to the last one", false, 5);
            goesFrom2(kind, 5).refused("behind the last one", false, 4, 2);
            for (int n : new int[] {6, 255, 256, 16383, 16384, 32767}) {
                goesFrom2(kind, n).refused("to " + n, false, 4, 2);
            }
            new Code().add(Code.numbered(kind, 255), sourcesOf(kind)).times(254, Code.IDLE).end()
                    .taken("to 255 of 256", false, 256);
            new Code().add(Code.numbered(kind, 256), sourcesOf(kind)).times(254, Code.IDLE).end()
                    .refused("to 256 of 256", false, 4, 0);
            copy().add(Code.numbered(kind, 2), sourcesOf(kind)).refused("the last one, to behind it", false, 4, 1);
        }
    }

    private static void rounds() {
        for (int n : new int[] {1, 2, 254, 255}) {
            new Code().loop(n).endLoop().end().taken("LOOP of " + n, false, n + 2);
        }
        for (int n : new int[] {0, 256, 257, 16384, 32767}) {
            new Code().loop(n).endLoop().end().refused("LOOP of " + n, false, 4, 0);
        }
    }

    private static void textures() {
        for (int kind = 32; kind <= 33; kind++) {
            for (int n = 0; n < 4; n++) {
                new Code().add(Code.numbered(firstOf(kind), n), Code.in(0)).end().taken("texture " + n, false, 2);
            }
            for (int n : new int[] {4, 5, 7, 8, 16384, 32767}) {
                new Code().add(Code.numbered(firstOf(kind), n), Code.in(0)).end().refused("texture " + n, false, 4, 0);
            }
        }
    }

    private static void noNumber() {
        for (int kind = 0; kind <= 40; kind++) {
            boolean hasNumber = kind >= 32 && kind <= 34 || kind == 36 || kind == 37;
            for (int n = 1; n < 32768 && !hasNumber; n *= 2) {
                new Code().add(Code.numbered(firstOf(kind), n), sourcesOf(kind)).end()
                        .refused("kind " + kind + ", n " + n, true, 4, 0);
            }
        }
    }

    private static void loopsEndsPlaces(Section section) {
        section.test("5 an ENDLOOP to which there is no LOOP", TermCheckTest::noLoop)
                .test("a LOOP in four others", TermCheckTest::fiveLoops)
                .test("6 an END that isn't the last instruction", TermCheckTest::endNotLast)
                .test("or the last one that isn't an END", TermCheckTest::lastNotEnd)
                .test("7 kind 38 in a program that isn't for places", TermCheckTest::notForPlaces);
    }

    private static void noLoop() {
        new Code().endLoop().end().refused("ENDLOOP alone", false, 5, 0);
        new Code().endLoop().loop(1).end().refused("ENDLOOP before its LOOP", false, 5, 0);
        new Code().loop(1).endLoop().endLoop().end().refused("an ENDLOOP too many", false, 5, 2);
        new Code().loop(1).loop(1).times(3, Code.ENDLOOP).end().refused("an ENDLOOP too many for two", false, 5, 4);
        new Code().loop(1).endLoop().loop(1).endLoop().end().taken("two loops", false, 5);
    }

    private static void fiveLoops() {
        new Code().loop(1).loop(1).loop(1).loop(1).times(4, Code.ENDLOOP).end().taken("four LOOPs", false, 9);
        new Code().loop(1).loop(1).loop(1).loop(1).loop(1).times(5, Code.ENDLOOP).end().refused("five LOOPs", false, 5, 4);
        new Code().loop(1).loop(1).loop(1).loop(1).endLoop().loop(1).times(4, Code.ENDLOOP).end()
                .taken("four LOOPs, the inner one twice", false, 11);
        new Code().loop(1).loop(1).loop(1).loop(1).endLoop().loop(1).loop(1).times(5, Code.ENDLOOP).end()
                .refused("a fifth LOOP behind an inner loop", false, 5, 6);
        new Code().loop(1).loop(1).loop(1).loop(1).loop(1).loop(1).end().refused("six LOOPs without ENDLOOPs", false, 5, 4);
    }

    private static void endNotLast() {
        copy().end().end().refused("two ENDs", false, 6, 1);
        new Code().end().add(COPY, Code.in(0)).end().refused("END first", false, 6, 0);
        new Code().loop(1).end().endLoop().end().refused("END in a loop", false, 6, 1);
        new Code().end().taken("END alone", false, 1);
    }

    private static void lastNotEnd() {
        copy().refused("a copy last", false, 6, 0);
        new Code().loop(1).endLoop().refused("ENDLOOP last", false, 6, 1);
        new Code().loop(1).refused("LOOP last", false, 6, 0);
        copy().add(Code.KILL, Code.in(0)).refused("kind 38 last", true, 6, 1);
        new Code().times(256, Code.IDLE).refused("256 without END", false, 6, 255);
    }

    private static void notForPlaces() {
        copy().add(Code.KILL, Code.in(0)).end().refused("kind 38, not for places", false, 7, 1);
        copy().add(Code.KILL, Code.in(0)).end().taken("kind 38, for places", true, 3);
        copy().end().taken("no kind 38, for places", true, 2);
        copy().end().taken("no kind 38, not for places", false, 2);
    }

    private static void order(Section section) {
        section.test("The first instruction that has a fault is told", TermCheckTest::firstIsTold)
                .test("with the least of its faults", TermCheckTest::leastIsTold)
                .test("if there is none, fault 5 for the last LOOP without an ENDLOOP", TermCheckTest::openLoops)
                .test("then fault 5 for the first 36 or 37 that is not in the same loop as the instruction n", TermCheckTest::strays)
                .test("(a LOOP counts to what is around it", TermCheckTest::goesToLoop)
                .test("an ENDLOOP to its loop)", TermCheckTest::goesToEndLoop)
                .test("then fault 8, place -1, if it has more than 65,536 STEPS", TermCheckTest::tooManySteps);
    }

    private static void firstIsTold() {
        new Code().add(Code.KILL, Code.in(0)).add(63).end().refused("7, then 1", false, 7, 0);
        new Code().end().add(63).end().refused("6, then 1", false, 6, 0);
        new Code().endLoop().add(COPY | 1 << 17, Code.in(0)).add(63).end().refused("5, then 4, then 1", false, 5, 0);
        copy().add(COPY | 1 << 17, Code.in(0)).add(COPY, Code.in(8)).end().refused("4, then 3", false, 4, 1);
        copy().add(63).add(63).end().refused("1, then 1", false, 1, 1);
    }

    private static void leastIsTold() {
        new Code().words(-1, -1, -1).refused("1 and all else", false, 1, 0);
        new Code().words(1 | 1 << 17, 1 << 16, 0).end().refused("2, 3, 4", false, 2, 0);
        new Code().words(COPY | 1 << 17, 1 << 16, 0).end().refused("3, 4", false, 3, 0);
        new Code().words(COPY, 1 << 16, 0).refused("3, 6", false, 3, 0);
        new Code().words(COPY | 1 << 17, 0, 0).refused("4, 6", false, 4, 0);
        new Code().endLoop().refused("5, 6", false, 5, 0);
        new Code().words(Code.ENDLOOP, 1, 0).end().refused("3, 5", false, 3, 0);
        new Code().words(Code.ENDLOOP | 1 << 17, 0, 0).end().refused("4, 5", false, 4, 0);
        new Code().loop(1).loop(1).loop(1).loop(1).loop(0).end().refused("4, 5 of a LOOP", false, 4, 4);
        new Code().loop(1).loop(1).loop(1).loop(1).loop(1).refused("5, 6 of a LOOP", false, 5, 4);
        new Code().words(Code.KILL | 1 << 17, 0, 0).refused("4, 6, 7", false, 4, 0);
        new Code().words(Code.KILL, Code.in(0), 0).refused("6, 7", false, 6, 0);
        new Code().words(Code.KILL | 1 << 6, Code.in(0), 0).end().refused("2, 7", false, 2, 0);
        new Code().words(Code.KILL, Code.in(8), 0).end().refused("3, 7", false, 3, 0);
    }

    private static void openLoops() {
        new Code().loop(1).end().refused("LOOP alone", false, 5, 0);
        new Code().loop(1).loop(1).end().refused("two LOOPs alone", false, 5, 1);
        new Code().loop(1).loop(1).endLoop().end().refused("the outer LOOP alone", false, 5, 0);
        new Code().loop(1).loop(1).endLoop().loop(1).endLoop().end().refused("the outer LOOP alone, again", false, 5, 0);
        new Code().loop(1).endLoop().loop(1).end().refused("the second LOOP alone", false, 5, 2);
        new Code().loop(1).loop(1).loop(1).loop(1).end().refused("four LOOPs alone", false, 5, 3);
        // a fault of an instruction goes before it, a stray and too many steps behind it
        new Code().loop(1).add(63).end().refused("1 behind a LOOP alone", false, 1, 1);
        new Code().loop(1).add(COPY, Code.in(0)).refused("6 behind a LOOP alone", false, 6, 1);
        new Code().go(2).loop(1).add(COPY, Code.in(0)).end().refused("a stray before a LOOP alone", false, 5, 1);
        new Code().loop(255).loop(255).loop(255).end().refused("many steps with LOOPs alone", false, 5, 2);
    }

    private static void strays() {
        new Code().go(2).loop(2).add(COPY, Code.in(0)).endLoop().end().refused("into a loop", false, 5, 0);
        new Code().loop(2).go(3).endLoop().end().refused("out of a loop", false, 5, 1);
        new Code().loop(2).go(4).endLoop().loop(2).add(COPY, Code.in(0)).endLoop().end()
                .refused("from a loop into the next", false, 5, 1);
        new Code().loop(2).loop(2).go(4).endLoop().add(COPY, Code.in(0)).endLoop().end()
                .refused("from an inner loop into the outer one", false, 5, 2);
        new Code().loop(2).go(3).loop(2).add(COPY, Code.in(0)).endLoop().endLoop().end()
                .refused("from the outer loop into an inner one", false, 5, 1);
        new Code().loop(2).go(3).add(COPY, Code.in(0)).add(COPY, Code.in(0)).endLoop().end().taken("in one loop", false, 10);
        new Code().loop(2).go(4).loop(2).endLoop().add(COPY, Code.in(0)).endLoop().end()
                .taken("over an inner loop", false, 1 + 2 + 2 + 4 + 2 + 2 + 1);
        new Code().go(3).loop(2).endLoop().end().taken("over a loop", false, 5);
        new Code().go(2).add(Code.numbered(36, 3), Code.in(0)).loop(1).endLoop().end().refused("the 36 strays", false, 5, 1);
        new Code().add(Code.numbered(36, 2), Code.in(0)).go(3).loop(1).endLoop().end().refused("the 37 strays", false, 5, 1);
        new Code().add(Code.numbered(36, 3), Code.in(0)).go(3).loop(1).endLoop().end().refused("the first of both", false, 5, 0);
        new Code().go(3).add(63).loop(1).endLoop().end().refused("1 behind a stray", false, 1, 1);
        new Code().go(3).loop(1).endLoop().endLoop().end().refused("an ENDLOOP too many behind a stray", false, 5, 3);
    }

    private static void goesToLoop() {
        new Code().go(1).loop(2).endLoop().end().taken("to a LOOP from around it", false, 5);
        new Code().loop(2).go(2).loop(2).endLoop().endLoop().end().taken("to an inner LOOP", false, 1 + 2 + 2 + 4 + 2 + 1);
        new Code().loop(2).go(3).endLoop().loop(2).endLoop().end().refused("from a loop to the next LOOP", false, 5, 1);
        new Code().go(2).loop(2).loop(2).endLoop().endLoop().end().refused("from outside to an inner LOOP", false, 5, 0);
    }

    private static void goesToEndLoop() {
        new Code().loop(2).go(2).endLoop().end().taken("to its own ENDLOOP", false, 6);
        new Code().go(2).loop(2).endLoop().end().refused("to an ENDLOOP from around it", false, 5, 0);
        new Code().loop(2).loop(2).go(4).endLoop().endLoop().end().refused("to the outer ENDLOOP", false, 5, 2);
        new Code().loop(2).go(4).loop(2).endLoop().endLoop().end().taken("over an inner loop to its ENDLOOP", false, 12);
        new Code().loop(2).go(3).loop(2).endLoop().endLoop().end().refused("to an inner ENDLOOP", false, 5, 1);
        new Code().loop(2).go(4).endLoop().loop(2).endLoop().end().refused("from a loop to the next ENDLOOP", false, 5, 1);
    }

    private static void tooManySteps() {
        // 1 + 255 + 255 * 255 + 255 + 1 = 65,537
        new Code().loop(255).loop(255).endLoop().endLoop().end().refused("65,537", false, 8, -1);
        // 1 + 254 + 254 * 255 + 254 + 1 = 65,280
        new Code().loop(254).loop(255).endLoop().endLoop().times(251, Code.IDLE).end().taken("65,531", false, 65531);
        nearMost(5).taken("65,536", false, 65536);
        nearMost(6).refused("65,537, by one instruction more", false, 8, -1);
        new Code().loop(255).loop(128).add(COPY, Code.in(0)).endLoop().endLoop().end().refused("65,792", false, 8, -1);
        new Code().loop(255).loop(255).loop(255).loop(255).times(4, Code.ENDLOOP).end().refused("255^4 and more", false, 8, -1);
        new Code().loop(255).loop(255).loop(255).loop(255).times(247, Code.IDLE).times(4, Code.ENDLOOP).end()
                .refused("most of all, in the longest program", false, 8, -1);
        new Code().go(3).loop(255).loop(255).loop(255).times(3, Code.ENDLOOP).end().refused("a stray goes before", false, 5, 0);
        new Code().loop(255).loop(255).endLoop().endLoop().add(Code.KILL, Code.in(0)).end()
                .refused("a fault of an instruction goes before", false, 7, 4);
    }

    /** 65,280 steps, 1 + 50 * 5 of a second loop, and single ones. */
    private static Code nearMost(int singles) {
        return new Code().loop(254).loop(255).endLoop().endLoop()
                .loop(50).times(4, COPY, Code.in(0)).endLoop()
                .times(singles, COPY, Code.in(0)).end();
    }
}
