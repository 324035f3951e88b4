/** Each fault, the order in which faults are told, and what is no fault. */
public final class CheckTest {
    private static final int COPY = Code.toOut(1, 0);

    public static void main(String[] args) {
        kinds();
        targets();
        sources();
        sourcesThatAKindHasNot();
        numbers();
        loops();
        ends();
        places();
        order();
        strays();
        steps();
        Expect.end();
    }

    private static Code copy() {
        return new Code().add(COPY, Code.in(0));
    }

    private static void kinds() {
        for (int kind = 41; kind < 64; kind++) {
            copy().add(kind).end().refused("kind " + kind, true, 1, 1);
            new Code().words(-1 << 6 | kind, -1, -1).refused("kind " + kind + " with all else", true, 1, 0);
        }
    }

    private static int[] sourcesOf(int kind) {
        int[] sources = new int[Code.sources(kind)];
        for (int i = 0; i < sources.length; i++) {
            sources[i] = Code.in(7 - i);
        }
        return sources;
    }

    private static int numberOf(int kind) {
        return kind == 36 || kind == 37 ? 1 : kind == 34 ? 1 : 0;
    }

    private static void targets() {
        for (int kind = 0; kind <= 40; kind++) {
            int[] sources = sourcesOf(kind);
            if (Code.hasTarget(kind)) {
                for (int number = 0; number < 16; number++) {
                    new Code().add(Code.toTemporary(kind, number), sources).end().taken("to temporary", false, 2);
                    if (number < 8) {
                        new Code().add(Code.toOut(kind, number), sources).end().taken("to out", false, 2);
                    } else {
                        new Code().add(Code.toOut(kind, number), sources).end().refused("to out " + number, false, 2, 0);
                    }
                }
                new Code().add(kind | 0xF000 | 2 << 6, sources).end().refused("file 2", true, 2, 0);
                new Code().add(kind | 0xF000 | 3 << 6, sources).end().refused("file 3", true, 2, 0);
                new Code().add(kind | 1 << 16, sources).end().refused("no part", true, 2, 0);
            } else {
                for (int bit = 6; bit <= 16; bit++) {
                    new Code().add(Code.numbered(kind | 1 << bit, numberOf(kind)), sources).end()
                            .refused("bit " + bit + " of kind " + kind, true, 2, 0);
                }
            }
        }
    }

    private static void sources() {
        for (int number = 0; number < 32; number++) {
            source(Code.temporary(number), number < 16);
            source(Code.in(number), number < 8);
            source(Code.uniform(number), true);
            source(Code.source(3, number, Code.WZYX, true), number == 0);
        }
        copy().words(Code.toOut(20, 0), 0, 1 << 16).end().refused("a bit above c", false, 3, 1);
        copy().words(Code.toOut(20, 0), 0, 1 << 31).end().refused("the highest bit above c", false, 3, 1);
        copy().words(Code.toOut(20, 0), -1 & ~0x7C007C, 0x7000).end().taken("sources of nothing", false, 3);
    }

    private static void source(int source, boolean isRight) {
        for (int at = 0; at < 3; at++) {
            int[] sources = new int[3];
            sources[at] = source;
            Code code = copy().add(Code.toOut(5, 0), sources).end();
            if (isRight) {
                code.taken("source " + source, false, 3);
            } else {
                code.refused("source " + source + " at " + at, false, 3, 1);
            }
        }
        Code code = copy().add(Code.KILL, source).end();
        if (isRight) {
            code.taken("kill with " + source, true, 3);
        } else {
            code.refused("kill with " + source, true, 3, 1);
        }
    }

    private static void sourcesThatAKindHasNot() {
        for (int kind = 0; kind <= 40; kind++) {
            int first = Code.hasTarget(kind) ? Code.toOut(kind, 0) : Code.numbered(kind, numberOf(kind));
            for (int bit = 16 * Code.sources(kind); bit < 64; bit++) {
                int second = bit < 32 ? 1 << bit : 0;
                int third = bit >= 32 ? 1 << (bit - 32) : 0;
                new Code().words(first, second, third).end().refused("bit " + bit + " of kind " + kind, true, 3, 0);
            }
        }
    }

    private static void numbers() {
        for (int kind = 0; kind <= 40; kind++) {
            int first = Code.hasTarget(kind) ? Code.toOut(kind, 0) : kind;
            int[] sources = sourcesOf(kind);
            if (kind == 32 || kind == 33) {
                for (int n = 0; n < 4; n++) {
                    new Code().add(Code.numbered(first, n), sources).end().taken("texture " + n, false, 2);
                }
                new Code().add(Code.numbered(first, 4), sources).end().refused("texture 4", false, 4, 0);
                new Code().add(Code.numbered(first, 32767), sources).end().refused("texture 32767", false, 4, 0);
            } else if (kind == 36 || kind == 37) {
                goesTo(first, sources);
            } else if (kind != 34) {
                for (int n : new int[] {1, 2, 16384, 32767}) {
                    new Code().add(Code.numbered(first, n), sources).end().refused("kind " + kind + ", n " + n, true, 4, 0);
                }
            }
        }
        new Code().loop(1).endLoop().end().taken("loop of 1", false, 3);
        new Code().loop(255).endLoop().end().taken("loop of 255", false, 257);
        for (int n : new int[] {0, 256, 32767}) {
            new Code().loop(n).endLoop().end().refused("loop of " + n, false, 4, 0);
        }
    }

    private static void goesTo(int first, int[] sources) {
        for (int n = 0; n < 8; n++) {
            Code code = copy().add(COPY, Code.in(0)).add(Code.numbered(first, n), sources).add(COPY, Code.in(0)).end();
            if (n == 3 || n == 4) {
                code.taken("goes to " + n, false, 5);
            } else {
                code.refused("goes to " + n, false, 4, 2);
            }
        }
        new Code().add(Code.numbered(first, 32767), sources).end().refused("goes to 32767", false, 4, 0);
    }

    private static void loops() {
        new Code().endLoop().end().refused("ENDLOOP alone", false, 5, 0);
        new Code().loop(1).endLoop().endLoop().end().refused("an ENDLOOP too many", false, 5, 2);
        new Code().loop(1).end().refused("LOOP alone", false, 5, 0);
        new Code().loop(1).loop(1).end().refused("two LOOPs alone", false, 5, 1);
        new Code().loop(1).loop(1).endLoop().end().refused("the outer LOOP alone", false, 5, 0);
        new Code().loop(1).loop(1).endLoop().loop(1).endLoop().end().refused("the outer LOOP alone, again", false, 5, 0);
        new Code().loop(1).endLoop().loop(1).end().refused("the second LOOP alone", false, 5, 2);
        new Code().loop(1).loop(1).loop(1).loop(1).loop(1).times(5, Code.ENDLOOP).end().refused("five LOOPs", false, 5, 4);
        new Code().loop(1).loop(1).loop(1).loop(1).endLoop().loop(1).times(4, Code.ENDLOOP).end()
                .taken("four LOOPs, twice", false, 11);
        new Code().loop(1).loop(1).loop(1).loop(1).loop(1).end().refused("five LOOPs alone", false, 5, 4);
        new Code().loop(1).loop(1).loop(1).loop(1).loop(1).loop(1).end().refused("six LOOPs alone", false, 5, 4);
        new Code().loop(1).loop(1).loop(1).loop(1).end().refused("four LOOPs alone", false, 5, 3);
    }

    private static void ends() {
        copy().refused("no END", false, 6, 0);
        copy().end().end().refused("two ENDs", false, 6, 1);
        new Code().end().add(COPY, Code.in(0)).refused("END first", false, 6, 0);
        new Code().loop(1).endLoop().refused("ENDLOOP last", false, 6, 1);
        new Code().loop(1).end().endLoop().refused("END in a loop", false, 6, 1);
        new Code().loop(1).refused("LOOP last", false, 6, 0);
    }

    private static void places() {
        copy().add(Code.KILL, Code.in(0)).end().refused("kill, not for places", false, 7, 1);
        copy().add(Code.KILL, Code.in(0)).end().taken("kill, for places", true, 3);
        copy().add(Code.KILL, Code.in(0)).refused("kill last", false, 6, 1);
        copy().end().taken("no kill, for places", true, 2);
    }

    private static void order() {
        // the first instruction counts, not the least fault
        new Code().add(Code.KILL, Code.in(0)).add(63).end().refused("7, then 1", false, 7, 0);
        new Code().end().add(63).end().refused("6, then 1", false, 6, 0);
        // of one instruction the least
        new Code().words(1 | 1 << 17, 1 << 16, 0).end().refused("2, 3, 4", false, 2, 0);
        new Code().words(COPY | 1 << 17, 1 << 16, 0).end().refused("3, 4", false, 3, 0);
        new Code().words(COPY | 1 << 17, 0, 0).refused("4, 6", false, 4, 0);
        new Code().endLoop().refused("5, 6", false, 5, 0);
        new Code().words(Code.ENDLOOP | 1 << 17, 0, 0).end().refused("4, 5", false, 4, 0);
        new Code().loop(1).loop(1).loop(1).loop(1).loop(0).end().refused("4, 5 of a LOOP", false, 4, 4);
        new Code().words(Code.KILL | 1 << 17, 0, 0).refused("4, 6, 7", false, 4, 0);
        // a fault of an instruction goes before one of the whole
        new Code().loop(1).add(63).end().refused("1 behind a LOOP alone", false, 1, 1);
        new Code().go(2).loop(1).add(COPY, Code.in(0)).end().refused("a LOOP alone before a stray", false, 5, 1);
        new Code().go(3).loop(255).loop(255).loop(255).times(3, Code.ENDLOOP).end().refused("a stray before steps", false, 5, 0);
    }

    private static void strays() {
        new Code().go(2).loop(2).add(COPY, Code.in(0)).endLoop().end().refused("into a loop", false, 5, 0);
        new Code().go(2).loop(2).endLoop().end().refused("to the ENDLOOP from around it", false, 5, 0);
        new Code().go(1).loop(2).endLoop().end().taken("to the LOOP from around it", false, 5);
        new Code().loop(2).go(3).endLoop().end().refused("out of a loop", false, 5, 1);
        new Code().loop(2).go(2).endLoop().end().taken("to its own ENDLOOP", false, 6);
        new Code().loop(2).go(3).endLoop().loop(2).endLoop().end().refused("from a loop to the next LOOP", false, 5, 1);
        new Code().loop(2).go(4).endLoop().loop(2).endLoop().end().refused("from a loop to the next ENDLOOP", false, 5, 1);
        new Code().loop(2).go(4).endLoop().loop(2).add(COPY, Code.in(0)).endLoop().end()
                .refused("from a loop into the next", false, 5, 1);
        new Code().loop(2).go(2).loop(2).endLoop().endLoop().end().taken("to an inner LOOP", false, 1 + 2 + 2 + 4 + 2 + 1);
        new Code().loop(2).loop(2).go(4).endLoop().endLoop().end().refused("to the outer ENDLOOP", false, 5, 2);
        new Code().go(3).loop(2).endLoop().end().taken("over a loop", false, 5);
        new Code().go(2).add(Code.numbered(36, 3), Code.in(0)).loop(1).endLoop().end().refused("the first 36 that strays", false, 5, 1);
        new Code().add(Code.numbered(36, 3), Code.in(0)).go(3).loop(1).endLoop().end().refused("the first of both", false, 5, 0);
    }

    private static void steps() {
        new Code().loop(255).loop(255).loop(255).loop(255).times(4, Code.ENDLOOP).end()
                .refused("most of all", false, 8, -1);
        new Code().loop(255).loop(255).loop(255).loop(255).times(247, COPY, Code.in(0)).times(4, Code.ENDLOOP).end()
                .refused("most of all, in the longest program", false, 8, -1);
        // 1 + 255 + 255 * 255 + 255 + 1 = 65,537
        new Code().loop(255).loop(255).endLoop().endLoop().end().refused("65,537", false, 8, -1);
        // 1 + 254 + 254 * 255 + 254 + 1 = 65,280
        Code edge = new Code().loop(254).loop(255).endLoop().endLoop();
        edge.times(256 - 5, COPY, Code.in(0)).end().taken("65,531", false, 65531);
        new Code().loop(255).loop(128).add(COPY, Code.in(0)).endLoop().endLoop().end()
                .refused("65,792", false, 8, -1);
    }
}
