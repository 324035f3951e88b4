import java.io.IOException;
import java.nio.file.Files;
import java.nio.file.Path;

/** The parts of the document, in its order: how each begins, and the test of its sentences. */
enum Part {
    WHAT_IT_IS("## What it is", "WhatItIsTest"),
    FACE("## The public face", "FaceTest"),
    FIXED("FIXED numbers are", "TermFixedTest"),
    VECTOR("A VECTOR has", "TermVectorTest"),
    INSTRUCTION("AN INSTRUCTION has", "TermInstructionTest"),
    SOURCE("A SOURCE: bits", "TermSourceTest"),
    KINDS("KINDS, with", "TermKindsTest"),
    CHECK("THE CHECK. A program", "TermCheckTest"),
    STEPS("STEPS: each instruction", "TermStepsTest"),
    NEW_OBJECT("## Promise 1: A new object", "Promise01NewObjectTest"),
    POKE("## Promise 2: poke", "Promise02PokeTest"),
    LOAD("## Promise 3: load", "Promise03LoadTest"),
    FAULT("## Promise 4: fault", "Promise04FaultTest"),
    IN("## Promise 5: in", "Promise05InTest"),
    UNIFORM("## Promise 6: uniform", "Promise06UniformTest"),
    TEXTURE("## Promise 7: texture", "Promise07TextureTest"),
    RUN("## Promise 8: run", "Promise08RunTest"),
    KILLED("## Promise 9: killed", "Promise09KilledTest"),
    OUT("## Promise 10: out", "Promise10OutTest"),
    TEMPORARY("## Promise 11: temporary", "Promise11TemporaryTest"),
    NOT_PROMISED("## Not promised", "");

    private static final Part[] ALL = values();

    final String begin;
    final String test;

    Part(String begin, String test) {
        this.begin = begin;
        this.test = test;
    }

    static String document() {
        String path = System.getProperty("machine.document", "../shared/DOC.md");
        try {
            return Files.readString(Path.of(path));
        } catch (IOException e) {
            throw new IllegalStateException("the document can't be read: " + path, e);
        }
    }

    /** Its sentences in one line, without headings, the marks round code and the method's head. */
    String text() {
        String document = document();
        int from = document.indexOf(begin);
        int to = this == NOT_PROMISED ? document.length() : document.indexOf(ALL[ordinal() + 1].begin);
        if (from < 0 || to < from) {
            return "";
        }
        return document.substring(from, to)
                .replaceAll("(?m)^(#|```).*$", " ")
                .replaceAll("`[^`]*`:", " ")
                .replaceAll("\\s+", " ")
                .trim();
    }
}
