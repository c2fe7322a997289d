import java.util.List;

/** Each sentence of the document's opening, terms and promises is quoted by a test that holds it. */
public final class SentencesTest {
    /** Titles and lines of the document that name nothing that a call could answer. */
    private static final String[] NO_SENTENCES = {
        "### Settings", "Stands, crews", "Docks, power", "### An hour", "### Texts",
        "Ahead of the calls set, stand, crew, end, find, pass the interface says: ---- changes.",
        "Ahead of the calls ofStand, ofCrew, load, count, waitsFor the interface says: ---- what there is.",
        "Ahead of the calls put, wipe, fault, carryOut the interface says: ---- texts.",
        "Ahead of the calls undo, save, restore the interface says: ---- undo, saving."};

    /** The opening names these two, but no call of the face asks for them. */
    private static final String[] NO_CALLS = {"the phase that would take a stand,", "what a stand costs,"};

    public static void main(String[] args) throws Exception {
        Check check = new Check("SentencesTest");
        Document document = new Document();
        new OpeningSentences(check, document).run();
        new TermSentences(check, document).run();
        new PromiseSentences(check, document).run();
        new WhatIfSentences(check, document).run();
        if (Document.isThere()) allAreQuoted(check, document);
        check.close();
    }

    private static void allAreQuoted(Check check, Document document) {
        skip(check, document, "What it is", NO_CALLS);
        no(check, "What it is", document.notQuoted("What it is"));
        skip(check, document, "Terms", NO_SENTENCES);
        no(check, "Terms", document.notQuoted("Terms"));
        for (int promise = 1; promise <= 22; promise++) {
            no(check, "Promise " + promise, document.notQuoted("Promise " + promise));
        }
    }

    private static void skip(Check check, Document document, String title, String[] lines) {
        for (String line : lines) check.due("there is no \"" + line + "\"", document.quote(title, line) ? 1 : 0, 1);
    }

    private static void no(Check check, String title, List<String> words) {
        for (String rest : words) check.due(title + " \"" + rest + "\" is not held by a test", 1, 0);
    }
}
