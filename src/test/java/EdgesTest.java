import java.io.IOException;
import java.nio.file.Path;

/** For each sentence of the document that names an edge a look of its own; and no sentence is left without one. */
public final class EdgesTest {
    private static final int PROMISES = 28;

    public static void main(String[] args) throws IOException {
        Check check = new Check("EdgesTest");
        Sentences document = new Sentences(Path.of("../shared/DOC.md"));
        Edges edges = new Edges(check, document);
        new EdgesOfTerms(edges).look();
        new EdgesOfChanges(edges).look();
        new EdgesOfQueries(edges).look();
        new EdgesOfWhatIfs(edges).look();
        new EdgesOfTexts(edges).look();
        new EdgesOfHistory(edges).look();
        edges.end();
        thoseWithoutAnEdge(document, check);
        noneIsLeft(document, check);
        check.end();
    }

    /** Sentences that say nothing which a call could show at an edge, or that others say with all their words. */
    private static void thoseWithoutAnEdge(Sentences document, Check check) {
        String[][] sentences = {
            {"Terms", "CONVENTIONS."},
            {"Terms", "Times are told in breaths. Divisions are rounded down."},
            {"Settings", "Guests, seats"},
            {"Texts", "Ahead of the calls `set`, `guest`, `leave`, `word`, `bow`, `offer`, `breathe`, `round`, `seatAnew` "
                + "the interface says: ---- changes."},
            {"Texts", "Ahead of the calls `of`, `owes`, `at`, `ranked`, `silent`, `count` the interface says: ---- what there is."},
            {"Texts", "Ahead of the calls `put`, `wipe`, `fault`, `carryOut` the interface says: ---- texts."},
            {"Texts", "Ahead of the calls `undo`, `save`, `restore` the interface says: ---- undo, saving."},
        };
        for (String[] sentence : sentences) {
            check.due(sentence[0] + " says: " + sentence[1], document.quote(sentence[0], sentence[1]) ? 1 : 0, 1);
        }
    }

    private static void noneIsLeft(Sentences document, Check check) {
        for (String section : new String[] {"Terms", "Settings", "Breaths", "Rounds", "Texts"}) {
            allOf(section, document, check);
        }
        for (int promise = 1; promise <= PROMISES; promise++) {
            allOf("Promise " + promise, document, check);
        }
        check.due("a promise behind the last one", document.has("Promise " + (PROMISES + 1)) ? 1 : 0, 0);
    }

    private static void allOf(String section, Sentences document, Check check) {
        check.due("the document has " + section, document.has(section) ? 1 : 0, 1);
        check.same("what no look is at", document.unquoted(section).toString(), "[]");
    }
}
