import java.io.IOException;
import java.nio.file.Files;
import java.nio.file.Path;
import java.util.ArrayList;
import java.util.List;

/** A test of one sentence of ../shared/DOC.md, which it quotes, on a new object. */
final class Edge {
    static final int LOW = Integer.MIN_VALUE;
    static final int HIGH = Integer.MAX_VALUE;
    static final int NONE = Portinghall.NONE;

    static final int[] NO_FIRMS = {-1, 6, 256, LOW, HIGH};
    static final int[] NO_BLOCKS = {-1, 20, 256, LOW, HIGH};
    static final int[] NO_NUMBERS = {-1, 200, 256, LOW, HIGH};
    static final int[] NO_SECRETS = {-1, 100, 256, LOW, HIGH};
    static final int[] NO_WAYS = {-1, 3, 256, LOW, HIGH};

    interface Test {
        void on(Land x);
    }

    private static final Path DOCUMENT = Path.of("../shared/DOC.md");
    private static final List<Edge> ALL = new ArrayList<>();
    private static String current = "";

    private final int promise;
    private final String sentence;

    private Edge(int promise, String sentence) {
        this.promise = promise;
        this.sentence = sentence;
    }

    static void of(int promise, String sentence, Test test) {
        ALL.add(new Edge(promise, sentence));
        current = "promise " + promise + ", \"" + sentence + "\"";
        Land x = new Land();
        test.on(x);
        x.finish();
    }

    static String named(String call) {
        return current + ": " + call;
    }

    // ---- whether each sentence of the document has a test

    /** A piece of the document: one sentence, or one line about an argument. */
    private record Piece(int promise, String text) {
        /** Terms bind every promise, so that any test may quote them. */
        boolean isQuotedBy(Edge edge) {
            return (promise == 0 || promise == edge.promise)
                && (text.contains(edge.sentence) || edge.sentence.contains(text));
        }
    }

    static void checkDocument() throws IOException {
        if (!Files.exists(DOCUMENT)) {
            System.out.println("  there is no " + DOCUMENT + " to look for sentences without a test");
            return;
        }
        List<Piece> pieces = pieces(Files.readString(DOCUMENT));
        for (Edge edge : ALL) {
            Check.note(pieces.stream().anyMatch(piece -> piece.isQuotedBy(edge)),
                "promise " + edge.promise + " does not say \"" + edge.sentence + "\"");
        }
        for (Piece piece : pieces) {
            Check.note(ALL.stream().anyMatch(piece::isQuotedBy),
                "no test of promise " + piece.promise + " (0 for the terms), \"" + piece.text + "\"");
        }
    }

    private static List<Piece> pieces(String document) {
        List<Piece> pieces = new ArrayList<>();
        int promise = -1;
        for (String line : document.split("\n")) {
            if (line.startsWith("## ")) {
                promise = line.equals("## What it is") || line.equals("## Terms") ? 0 : promiseOf(line);
            } else if (promise >= 0 && !isNoPromise(promise, line)) {
                // A promise begins with its signature, which is no sentence.
                String said = line.startsWith("`") ? line.substring(line.indexOf("`: ") + 3) : line;
                for (String sentence : said.split("(?<=\\.) (?=[A-Z])")) {
                    addPiece(pieces, promise, sentence.strip());
                }
            }
        }
        return pieces;
    }

    private static int promiseOf(String heading) {
        return heading.startsWith("## Promise ") ? Integer.parseInt(heading.split("[ :]")[2]) : -1;
    }

    /** The first line says what all is about; constants and comments of the interface are left to FaceTest. */
    private static boolean isNoPromise(int promise, String line) {
        return promise == 0 && line.matches("A land's telephone numbers .*|(The constants: )?`.*")
            || line.startsWith("Ahead of the calls");
    }

    private static void addPiece(List<Piece> pieces, int promise, String text) {
        boolean isTitle = text.startsWith("#") || promise == 0 && !text.endsWith(".") && !text.startsWith("-");
        if (!text.isEmpty() && !isTitle) {
            pieces.add(new Piece(promise, text));
        }
    }
}
