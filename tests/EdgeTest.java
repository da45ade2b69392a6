/**
 * Each sentence of the document that names a boundary case, quoted to the letter: the last that
 * is taken and the first that is not, the empty and the full, what goes round. What is due was
 * worked out by hand. Argument: the document.
 */
public final class EdgeTest extends Check {
    public static void main(String[] args) throws Exception {
        read(args[0]);
        EdgesOfTerms.run();
        EdgesOfLetters.run();
        EdgesOfDays.run();
        EdgesOfWhatIfs.run();
        EdgesOfLater.run();
        everyPromiseWasQuoted();
        end("EdgeTest");
    }
}
