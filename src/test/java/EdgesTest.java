import java.util.List;

/**
 * All promises, sentence by sentence: each sentence that names a boundary case has a test whose title has its words.
 * In the end none is left over that no title names.
 */
public final class EdgesTest {
    private EdgesTest() {
    }

    public static void main(String[] args) {
        Sentences sentences = new Sentences();
        EdgesOfArguments.all(sentences);
        EdgesOfSwitches.all(sentences);
        EdgesOfFrames.all(sentences);
        EdgesOfArray.all(sentences);
        EdgesOfCommands.all(sentences);
        EdgesOfTheWhole.all(sentences);
        EdgesOfSoundness.all(sentences);
        sentences.end();
        List<String> rest = sentences.document().unquoted();
        for (String sentence : rest) {
            System.out.println("without a test: " + sentence);
        }
        if (!rest.isEmpty()) {
            System.exit(1);
        }
    }
}
