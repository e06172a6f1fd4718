import java.io.IOException;
import java.nio.file.Files;
import java.nio.file.Path;
import java.util.regex.Matcher;
import java.util.regex.Pattern;

/**
 * Writes the class once more, with rows that begin with no spare places and grow by just what is
 * asked for: with it the tests show any index that has stayed within a row by the row's spare places
 * alone, whichever call filled the row before.
 */
final class TightRows {
    private TightRows() {
    }

    public static void main(String[] args) throws IOException {
        String source = Files.readString(Path.of(args[0]));
        source = changed(source, "Math\\.max\\((\\w+), 2 \\* \\w+\\.length\\)", "$1", 7);
        // Rows in which results are worked out keep nothing between calls: they shrink, too.
        source = changed(source, "need > (work|line)\\.length", "need != $1.length", 2);
        source = changed(source, "new (long|int|byte)\\[(256|128)\\];", "new $1[0];", 10);
        // The first cell of all tables begins at a place that is looked at before there is a cell.
        source = changed(source, "new (int|byte)\\[64\\];", "new $1[1];", 2);
        Files.writeString(Path.of(args[1]), source);
    }

    /** Fails where the source has not as many such places: then this class is to be looked at anew. */
    private static String changed(String source, String pattern, String other, int places) {
        Matcher matcher = Pattern.compile(pattern).matcher(source);
        int found = 0;
        while (matcher.find()) {
            found++;
        }
        if (found != places) {
            System.out.println(pattern + ": " + found + " places, due are " + places);
            System.exit(1);
        }
        return matcher.replaceAll(other);
    }
}
