import java.io.IOException;
import java.nio.file.Files;
import java.nio.file.Path;
import java.util.regex.Matcher;
import java.util.regex.Pattern;

/** The examples of README.md: each call stands here in the same order, with the answer that its comment tells. */
public final class ReadmeTest {
    public static void main(String[] args) throws IOException {
        everyCallOfTheReadmeStandsHere();
        aPictureIsMadeWrittenAndRead();
        aPaletteAndABrokenFile();
        Check.end();
    }

    private static void everyCallOfTheReadmeStandsHere() throws IOException {
        String here = Files.readString(Path.of("src/test/java/ReadmeTest.java"));
        Matcher calls = Pattern.compile("(?m)^(x\\.\\w+\\(.*\\));").matcher(Files.readString(Path.of("README.md")));
        int place = here.indexOf("void aPictureIsMadeWrittenAndRead");
        while (calls.find()) {
            int next = here.indexOf(calls.group(1), place);
            Check.due("README.md: " + calls.group(1) + " stands here", next > 0 ? 1 : 0, 1);
            place = Math.max(place, next + 1);
        }
    }

    private static void aPictureIsMadeWrittenAndRead() {
        PortableFiles x = new PortableFiles();
        x.head(4, 2, 8, 2);
        Check.due("put", x.put(1, 0, 0, 255), 0);
        Check.due("put", x.put(1, 0, 1, 255), 0);
        Check.due("put", x.put(1, 0, 2, 255), 0);
        Check.due("tag", x.tag(0, 45455), PortableFiles.NONE);
        Check.due("reduce", x.reduce(), 1);
        Check.due("write", x.write(), 77);
        Check.due("pass", x.pass(0, 2000), 77);
        Check.due("read", x.read(), 4);
        Check.due("at", x.at(1, 0, 0), 1);
        Check.due("found", x.found(5), 45455);
        x.take();
        Check.due("told", x.told(2), 1);
    }

    private static void aPaletteAndABrokenFile() {
        PortableFiles x = new PortableFiles();
        x.head(3, 1, 8, 3);
        Check.due("colour", x.colour(255, 0, 0, 255), 1);
        Check.due("colour", x.colour(0, 0, 255, 128), 2);
        Check.due("put", x.put(2, 0, 0, 1), 0);
        Check.due("extra", x.extra(0x74655874), 1);
        Check.due("byteOf", x.byteOf(0, 65), 1);
        Check.due("reduce", x.reduce(), 31);
        Check.due("write", x.write(), 104);
        Check.due("pass", x.pass(0, 2000), 104);
        Check.due("alter", x.alter(41, 254, false), 255);
        Check.due("read", x.read(), -34);
        Check.due("told", x.told(0), 4);
        Check.due("alter", x.alter(41, 254, true), 254);
        Check.due("read", x.read(), 6);
        Check.due("entry", x.entry(0, 0), 254);
        Check.due("unknown", x.unknown(0, 0), 65);
    }
}
