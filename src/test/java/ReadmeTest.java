import java.io.IOException;
import java.nio.file.Files;
import java.nio.file.Path;

/** The example of README.md stands there line for line as it is run here, and answers what it says. */
public final class ReadmeTest {
    private static final String[] LINES = {
        "SpongeDigests x = new SpongeDigests();",
        "x.feed(0x61626300, 0, 0, 0, 0);   // \"abc\" and 17 bytes more",
        "x.end(3, 3);                      // the first three of them are the message",
        "int length = x.digest(1, 0);      // SHA-256: 32",
        "long first = x.word(6, 0);        // 0xba7816bf8f01cfea",
    };

    private ReadmeTest() {
    }

    public static void main(String[] args) throws IOException {
        String example = "```java\n" + String.join("\n", LINES) + "\n```\n";
        Check.holds("the example in README.md", Files.readString(Path.of("README.md")).contains(example));
        SpongeDigests x = new SpongeDigests();
        x.feed(0x61626300, 0, 0, 0, 0);
        x.end(3, 3);
        int length = x.digest(1, 0);
        long first = x.word(6, 0);
        Check.equal("the example's length", length, 32);
        Check.equal("the example's word", first, 0xba7816bf8f01cfeaL);
        Check.finish();
    }
}
