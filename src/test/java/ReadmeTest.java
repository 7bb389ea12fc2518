/** What README.md says of its example. */
public final class ReadmeTest {
    private static final Check CHECK = new Check();

    public static void main(String[] args) {
        SlatePlay x = new SlatePlay();
        CHECK.due("feed", x.feed(0x736c6174, 0x65732032, 0x3b6e756d, 0x20353b61, 0x64642030), 20);
        CHECK.due("feed again", x.feed(0x20303b20, 0x20202020, 0x20202020, 0x20202020, 0x20202020), 40);
        CHECK.due("end", x.end(23), 23);
        CHECK.due("school", x.school(), 3);
        CHECK.due("value", x.value(1), 10);
        CHECK.due("go", x.go(2, 2, true), 3);
        CHECK.due("path", x.path(2, 2, true, 0), 0);
        CHECK.due("move(0)", x.move(0), 1);
        CHECK.due("move(1)", x.move(1), 1);
        CHECK.due("move(0) again", x.move(0), 0);
        CHECK.due("just SUM 1 STANDS", x.stands(0), 2);
        CHECK.finish();
    }
}
