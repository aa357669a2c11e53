/** The program that README.md shows, with what it prints; ReadmeTest holds the two together. */
public final class Example {
    public static void main(String[] args) {
        UrlDesk desk = new UrlDesk();

        draft(desk, " HTTP://me@Ex.org:80/a/./b c?x=1&y=a+b#top ");
        System.out.println(desk.read(0, -1));
        System.out.println(part(desk, 0, 0));

        draft(desk, "../d?z");
        System.out.println(desk.read(1, 0));
        System.out.println(part(desk, 1, 0));

        draft(desk, "8080");
        System.out.println(desk.set(1, 5));
        System.out.println(part(desk, 1, 0));
        System.out.println(desk.port(1));

        draft(desk, "http://Ex.org:port/");
        System.out.println(desk.read(1, -1));
        System.out.println(part(desk, 1, 0));

        System.out.println(desk.pairs(0));
        System.out.println((char) desk.pairAt(0, 1, true, 2));
        System.out.println(desk.segments(0));
        System.out.println(desk.port(0) == UrlDesk.NONE);
        System.out.println(desk.port(2) == UrlDesk.BAD);
    }

    private static void draft(UrlDesk desk, String text) {
        desk.cut(0);
        for (int i = 0; i < text.length(); i++) {
            desk.type(text.charAt(i));
        }
    }

    private static String part(UrlDesk desk, int slot, int part) {
        StringBuilder found = new StringBuilder();
        int length = desk.length(slot, part);
        for (int i = 0; i < length; i++) {
            found.append((char) desk.charAt(slot, part, i));
        }
        return found.toString();
    }
}
