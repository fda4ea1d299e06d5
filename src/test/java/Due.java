/** What the project's tests share: each answer that is not the one that is due is printed and counted. */
final class Due {
    private static int wrong;
    private static int asked;

    private Due() {
    }

    static void due(String call, long got, long want) {
        asked++;
        if (got != want) {
            wrong++;
            System.out.println(call + " answered " + got + ", due is " + want);
        }
    }

    /** Feeds a text and makes it a nation. */
    static int nation(RefusalMaps x, String text) {
        for (char sign : text.toCharArray()) {
            x.feed(sign);
        }
        return x.nation();
    }

    static void wrong(String what) {
        asked++;
        wrong++;
        System.out.println(what);
    }

    static void right() {
        asked++;
    }

    static void end() {
        if (wrong != 0) {
            System.out.println(wrong + " of " + asked + " answers are not as due");
            System.exit(1);
        }
        System.out.println(asked + " answers are as due");
    }
}
