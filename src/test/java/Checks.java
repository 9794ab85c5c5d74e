/** Counts answers that are not due, and tells them. */
final class Checks {
    private final String title;
    private String part = "";
    private int asked;
    private int wrong;

    Checks(String title) {
        this.title = title;
    }

    void part(String name) {
        part = name;
    }

    void due(String call, long got, long want) {
        asked++;
        if (got != want) {
            wrong++;
            System.out.println(title + ", " + part + ": " + call + " answered " + got + ", due is " + want);
        }
    }

    int wrong() {
        return wrong;
    }

    /** Ends the test program: exit code 1 if an answer was not due. */
    void end() {
        System.out.println(title + ": " + asked + " answers asked, " + wrong + " not as due");
        if (wrong != 0 || asked == 0) {
            System.exit(1);
        }
    }

    static NineDrawers chestOf(String text) {
        NineDrawers x = new NineDrawers();
        write(x, text);
        x.chest();
        return x;
    }

    static void write(NineDrawers x, String text) {
        for (int i = 0; i < text.length(); i++) {
            x.letter(text.charAt(i));
        }
    }
}
