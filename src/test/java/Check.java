/** Counts wrong answers and tells the first of them. */
final class Check {
    private static final int MOST_TOLD = 30;
    private final String name;
    private int asked = 0;
    private int wrong = 0;

    Check(String name) {
        this.name = name;
    }

    void due(String call, long got, long want) {
        asked++;
        if (got == want) {
            return;
        }
        wrong++;
        if (wrong <= MOST_TOLD) {
            System.out.println(name + ": " + call + " answered " + got + ", due is " + want);
        }
    }

    void dueText(String what, String got, String want) {
        asked++;
        if (!got.equals(want)) {
            wrong++;
            System.out.println(name + ": " + what + " is [" + got + "], due is [" + want + "]");
        }
    }

    void end() {
        System.out.println(name + ": " + asked + " answers, " + wrong + " not as due");
        if (wrong != 0) {
            System.exit(1);
        }
    }

    static void type(EitherPocket pocket, String letters) {
        for (int i = 0; i < letters.length(); i++) {
            pocket.write(letters.charAt(i));
        }
    }

    static EitherPocket laid(String letters) {
        EitherPocket pocket = new EitherPocket();
        type(pocket, letters);
        if (pocket.lay() < 0) {
            throw new IllegalStateException("can't be laid: " + letters);
        }
        return pocket;
    }
}
