/** What all tests of the project share: answers compared and counted, texts fed, exceptions caught. */
final class Check {
    static final String LIBRARY = "cell inv (a) = !a , 1 , 2 ; cell nand (a,b) = !(a & b) , 2 , 3 ; "
            + "cell nor (a,b) = !(a|b) , 2 , 4 ; cell and (a,b) = a&b , 3 , 4 ; cell or (a,b) = a | b , 3 , 5 ; "
            + "cell xor (a,b) = a ^ b , 5 , 6 ; cell aoi (a,b,c) = !(a&b|c) , 3 , 5 ; "
            + "cell mux (s,a,b) = s&a | !s&b , 6 , 6 ;";
    static final String NAND = "cell inv (a) = !a , 1 , 2 ; cell nand (a,b) = !(a & b) , 2 , 3 ;";
    static final String PAIR = "module p { in a ; in b ; out y = a & b ; }";
    static final String COUNTER = "module count { in go ; in clear ; reg n : 3 = 2 ; "
            + "n <- clear ? 0@3 : go ? n + 1@3 : n ; out q : 3 = n ; out full = n == 7@3 ; }";

    interface Call {
        Object answer();
    }

    private static int done = 0;
    private static int wrong = 0;

    private Check() {
    }

    static void same(String what, long got, long want) {
        done++;
        if (got != want) {
            wrong++;
            System.out.println(what + " answered " + got + ", due is " + want);
        }
    }

    static void same(String what, boolean got, boolean want) {
        same(what, got ? 1 : 0, want ? 1 : 0);
    }

    static void same(String what, String got, String want) {
        done++;
        if (!got.equals(want)) {
            wrong++;
            System.out.println(what + " answered " + got + ", due is " + want);
        }
    }

    /** The call's answer as text, or throws. and the exact name of the exception. */
    static String of(Call call) {
        try {
            return String.valueOf(call.answer());
        } catch (RuntimeException e) {
            return "throws." + e.getClass().getSimpleName();
        }
    }

    static void index(String what, Call call) {
        same(what, of(call), "throws.IndexOutOfBoundsException");
    }

    static void argument(String what, Call call) {
        same(what, of(call), "throws.IllegalArgumentException");
    }

    static void state(String what, Call call) {
        same(what, of(call), "throws.IllegalStateException");
    }

    static void room(String what, Call call) {
        same(what, of(call), "throws.UnsupportedOperationException");
    }

    /** A call that is refused with an exception of that name, behind which nothing has changed. */
    static void refused(ChipFlow x, String exception, String what, Call call) {
        String before = Picture.of(x);
        same(what, of(call), "throws." + exception);
        same(what + " changes nothing", Picture.of(x), before);
    }

    static void noIndex(ChipFlow x, String what, Call call) {
        refused(x, "IndexOutOfBoundsException", what, call);
    }

    static void noArgument(ChipFlow x, String what, Call call) {
        refused(x, "IllegalArgumentException", what, call);
    }

    static void noState(ChipFlow x, String what, Call call) {
        refused(x, "IllegalStateException", what, call);
    }

    static void noRoom(ChipFlow x, String what, Call call) {
        refused(x, "UnsupportedOperationException", what, call);
    }

    static void feed(ChipFlow x, String text) {
        int before = x.tape();
        StringBuilder all = new StringBuilder(text);
        while (all.length() % 20 != 0) {
            all.append(' ');
        }
        for (int at = 0; at < all.length(); at += 20) {
            int[] word = new int[5];
            for (int k = 0; k < 20; k++) {
                word[k / 4] = word[k / 4] << 8 | all.charAt(at + k) & 255;
            }
            x.feed(word[0], word[1], word[2], word[3], word[4]);
        }
        x.end(before + text.length());
    }

    static int design(ChipFlow x, String text) {
        feed(x, text);
        return x.design();
    }

    static int library(ChipFlow x, String text) {
        feed(x, text);
        return x.library();
    }

    /** A house with a chip, number 0, of a design and a library. */
    static ChipFlow chip(String design, String library) {
        ChipFlow x = new ChipFlow();
        library(x, library);
        design(x, design);
        same("map of " + design, x.map(0, 0), 0);
        return x;
    }

    /** A house whose chip of PAIR and NAND is placed on 4 sites, routed and drawn. */
    static ChipFlow drawn() {
        ChipFlow x = chip(PAIR, NAND);
        x.place(0, 4);
        x.route(0, 0);
        x.draw(0);
        return x;
    }

    static void finish(String test) {
        if (wrong > 0 || done == 0) {
            System.out.println(test + ": " + wrong + " of " + done + " answers are wrong");
            System.exit(1);
        }
        System.out.println(test + ": all " + done + " answers are as due");
    }
}
