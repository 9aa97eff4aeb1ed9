/** Texts for tests: a ~ marks the place of the fault that is due (no token has that byte). */
final class Texts {
    private Texts() {
    }

    static String many(String part, int times) {
        StringBuilder all = new StringBuilder();
        for (int k = 0; k < times; k++) {
            all.append(part.replace("%", String.valueOf(k)));
        }
        return all.toString();
    }

    static void good(String text) {
        ChipFlow x = new ChipFlow();
        Check.same("design of " + text, Check.design(x, text), 0);
        Check.same("fault of " + text, x.fault(), 0);
        Check.same("tape behind " + text, x.tape(), 0);
        Check.same("there is design 0 behind " + text, x.isThere(0, 0), true);
    }

    static void fault(int code, String marked) {
        int place = marked.indexOf('~');
        faultAt(code, place, marked.substring(0, place) + marked.substring(place + 1));
    }

    static void faultAt(int code, int place, String text) {
        ChipFlow x = new ChipFlow();
        Check.same("design of " + text, Check.design(x, text), -1 - place);
        Check.same("fault of " + text, x.fault(), code);
        Check.same("tape behind " + text, x.tape(), 0);
        Check.same("there is design 0 behind " + text, x.isThere(0, 0), false);
    }

    static void goodCells(String text) {
        ChipFlow x = new ChipFlow();
        Check.same("library of " + text, Check.library(x, text), 0);
        Check.same("fault of " + text, x.fault(), 0);
        Check.same("tape behind " + text, x.tape(), 0);
        Check.same("there is library 0 behind " + text, x.isThere(1, 0), true);
    }

    static void faultOfCells(int code, String marked) {
        int place = marked.indexOf('~');
        faultOfCellsAt(code, place, marked.substring(0, place) + marked.substring(place + 1));
    }

    static void faultOfCellsAt(int code, int place, String text) {
        ChipFlow x = new ChipFlow();
        Check.same("library of " + text, Check.library(x, text), -1 - place);
        Check.same("fault of " + text, x.fault(), code);
        Check.same("tape behind " + text, x.tape(), 0);
        Check.same("there is library 0 behind " + text, x.isThere(1, 0), false);
    }
}
