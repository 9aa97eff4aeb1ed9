/** Section 1: blanks, comments, names, numbers, signs and words, byte by byte. */
public final class EdgeTokenTest {
    private static final String SIGNS = "(){};,=.:&|^!+?@";
    private static final String[] WORDS = {"module", "in", "out", "let", "reg", "use", "cell"};

    private static boolean isBlank(int b) {
        return b == 9 || b == 10 || b == 13 || b == 32;
    }

    private static boolean isDigit(int b) {
        return b >= '0' && b <= '9';
    }

    private static boolean isLetter(int b) {
        return b >= 'a' && b <= 'z' || b >= 'A' && b <= 'Z' || b == '_';
    }

    /** BLANKS are 9, 10, 13, 32; 1 at a byte with which no token begins. */
    private static void everyByteAlone() {
        String text = "module a{out y=1@1;}";
        for (int b = 0; b < 256; b++) {
            boolean token = isDigit(b) || isLetter(b) || SIGNS.indexOf(b) >= 0;
            if (isBlank(b) || b == '#') {
                Texts.good(text + (char) b);
                Texts.good((char) b + "\n" + text);
            } else {
                Texts.faultAt(token ? 2 : 1, 20, text + (char) b);
                Texts.faultAt(token ? 2 : 1, 0, (char) b + "\n" + text);
            }
        }
    }

    /** Every byte behind the q of a name: it goes on with letters, digits and _ alone. */
    private static void everyByteInName() {
        for (int b = 0; b < 256; b++) {
            String text = "module a{in q" + (char) b + ";out y=q" + (char) b + ";}";
            if (isLetter(b) || isDigit(b) || isBlank(b)) {
                Texts.good(text);
            } else if (b == '#') {
                Texts.faultAt(2, text.length(), text);
            } else if (b == ';' || b == ':') {
                Texts.faultAt(2, 14, text);
            } else {
                Texts.faultAt(SIGNS.indexOf(b) >= 0 ? 2 : 1, 13, text);
            }
        }
    }

    /** Comments go from # to before the next byte 10, or the end. */
    private static void comments() {
        String text = "module a{out y=1@1;}";
        for (int b = 0; b < 256; b++) {
            if (b == 10) {
                Texts.faultAt(1, 22, text + "#\n$");
            } else {
                Texts.good(text + "#" + (char) b + "$");
            }
        }
        Texts.fault(2, "#~");
    }

    private static void commentsBetweenTokens() {
        String[] tokens = {"module", "a", "{", "in", "x", ":", "2", ";", "reg", "r", "=", "1", ";", "r", "<-", "x", ".",
            "1", ";", "out", "y", "=", "x", "==", "3", "@", "2", ";", "}"};
        Texts.good(String.join("#x$#\r\n", tokens) + "#");
        Texts.good(String.join("##\n", tokens) + "\n#\n#");
        for (int b : new int[] {9, 10, 13, 32}) {
            Texts.good(String.join(String.valueOf((char) b), tokens));
        }
        Texts.fault(2, "~mod#\nule a{out y=1@1;}");
        Texts.fault(2, "module a{out y=1@1;#}~");
        Texts.fault(2, "# all of it ; \r module a{out y=1@1;}~");
        Texts.good("#\n#\n\n" + String.join("\n", tokens));
    }

    /** NAMES have 12 bytes at most. */
    private static void lengthOfNames() {
        Texts.good("module a{in x;out y=x;}");
        Texts.good("module abcdefghijkl{in _123456789Az;out y=_123456789Az;}");
        Texts.fault(1, "module ~abcdefghijklm{in x;out y=x;}");
        Texts.fault(1, "module a{in ~_123456789Azq;}");
        Texts.fault(1, "module a{in x;out y=~x123456789012;}");
        Texts.fault(1, "module a{in x;out y=x ~x123456789012;}");
        Texts.fault(1, "~" + Texts.many("a", 400));
        Texts.faultOfCells(1, "cell ~abcdefghijklm");
        Texts.goodCells("cell abcdefghijkl(ABCDEFGHIJKL)=ABCDEFGHIJKL,1,1;");
    }

    /** Names are the same just if all their bytes are. */
    private static void sameNames() {
        Texts.good("module a{in x;in X;in _;in __;in x1;in x_;in x11;in abcdefghijkl;in abcdefghijkm;in bbcdefghijkl;out y=x;}");
        Texts.fault(10, "module a{in abcdefghijkl;in ~abcdefghijkl;}");
        Texts.fault(11, "module a{in abcdefghijkl;out y=~abcdefghijkk;}");
        Texts.fault(11, "module a{in ab;out y=~a;}");
        Texts.fault(11, "module a{in ab;out y=~abb;}");
        Texts.fault(11, "module a{in ab;out y=~Ab;}");
    }

    /** A NAME begins with a letter or _: digits before it are a token of their own. */
    private static void beginOfNames() {
        Texts.fault(2, "module ~1a{in x;out y=x;}");
        Texts.fault(2, "module a{in x;out y=1@1~x;}");
        Texts.fault(2, "module a{in x:1~x;}");
    }

    /** NUMBERS have 6 digits at most. */
    private static void lengthOfNumbers() {
        Texts.good("module a{in x:000001;out y=x.000000;}");
        Texts.fault(1, "module a{in x:~0000001;}");
        Texts.fault(12, "module a{in x:~999999;}");
        Texts.fault(1, "module a{in x:~1000000;}");
        Texts.fault(1, "module a{in x;out y=x.~0000000;}");
        Texts.fault(1, "module a{out y=1@~0000001;}");
        Texts.fault(1, "~" + Texts.many("7", 300));
        Texts.goodCells("cell a(x)=x,001000,000100;");
        Texts.faultOfCells(1, "cell a(x)=x,~0001000,1;");
        for (int digit = 0; digit < 10; digit++) {
            String text = "module a{in x:8;out y=x." + digit + ";}";
            if (digit < 8) {
                Texts.good(text);
            } else {
                Texts.faultAt(12, text.indexOf("x.") + 2, text);
            }
        }
    }

    /** Tokens are as long as may be: <- and == before < and =. */
    private static void longSigns() {
        Texts.good("module a{in x;reg r;r<-x==!x;out y=r;}");
        Texts.fault(2, "module a{in x;out y=x~= =x;}");
        Texts.fault(2, "module a{in x;out y=x==~=x;}");
        Texts.fault(2, "module a{in x;out y~==x;}");
        Texts.fault(2, "module a{in x;out y=x~<-x;}");
        Texts.fault(1, "module a{reg r;r~< -r;}");
        Texts.fault(1, "module a{reg r;r<-~-r;}");
        Texts.fault(1, "module a{reg r;r~<");
        Texts.fault(1, "module a{reg r;r~<=r;}");
        Texts.fault(1, "module a{reg r;r~<<-r;}");
        Texts.fault(2, "module a{reg r;r<-~");
        Texts.fault(2, "module a{reg r;r<-r~=");
    }

    /** The bytes behind the tape's end are no part of it, whatever was fed before. */
    private static void endOfTape() {
        ChipFlow x = new ChipFlow();
        Check.feed(x, "module a{reg r;r<-r;}");
        x.end(17);
        Check.same("< at the end, - was cut off", x.design(), -17);
        Check.same("its code", x.fault(), 1);
        Check.feed(x, "module a{in x;out y=x==x;}");
        x.end(22);
        Check.same("= at the end, = was cut off", x.design(), -22);
        Check.same("its code", x.fault(), 2);
        Check.feed(x, "module aaaaaaaaaaaaa");
        x.end(19);
        Check.same("twelve bytes were kept", x.design(), -20);
        Check.same("its code", x.fault(), 2);
        Check.feed(x, "module a{in x:1234567");
        x.end(20);
        Check.same("six digits were kept", x.design(), -15);
        Check.same("its code", x.fault(), 12);
    }

    /** The names module in out let reg use cell are WORDS: these alone, and as they are written. */
    private static void words() {
        for (String word : WORDS) {
            Texts.fault(2, "module ~" + word + "{in x;out y=x;}");
            Texts.fault(2, "module a{in ~" + word + ";out y=x;}");
            Texts.fault(2, "module a{in x;out y=~" + word + ";}");
            Texts.faultOfCells(2, "cell ~" + word + "(x)=x,1,1;");
            Texts.faultOfCells(2, "cell a(~" + word + ")=x,1,1;");
            String[] names = {word + "s", word + "_", word + "1", word.substring(1), word.substring(0, word.length() - 1),
                word.toUpperCase(), "_" + word, word + word};
            for (String name : names) {
                Texts.good("module " + name + "{in " + name + ";out y=" + name + ";}");
            }
        }
        Texts.fault(2, "~modul a{in x;out y=x;}");
        Texts.fault(2, "~Module a{in x;out y=x;}");
        Texts.fault(2, "module a{~cell x;out y=x;}");
        Texts.fault(2, "module a{~module x;out y=x;}");
    }

    public static void main(String[] args) {
        everyByteAlone();
        everyByteInName();
        comments();
        commentsBetweenTokens();
        lengthOfNames();
        sameNames();
        beginOfNames();
        lengthOfNumbers();
        longSigns();
        endOfTape();
        words();
        Check.finish("EdgeTokenTest");
    }
}
