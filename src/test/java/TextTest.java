/** The terms of part I: what texts are programs, and which fault the others have. */
public final class TextTest {
    private static final String SEVEN = "wait;".repeat(7);

    public static void main(String[] args) {
        wordsOfHosts();
        lengths();
        blanks();
        letters();
        digits();
        tokensSideBySide();
        statementsEnd();
        sevenAtMost();
        forms();
        otherHostsWords();
        ownWords();
        counts();
        registers();
        values();
        firstFault();
        placeOfToken();
        placeOfEnd();
        leastOfOne();
        cantStand();
        noToken();
        largeNumbers();
        eighth();
        Check.finish();
    }

    private static void wordsOfHosts() {
        Check.sentence("HOSTS 0, 1. WORDS 0, 1 are in host 0, 2, 3 in host 1");
        for (int w = 0; w < 4; w++) {
            int owner = w / 2;
            Texts.dueGood(owner, "set " + w + " 1;", 1);
            Texts.dueFault(1 - owner, "set " + w + " 1;", 2, 4);
            Texts.dueGood(1 - owner, "put " + w + " 1;", 1);
            Texts.dueFault(owner, "put " + w + " 1;", 2, 4);
        }
        for (int host = 0; host < 2; host++) {
            Texts.dueFault(host, "set 4 1;", 2, 4);
            Texts.dueFault(host, "put 4 1;", 2, 4);
        }
    }

    private static void lengths() {
        Check.sentence("PROGRAMS: texts of up to 200 bytes.");
        Texts.dueGood(0, "", 0);
        Texts.dueGood(1, "", 0);
        Texts.dueGood(0, " ".repeat(195) + "wait;", 1);
        Texts.dueGood(1, " ".repeat(194) + "wait;\n", 1);
        Texts.dueGood(0, "wait;" + " ".repeat(195), 1);
        Texts.dueFault(0, " ".repeat(199) + "?", 1, 199);
        Texts.dueFault(0, "put 2 " + "0".repeat(194), 1, 200);
        Texts.dueFault(0, "w".repeat(200), 1, 0);
    }

    private static void blanks() {
        Check.sentence("TOKENS, blanks (32, 10) aside");
        for (int one = 0; one < 256; one++) {
            String between = "wait" + (char) one;
            if (one == 32 || one == 10) {
                Texts.dueGood(0, between + ";", 1);
            } else if (one != ';' && !Character.isLetter(one)) {
                Texts.dueFault(0, between + ";", 1, 4);
            }
        }
        Texts.dueGood(0, " \n ", 0);
        Texts.dueGood(0, "\n\n  put\n2 \n 1\n; ", 1);
        Texts.dueFault(0, "wait" + (char) 160 + ";", 1, 4);
    }

    private static void letters() {
        Check.sentence("letters a .. z, A .. Z one behind the other");
        for (char last : "azAZ".toCharArray()) {
            Texts.dueFault(0, "wait" + last + ";", 1, 0);
            Texts.dueFault(0, "put 2 1" + last, 1, 7);
        }
        // The neighbours of a, z, A and Z are no letters: the word ahead of them stands.
        for (char last : "`{@[".toCharArray()) {
            Texts.dueFault(0, "wait" + last + ";", 1, 4);
        }
        for (char last : new char[] {0xAA, 0xB5, 0xBA, 0xC0, 0xE1, 0xFF}) {
            Texts.dueFault(0, "wait" + last + ";", 1, 4);
        }
        for (String word : new String[] {"wai", "waits", "wAit", "Wait", "WAIT", "fencewait", "w", "unknown"}) {
            Texts.dueFault(0, word + ";", 1, 0);
        }
    }

    private static void digits() {
        Check.sentence("digits one behind the other (NUMBERS)");
        Texts.dueGood(0, "if 0 0 7;", 1);
        Texts.dueFault(0, "if 0 0 70;", 2, 7);
        Texts.dueFault(0, "if 0 0 79;", 2, 7);
        // The neighbours of 0 and 9 are no digits: the number ahead of them stands.
        Texts.dueFault(0, "if 0 0 7/;", 1, 8);
        Texts.dueFault(0, "if 0 0 7:;", 1, 8);
        Texts.dueFault(0, "if 0 0 /7;", 1, 7);
        Texts.dueFault(0, "if 0 0 :;", 1, 7);
        Texts.dueGood(0, "put 002 0001;", 1);
        Texts.dueGood(0, "put 2 " + "0".repeat(180) + "3;", 1);
        Texts.dueFault(0, "put 2 " + "0".repeat(180) + "4;", 2, 6);
    }

    private static void tokensSideBySide() {
        Check.sentence("TOKENS, blanks (32, 10) aside: letters a .. z, A .. Z one behind the other, digits one behind");
        Texts.dueGood(0, "put2 1;", 1);
        Texts.dueGood(0, "wait;wait;", 2);
        Texts.dueGood(0, "wait ;wait ;", 2);
        Texts.dueFault(0, "put 21;", 2, 4);
        Texts.dueFault(0, "pu t 2 1;", 1, 0);
        Texts.dueFault(0, "put 2 1put 2 1;", 1, 7);
        Texts.dueFault(0, "if 0 0 1 0;", 1, 9);
    }

    private static void statementsEnd() {
        Check.sentence("STATEMENTS, each ended by ;");
        Texts.dueGood(0, "fence;", 1);
        Texts.dueFault(0, "fence", 1, 5);
        Texts.dueFault(0, "fence wait;", 1, 6);
        Texts.dueFault(0, "fence;wait", 1, 10);
        Texts.dueFault(0, ";", 1, 0);
        Texts.dueFault(0, "fence;;", 1, 6);
        Texts.dueFault(0, "fence.", 1, 5);
    }

    private static void sevenAtMost() {
        Check.sentence("each ended by ;, 7 at most");
        for (int count = 0; count <= 7; count++) {
            Texts.dueGood(0, "wait;".repeat(count), count);
            Texts.dueGood(1, "swap 0 0 0 0;\n".repeat(count), count);
        }
        Texts.dueFault(0, "wait;".repeat(8), 3, 35);
        Texts.dueFault(1, "wait;".repeat(8), 3, 35);
        Texts.dueFault(0, "wait;".repeat(40), 3, 35);
    }

    /** Each sort with one number too few, as many as it has, and one too many. */
    private static void forms() {
        Check.sentence("put W V; get W R; swap W E V R; add W V R; (W a WORD of the other host) fence; wait; set W V;"
            + " load W R; (W an own WORD) if R V N;");
        String[] names = {"put", "get", "swap", "add", "fence", "wait", "set", "load", "if"};
        String[] numbers = {" 2 1", " 2 1", " 2 1 1 1", " 2 1 1", "", "", " 1 1", " 1 1", " 1 1 1"};
        for (int sort = 0; sort < names.length; sort++) {
            String whole = names[sort] + numbers[sort];
            Texts.dueGood(0, whole + ";", 1);
            Texts.dueFault(0, whole + " 1;", 1, whole.length() + 1);
            Texts.dueFault(0, whole, 1, whole.length());
            if (!numbers[sort].isEmpty()) {
                String fewer = whole.substring(0, whole.length() - 2);
                Texts.dueFault(0, fewer + ";", 1, fewer.length());
                Texts.dueFault(0, fewer + " x;", 1, fewer.length() + 1);
                Texts.dueFault(0, names[sort] + ";", 1, names[sort].length());
            }
        }
    }

    private static void otherHostsWords() {
        Check.sentence("(W a WORD of the other host)");
        String[] texts = {"put # 0;", "get # 0;", "swap # 0 0 0;", "add # 0 0;"};
        dueRange(0, texts, 2, 3);
        dueRange(1, texts, 0, 1);
    }

    private static void ownWords() {
        Check.sentence("(W an own WORD)");
        String[] texts = {"set # 0;", "load # 0;"};
        dueRange(0, texts, 0, 1);
        dueRange(1, texts, 2, 3);
    }

    private static void counts() {
        Check.sentence("(N 1 .. 7)");
        dueRange(0, new String[] {"if 0 0 #;"}, 1, 7);
        dueRange(1, new String[] {"if 1 3 #;"}, 1, 7);
    }

    private static void registers() {
        Check.sentence("R 0 or 1");
        dueRange(0, new String[] {"get 2 #;", "swap 2 0 0 #;", "add 2 0 #;", "load 0 #;", "if # 0 1;"}, 0, 1);
        dueRange(1, new String[] {"get 1 #;", "swap 1 3 3 #;", "add 1 3 #;", "load 3 #;", "if # 3 7;"}, 0, 1);
    }

    private static void values() {
        Check.sentence("E and V 0 .. 3");
        dueRange(0, new String[] {"put 2 #;", "swap 2 # 0 0;", "swap 2 0 # 0;", "add 2 # 0;", "set 0 #;", "if 0 # 1;"}, 0, 3);
        dueRange(1, new String[] {"put 1 #;", "swap 1 # 3 1;", "swap 1 3 # 1;", "add 1 # 1;", "set 3 #;", "if 1 # 7;"}, 0, 3);
    }

    private static void dueRange(int host, String[] texts, int least, int most) {
        for (String text : texts) {
            int place = text.indexOf('#');
            for (int number = 0; number <= 12; number++) {
                String whole = text.replace("#", Integer.toString(number));
                if (number >= least && number <= most) {
                    Texts.dueGood(host, whole, 1);
                } else {
                    Texts.dueFault(host, whole, 2, place);
                }
            }
            Texts.dueFault(host, text.replace("#", "-1"), 1, place);
        }
    }

    private static void firstFault() {
        Check.sentence("FAULTS, the first as TOKENS are come to");
        Texts.dueFault(0, "put 9 x", 2, 4);
        Texts.dueFault(0, "put x 9", 1, 4);
        Texts.dueFault(0, "put 9 9;", 2, 4);
        Texts.dueFault(0, "wait;".repeat(6) + "put 2 4;wait;", 2, 36);
        Texts.dueFault(0, SEVEN + "put 9 9; ?", 3, 35);
        Texts.dueFault(0, "fence; if 0 0 8", 2, 14);
        Texts.dueFault(0, "wait;?" + SEVEN + SEVEN, 1, 5);
    }

    private static void placeOfToken() {
        Check.sentence("at the TOKEN's first byte");
        Texts.dueFault(0, "waiting;", 1, 0);
        Texts.dueFault(0, "\n\n waiting;", 1, 3);
        Texts.dueFault(0, "put 2   400;", 2, 8);
        Texts.dueFault(0, " ".repeat(197) + "abc", 1, 197);
    }

    private static void placeOfEnd() {
        Check.sentence("(of the end at the length)");
        Texts.dueFault(0, "wait", 1, 4);
        Texts.dueFault(0, "wait  \n", 1, 7);
        Texts.dueFault(0, "put", 1, 3);
        Texts.dueFault(0, "put 2", 1, 5);
        Texts.dueFault(0, "put 2 1", 1, 7);
        Texts.dueFault(1, " ".repeat(196) + "wait", 1, 200);
        Texts.dueFault(1, "wait" + " ".repeat(196), 1, 200);
        Texts.dueFault(0, " ".repeat(193) + "put 2 1", 1, 200);
        Texts.dueFault(0, "wait;".repeat(6) + "wait", 1, 34);
    }

    private static void leastOfOne() {
        Check.sentence("of one the least");
        // Too large a number where none can stand; a word that none knows, a number or a ; as the 8th statement.
        Texts.dueFault(0, "fence 9;", 1, 6);
        Texts.dueFault(0, "put 2 1 9;", 1, 8);
        Texts.dueFault(0, "99;", 1, 0);
        Texts.dueFault(0, SEVEN + "waits;", 1, 35);
        Texts.dueFault(0, SEVEN + ";", 1, 35);
        Texts.dueFault(0, SEVEN + "8", 1, 35);
        Texts.dueFault(0, SEVEN + "!", 1, 35);
    }

    private static void cantStand() {
        Check.sentence("1 it can't stand there");
        for (String text : new String[] {";", "0;", "7;", "x;", "x"}) {
            Texts.dueFault(0, text, 1, 0);
        }
        Texts.dueFault(0, "put put;", 1, 4);
        Texts.dueFault(0, "put 2 put;", 1, 6);
        Texts.dueFault(0, "put 2 1 put;", 1, 8);
        Texts.dueFault(0, "fence;7", 1, 6);
    }

    private static void noToken() {
        Check.sentence("or is none");
        for (int one = 0; one < 256; one++) {
            boolean isLetter = one >= 'a' && one <= 'z' || one >= 'A' && one <= 'Z';
            boolean isDigit = one >= '0' && one <= '9';
            if (!isLetter && !isDigit && one != ';' && one != 32 && one != 10) {
                Texts.dueFault(0, (char) one + "wait;", 1, 0);
                Texts.dueFault(0, "put 2 " + (char) one + ";", 1, 6);
                Texts.dueFault(0, "wait;" + (char) one, 1, 5);
            }
        }
    }

    private static void largeNumbers() {
        Check.sentence("2 a NUMBER that isn't one of those told.");
        String[] large = {"4", "10", "99", "256", "1000", "65538", "2147483648", "4294967296", "4294967297", "4294967298",
            "4294967299", "18446744073709551616", "18446744073709551618", "9".repeat(150)};
        for (String number : large) {
            Texts.dueFault(0, "put " + number + " 1;", 2, 4);
            Texts.dueFault(0, "put 2 " + number + ";", 2, 6);
            Texts.dueFault(0, "get 2 " + number + ";", 2, 6);
        }
    }

    private static void eighth() {
        Check.sentence("3 the 8th STATEMENT (at its word).");
        Texts.dueGood(0, SEVEN, 7);
        Texts.dueGood(1, SEVEN + " \n", 7);
        for (String word : new String[] {"put", "get", "swap", "add", "fence", "wait", "set", "load", "if"}) {
            Texts.dueFault(0, SEVEN + word, 3, 35);
            Texts.dueFault(0, SEVEN + "  " + word + " 9 9 9;", 3, 37);
        }
    }
}
