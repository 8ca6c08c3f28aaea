import java.nio.charset.StandardCharsets;

/** Promises 4, 5 and 14: program, fault, statement. */
public final class ProgramTest {
    public static void main(String[] args) {
        sorts();
        tokens();
        numbers();
        cantStand();
        eighth();
        noHost();
        faultKeeps();
        wrongStatements();
        Check.finish();
    }

    private static void dueFault(int host, String text, int fault, int place) {
        FarStore x = new FarStore();
        Check.tell(x, host, "wait;");
        Check.due("program of " + text, -1, Check.tell(x, host, text));
        Check.due("fault(0) of " + text, fault, x.fault(0));
        Check.due("fault(1) of " + text, place, x.fault(1));
        Check.due("fault(2)", -1, x.fault(2));
        Check.due("fault(-1)", -1, x.fault(-1));
        Check.due("the tape is empty behind a fault", 0, x.about(2));
        Check.due("the former one stays", 1, x.about(host));
        Check.due("the former one stays", 5, x.statement(host, 0, 0));
    }

    private static void dueGood(int host, String text, int count) {
        FarStore x = new FarStore();
        Check.due("program of " + text, count, Check.tell(x, host, text));
        Check.due("fault(0) of " + text, 0, x.fault(0));
        Check.due("fault(1) of " + text, -1, x.fault(1));
        Check.due("fault(2)", -1, x.fault(2));
        Check.due("the tape is empty", 0, x.about(2));
        Check.due("about(host)", count, x.about(host));
    }

    private static void dueStatement(FarStore x, int host, int i, int... parts) {
        for (int what = 0; what < 6; what++) {
            Check.due("statement(" + host + ", " + i + ", " + what + ")", what < parts.length ? parts[what] : -1,
                x.statement(host, i, what));
        }
        Check.due("statement(.., -1)", -1, x.statement(host, i, -1));
    }

    private static void sorts() {
        FarStore x = Check.pair("put 2 3; get 3 1; swap 2 0 3 1; add 3 2 0; fence; wait; set 1 2;",
            "put 0 1;get 1 0;swap 1 3 2 0;add 0 0 1;load 3 1;load 2 0;if 1 2 7;");
        dueStatement(x, 0, 0, 0, 2, 3);
        dueStatement(x, 0, 1, 1, 3, 1);
        dueStatement(x, 0, 2, 2, 2, 0, 3, 1);
        dueStatement(x, 0, 3, 3, 3, 2, 0);
        dueStatement(x, 0, 4, 4);
        dueStatement(x, 0, 5, 5);
        dueStatement(x, 0, 6, 6, 1, 2);
        dueStatement(x, 0, 7, -1);
        dueStatement(x, 1, 0, 0, 0, 1);
        dueStatement(x, 1, 1, 1, 1, 0);
        dueStatement(x, 1, 2, 2, 1, 3, 2, 0);
        dueStatement(x, 1, 3, 3, 0, 0, 1);
        dueStatement(x, 1, 4, 7, 3, 1);
        dueStatement(x, 1, 5, 7, 2, 0);
        dueStatement(x, 1, 6, 8, 1, 2, 7);
    }

    private static void tokens() {
        dueGood(0, "", 0);
        dueGood(1, " \n ", 0);
        dueGood(0, "put2 1;", 1);
        dueGood(0, "put\n2\n1\n;\n", 1);
        dueGood(0, "  fence  ;wait;", 2);
        dueGood(0, "put 002 0001;", 1);
        dueFault(0, "putt 2 1;", 1, 0);
        dueFault(0, "Put 2 1;", 1, 0);
        dueFault(0, "pu t 2 1;", 1, 0);
        dueFault(0, "put 21;", 2, 4);
        dueFault(0, "put 2 1\t;", 1, 7);
        dueFault(0, "put\r2 1;", 1, 3);
        dueFault(0, "put 2 -1;", 1, 6);
        dueFault(0, "fence;,", 1, 6);
        dueFault(0, "fencewait;", 1, 0);
        dueFault(0, "put 2 1x;", 1, 7);
        dueFault(0, new String(new byte[] {0}, StandardCharsets.ISO_8859_1), 1, 0);
        dueFault(0, new String(new byte[] {(byte) 255}, StandardCharsets.ISO_8859_1), 1, 0);
        dueFault(0, "fence;" + (char) 0xE1, 1, 6);
        for (char one : "aAzZ".toCharArray()) {
            dueFault(0, "wait" + one + ";", 1, 0);
        }
        for (char one : "`@{[/:0".toCharArray()) {
            dueFault(0, "wait" + one + ";", 1, 4);
        }
        for (int one = 0; one < 256; one++) {
            boolean blank = one == 32 || one == 10;
            if (blank) {
                dueGood(0, (char) one + "wait;", 1);
            } else {
                dueFault(0, (char) one + ";wait;", 1, 0);
            }
        }
    }

    private static void numbers() {
        String[] far = {"put # 0;", "get # 0;", "swap # 0 0 0;", "add # 0 0;"};
        String[] own = {"set # 0;", "load # 0;"};
        String[] values = {"put 2 #;", "swap 2 # 0 0;", "swap 2 0 # 0;", "add 2 # 0;", "set 0 #;", "if 0 # 1;"};
        String[] registers = {"get 2 #;", "swap 2 0 0 #;", "add 2 0 #;", "load 0 #;", "if # 0 1;"};
        String[] counts = {"if 0 0 #;"};
        dueRange(0, far, 2, 3);
        dueRange(1, far, 0, 1);
        dueRange(0, own, 0, 1);
        dueRange(1, own, 2, 3);
        dueRange(0, values, 0, 3);
        dueRange(0, registers, 0, 1);
        dueRange(0, counts, 1, 7);
    }

    private static void dueRange(int host, String[] texts, int least, int most) {
        String[] tried = {"0", "1", "2", "3", "4", "5", "6", "7", "8", "9", "10", "12", "4294967296", "4294967297",
            "4294967298", "4294967299", "18446744073709551617", "18446744073709551618"};
        for (String text : texts) {
            int place = text.indexOf('#');
            for (String number : tried) {
                String whole = text.replace("#", number);
                if (number.length() == 1 && number.charAt(0) - '0' >= least && number.charAt(0) - '0' <= most) {
                    dueGood(host, whole, 1);
                } else {
                    dueFault(host, whole, 2, place);
                }
            }
        }
    }

    private static void cantStand() {
        dueFault(0, ";", 1, 0);
        dueFault(0, "7;", 1, 0);
        dueFault(0, "fence;;", 1, 6);
        dueFault(0, "fence wait;", 1, 6);
        dueFault(0, "fence 9;", 1, 6);
        dueFault(0, "put;", 1, 3);
        dueFault(0, "put 2 1 9;", 1, 8);
        dueFault(0, "put 2 put;", 1, 6);
        dueFault(0, "fence", 1, 5);
        dueFault(0, "fence  ", 1, 7);
        dueFault(0, "put 2", 1, 5);
        dueFault(0, "put 2 1", 1, 7);
        dueFault(0, "fence; if 0 0 8", 2, 14);
        dueFault(0, "put 9 x", 2, 4);
        dueFault(0, "put x 9", 1, 4);
        dueFault(0, "unknown 9 9 9", 1, 0);
    }

    private static void eighth() {
        String seven = "wait;".repeat(7);
        dueGood(0, seven, 7);
        dueGood(1, seven + "  ", 7);
        dueFault(0, seven + "wait;", 3, 35);
        dueFault(0, seven + " put 9 9 9", 3, 36);
        dueFault(0, seven + "wait", 3, 35);
        dueFault(0, seven + "waits;", 1, 35);
        dueFault(0, seven + ";", 1, 35);
        dueFault(0, seven + "8", 1, 35);
        dueFault(0, seven + "!", 1, 35);
        dueFault(0, "wait;".repeat(6) + "put 2 4;wait;", 2, 36);
    }

    private static void noHost() {
        int[] wrong = {-1, 2, Integer.MIN_VALUE, Integer.MAX_VALUE};
        for (int host : wrong) {
            FarStore x = new FarStore();
            Check.tape(x, "fence;");
            Check.due("program of no host", -1, x.program(host));
            Check.due("the tape stays", 6, x.about(2));
            Check.due("no text was told", -1, x.fault(0));
            Check.due("program(0)", 1, x.program(0));
            Check.due("statement of no host", -1, x.statement(host, 0, 0));
        }
    }

    private static void faultKeeps() {
        FarStore x = new FarStore();
        Check.tell(x, 0, "fence; ?");
        Check.tape(x, "wait;");
        Check.due("fault(0) of the latest text", 1, x.fault(0));
        Check.due("fault(1) of the latest text", 7, x.fault(1));
        x.program(3);
        Check.due("fault(1) of the latest text", 7, x.fault(1));
        Check.due("program(1)", 1, x.program(1));
        Check.due("fault(0) of a good text", 0, x.fault(0));
        Check.due("fault(1) of a good text", -1, x.fault(1));
        Check.tell(x, 0, "put 2 1; put 3 1; put 2 9;");
        Check.due("a fault in the midst changes nothing", 0, x.about(0));
        Check.due("a fault in the midst changes nothing", 2, x.walk());
        Check.due("an empty text is a program", 0, Check.tell(x, 1, ""));
        Check.due("about(1)", 0, x.about(1));
    }

    private static void wrongStatements() {
        FarStore x = Check.pair("if 1 3 2;", "");
        int[] wrong = {-1, 1, 2, 7, 8, Integer.MIN_VALUE, Integer.MAX_VALUE};
        for (int i : wrong) {
            Check.due("statement(0, " + i + ", 0)", -1, x.statement(0, i, 0));
            Check.due("statement(0, " + i + ", 1)", -1, x.statement(0, i, 1));
        }
        Check.due("statement(1, 0, 0)", -1, x.statement(1, 0, 0));
        Check.due("statement(0, 0, 4)", -1, x.statement(0, 0, 4));
        Check.due("statement(0, 0, 5)", -1, x.statement(0, 0, 5));
        Check.due("statement(0, 0, MIN)", -1, x.statement(0, 0, Integer.MIN_VALUE));
        Check.due("statement(0, 0, MAX)", -1, x.statement(0, 0, Integer.MAX_VALUE));
    }
}
