/** Texts told to new objects, and whether they are programs. */
final class Texts {
    private Texts() {
    }

    static void dueGood(int host, String text, int count) {
        FarStore x = new FarStore();
        Check.due("program(" + host + ") of " + text, count, Check.tell(x, host, text));
        Check.due("fault(0) of " + text, 0, x.fault(0));
        Check.due("fault(1) of " + text, -1, x.fault(1));
        Check.due("about(" + host + ") behind " + text, count, x.about(host));
    }

    static void dueFault(int host, String text, int fault, int place) {
        FarStore x = new FarStore();
        Check.due("program(" + host + ") of " + text, -1, Check.tell(x, host, text));
        Check.due("fault(0) of " + text, fault, x.fault(0));
        Check.due("fault(1) of " + text, place, x.fault(1));
        Check.due("about(" + host + ") behind " + text, 0, x.about(host));
    }
}
