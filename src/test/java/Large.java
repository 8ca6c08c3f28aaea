import java.util.Arrays;
import java.util.List;
import java.util.function.Supplier;

/** Pairs of programs with about 12,000 states, found by trying many; none of them with an if. */
final class Large {
    private Large() {
    }

    private static FarStore falling(String first, String second) {
        FarStore x = Check.pair(first, second);
        x.falls(true);
        return x;
    }

    /** 12,000 states; programs of 7. */
    static FarStore justTold() {
        return falling("set 1 3;set 1 2;add 3 2 0;put 3 0;get 2 0;swap 2 0 2 1;add 2 2 0;",
            "swap 1 0 2 0;add 1 1 1;swap 0 0 1 0;add 0 1 0;get 0 1;set 3 2;swap 1 0 1 0;");
    }

    /** 12,001 states; 3,107 without falls. */
    static FarStore justUntold() {
        return falling("load 1 0;add 3 1 0;get 3 0;load 1 1;load 0 1;set 0 0;get 3 0;",
            "get 0 0;add 0 3 1;set 3 3;put 1 2;put 0 2;load 3 0;");
    }

    /** 12,000 states, and more with a fence ahead of some statement of host 0. */
    static FarStore untoldWithFence() {
        return falling("add 2 1 0;get 2 1;put 3 0;swap 3 0 1 0;add 3 2 1;put 3 1;",
            "get 1 1;load 3 0;set 2 2;get 0 1;get 1 0;add 0 3 1;put 1 3;");
    }

    /** Of host 0's fences the one ahead of 3 bars both(6, 6); with the one ahead of 2 there are more than 12,000 states. */
    static FarStore untoldAheadOfBarring() {
        FarStore x = falling("set 1 2;put 2 1;get 3 1;load 0 0;swap 2 0 1 0;put 3 2;",
            "get 1 1;add 1 1 1;add 1 1 1;get 0 0;load 2 0;add 1 1 1;");
        x.word(3, 0, 6);
        return x;
    }

    /** Host 0's fence ahead of 1 bars both(6, 7); with the one ahead of 0, which bars nothing, there are 12,085 states. */
    static FarStore untoldAheadOfTheFirst() {
        FarStore x = falling("get 2 1;swap 3 0 3 1;load 1 1;add 3 2 0;put 2 3;load 0 1;",
            "get 1 0;add 0 2 0;put 1 2;set 3 0;get 1 1;get 0 1;get 0 1;");
        x.word(2, 0, 6);
        return x;
    }

    /** Host 0's fence ahead of 3 bars both(6, 6); with host 1's ahead of 5 there are more than 12,000 states, with no other. */
    static FarStore untoldBehindBarring() {
        FarStore x = falling("set 1 2;get 3 1;get 2 0;put 2 1;set 1 2;put 3 2;",
            "add 1 1 1;get 1 1;swap 0 0 1 0;add 1 1 1;put 0 1;get 1 1;");
        x.word(2, 0, 6);
        return x;
    }

    /** With one of host 0's fences there are 12,000 states, with the others fewer; host 1's program is of 7. */
    static FarStore fencesJustTold() {
        return falling("put 2 2;get 3 0;set 0 3;put 3 0;put 2 2;", "add 0 2 1;set 2 1;get 0 0;put 0 0;put 1 0;get 0 0;set 2 1;");
    }

    /** As fencesJustTold(), with 12,001 states. */
    static FarStore fencesJustUntold() {
        return falling("add 3 1 1;set 1 2;add 3 1 1;swap 2 0 1 0;",
            "add 1 1 1;get 1 1;add 1 1 1;add 1 1 1;put 0 1;set 3 2;swap 0 0 1 0;");
    }

    /** These, and four more: with more than 12,000 states, 12,000, 12,001, and some 9,000. */
    static List<Supplier<FarStore>> all() {
        return Arrays.asList(Large::justTold, Large::justUntold, Large::untoldWithFence, Large::untoldAheadOfBarring,
            Large::untoldAheadOfTheFirst, Large::untoldBehindBarring, Large::fencesJustTold, Large::fencesJustUntold,
            () -> falling("get 2 0;get 2 1;put 2 1;set 0 1;set 0 2;", "get 0 0;get 0 1;put 0 1;set 2 1;set 2 2;"),
            () -> falling("set 1 0;get 2 0;swap 3 0 1 0;put 2 2;get 2 1;get 2 0;add 3 2 1;",
                "get 1 1;add 0 1 1;get 0 0;swap 0 0 2 0;add 1 3 1;set 2 1;"),
            () -> falling("get 2 1;get 3 0;set 1 3;swap 2 0 1 1;put 3 3;get 2 1;",
                "get 0 1;add 0 3 1;get 0 1;swap 1 0 3 1;add 1 2 0;add 1 3 1;"),
            () -> falling("load 1 0;add 3 1 0;get 3 0;load 1 1;set 0 0;get 3 0;",
                "get 0 0;add 0 3 1;set 3 3;put 1 2;put 0 2;load 3 0;"));
    }
}
