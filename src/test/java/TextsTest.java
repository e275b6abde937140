/** Promises 29 to 31. */
final class TextsTest {
    private static final Due due = new Due();

    public static void main(String[] args) {
        feed();
        bytesOfANumber();
        fullTape();
        wipe();
        moths();
        pages();
        tokens();
        faultsOfMoths();
        faultsOfPages();
        ninthMoth();
        faultChangesNothing();
        moreAndFewerNumbers();
        numbersAtTheirEdges();
        everyByte();
        longest();
        due.end();
    }

    private static void feed() {
        MothTongue x = new MothTongue();
        due.is("feed 4", x.feed('m' << 24 | 'o' << 16 | 't' << 8 | 'h', 4), 4);
        due.is("the lowest 1", x.feed(0x41424300 | ' ', 1), 5);
        due.is("the lowest 2", x.feed(0x41420000 | 'o' << 8 | 'n', 2), 7);
        due.is("the lowest 3", x.feed(0x41000000 | ' ' << 16 | ' ' << 8 | '4', 3), 10);
        due.is("count(5)", x.count(5), 10);
        due.is("text()", x.text(), 1);
        due.is("of(0, 1)", x.of(0, 1), 4);
        due.is("count(5)", x.count(5), 0);

        for (int n : new int[] {0, 5, -1, Integer.MIN_VALUE, Integer.MAX_VALUE}) {
            due.refuses("feed(0, " + n + ")", Due.BEYOND, Scenes::busy, y -> y.feed(0, n));
        }
        Due.Scene nearlyFull = y -> Scenes.tape(y, "x".repeat(118));
        due.refuses("feed(0, 3)", Due.FULL, nearlyFull, y -> y.feed(0, 3));
        due.refuses("feed(0, 4)", Due.FULL, nearlyFull, y -> y.feed(0, 4));
        due.refuses("feed(0, 5)", Due.BEYOND, nearlyFull, y -> y.feed(0, 5));
        MothTongue full = Due.made(nearlyFull);
        due.is("feed(0, 2)", full.feed(0, 2), 120);
        due.is("feed(0, 1)", full.feed(0, 1), Due.FULL);
        due.is("feed(0, 0)", full.feed(0, 0), Due.BEYOND);
        due.is("count(5)", full.count(5), 120);
    }

    private static void wipe() {
        MothTongue x = new MothTongue();
        due.is("wipe()", x.wipe(), 0);
        Scenes.tape(x, "moth ;");
        due.is("wipe()", x.wipe(), 6);
        due.is("count(5)", x.count(5), 0);
        due.is("wipe()", x.wipe(), 0);
        due.is("text() behind it", x.text(), -1);
        due.is("moths", x.count(1), 0);
    }

    private static void moth(String text, int kind, int page, int taste, int fed) {
        MothTongue x = new MothTongue();
        due.is(text, Scenes.read(x, text), 1);
        due.is("moths of " + text, x.count(1), 1);
        int[] want = {kind, page, taste, fed};
        for (int what = 0; what < 4; what++) {
            due.is("of(0, " + what + ") of " + text, x.of(0, what), want[what]);
        }
        due.is("no finding", x.status(-1), 0);
    }

    private static void moths() {
        moth("moth", 0, 0, 1, 0);
        moth("larva", 1, 0, 1, 0);
        moth("silver", 2, 0, 1, 0);
        moth("scholar", 3, 0, 1, 0);
        moth("bishop", 4, 0, 1, 0);
        moth("old", 5, 0, 1, 0);
        moth("grub", 6, 0, 1, 0);
        moth("moth on 0 taste 1 fed 0", 0, 0, 1, 0);
        moth("grub on 5 taste 9 fed 999", 6, 5, 9, 999);
        moth("silver on 3", 2, 3, 1, 0);
        moth("silver taste 3", 2, 0, 3, 0);
        moth("silver fed 3", 2, 0, 1, 3);
        moth("silver on 4 fed 3", 2, 4, 1, 3);
        moth("silver on 4 taste 3", 2, 4, 3, 0);
        moth("silver taste 4 fed 3", 2, 0, 4, 3);
        moth("   old  on   2   ", 5, 2, 1, 0);
        moth("old on2taste3fed4", 5, 2, 3, 4);
        moth("old on 002 taste 0003 fed 0000000000000999", 5, 2, 3, 999);
    }

    private static void pages() {
        MothTongue x = new MothTongue();
        Scenes.page(x, 3, 9, 9, 9, 9, 9, 9, 9, 9);
        due.is("page 3 1", Scenes.read(x, "page 3 1"), 1);
        due.is("a hole is what isn't told", x.page(3, 3), 1);
        due.is("page 3 0 0 7", Scenes.read(x, "page 3 0 0 7"), 1);
        due.is("says", x.page(3, 0), 21);
        due.is("page 5 1 2 3 4 5 6 7 8", Scenes.read(x, "page 5 1 2 3 4 5 6 7 8"), 1);
        due.is("says", x.page(5, 0), 204);
        due.is("page 9", Scenes.read(x, "page00009"), -5);
        due.is("page 0 9", Scenes.read(x, "page000 09"), 1);
        due.is("reads(0, 0)", x.reads(0, 0), 9);
        due.is("empty 5", Scenes.read(x, "empty 5"), 1);
        due.is("holes", x.page(5, 1), 8);
        due.is("other pages stay", x.page(3, 0), 21);
        due.is("empty0", Scenes.read(x, "empty0"), 1);
        due.is("holes", x.page(0, 1), 8);
        due.is("moths", x.count(1), 0);
        // Item by item: what comes later counts.
        due.is("four items", Scenes.read(x, "page 1 5;page 2 6 6;empty 1;page 2 7"), 4);
        due.is("page(1, 0)", x.page(1, 0), 0);
        due.is("page(2, 0)", x.page(2, 0), 7);
        due.is("items of both sorts", Scenes.read(x, "moth ; page 1 5 ;larva on 1;"), -29);
        due.is("items of both sorts", Scenes.read(x, "moth ; page 1 5 ;larva on 1"), 3);
        due.is("moths", x.count(1), 2);
        due.is("of(1, 1)", x.of(1, 1), 1);
        due.is("page(1, 0)", x.page(1, 0), 5);
    }

    private static void fault(String text, int place) {
        due.is("'" + text + "'", Scenes.read(new MothTongue(), text), -1 - place);
    }

    private static void tokens() {
        fault("", 0);
        fault("   ", 3);
        fault(";", 0);
        fault(" ;", 1);
        fault("7", 0);
        fault("-", 0);
        fault("Moth", 0);
        fault("mOth", 0);
        fault("moths", 0);
        fault("mothz", 0);
        fault("mot", 0);
        fault("both", 0);
        fault("moto", 0);
        fault("wage 1 1", 0);
        fault("mothlarva", 0);
        fault("mothon 1", 0);
        fault("moth on1taste", 13);
        fault("on", 0);
        fault("taste 3", 0);
        fault("moth.", 4);
        fault("moth,larva", 4);
        fault("moth\tlarva", 4);
        fault("moth\n", 4);
        fault("moth" + (char) 0, 4);
        fault("moth" + (char) 233, 4);
        fault("moth" + (char) 255 + "on 1", 4);
        fault("moth;", 5);
        fault("moth; ", 6);
        fault("moth;;moth", 5);
        fault("moth; ;moth", 6);
        fault("moth moth", 5);
        fault("moth 1", 5);
        fault("moth1", 4);
        fault("`", 0);
        fault("{", 0);
        fault("moth on /", 8);
        fault("moth on :", 8);
        fault("moth<", 4);
        fault("moth:", 4);
    }

    private static void faultsOfMoths() {
        fault("moth on", 7);
        fault("moth on  ", 9);
        fault("moth on 6", 8);
        fault("moth on 10", 8);
        fault("moth on 999", 8);
        fault("moth on 1000", 8);
        fault("moth on 4294967296", 8);
        fault("moth on 99999999999999999999999", 8);
        fault("moth on x", 8);
        fault("moth on ;", 8);
        fault("moth on on", 8);
        fault("moth on 1 on 1", 10);
        fault("moth on 1 2", 10);
        fault("moth taste 0", 11);
        fault("moth taste 10", 11);
        fault("moth taste", 10);
        fault("moth taste 1 taste 2", 13);
        fault("moth taste 1 on 1", 13);
        fault("moth fed", 8);
        fault("moth fed 1000", 9);
        fault("moth fed 9999999999", 9);
        fault("moth fed 4294967297", 9);
        fault("moth fed 1 taste 1", 11);
        fault("moth fed 1 on 1", 11);
        fault("moth fed 1 fed 1", 11);
        fault("moth ons 1", 5);
    }

    private static void faultsOfPages() {
        fault("page", 4);
        fault("page 0", 6);
        fault("page 0;", 6);
        fault("page 6 1", 5);
        fault("page x", 5);
        fault("page 0 10", 7);
        fault("page 0 1 10", 9);
        fault("page 0 1 x", 9);
        fault("page 0 on", 7);
        fault("page 0 1 2 3 4 5 6 7 8 9", 23);
        fault("page 0 1 2 3 4 5 6 7 8 99", 23);
        fault("page 0 1 2 3 4 5 6 7 8 x", 23);
        fault("page 1000 1", 5);
        fault("empty", 5);
        fault("empty 6", 6);
        fault("empty x", 6);
        fault("empty;", 5);
        fault("empty 0 0", 8);
        fault("empty 0 on 1", 8);
    }

    private static void ninthMoth() {
        MothTongue x = new MothTongue();
        due.is("a 9th", Scenes.read(x, "old;old;old;old;old;old;old;old; old"), -34);
        due.is("moths", x.count(1), 0);
        due.is("eight", Scenes.read(x, "old;old;old;old;old;old;old;old;page 1 1"), 9);
        due.is("moths", x.count(1), 8);
        due.is("a 9th by itself", Scenes.read(x, "page 1 2;grub on 7"), -10);
        due.is("page(1, 0)", x.page(1, 0), 1);
        due.is("pages all the same", Scenes.read(x, "page 1 2;empty 2"), 2);
        due.is("page(1, 0)", x.page(1, 0), 2);

        MothTongue six = new MothTongue();
        for (int i = 0; i < 6; i++) {
            six.moth(0, 0);
        }
        due.is("a 9th of those there and told", Scenes.read(six, "old;old;old"), -9);
        due.is("an earlier fault counts", Scenes.read(six, "old;old;empty 9;old"), -15);
        due.is("the 8th", Scenes.read(six, "old;old"), 2);
        // Each of the words for a moth is one of a 9th.
        for (String name : new String[] {"moth", "larva", "silver", "scholar", "bishop", "old", "grub"}) {
            due.is("a 9th: " + name, Scenes.read(six, "empty 1; " + name + " on 9"), -10);
        }
        due.is("another word is none", Scenes.read(six, "empty 1; oldest"), -10);
        due.is("moths", six.count(1), 8);
        due.is("a FAULT is no finding", six.status(-1), 0);
    }

    private static void faultChangesNothing() {
        MothTongue x = Due.made(Scenes::busy);
        x.wipe();
        MothTongue twin = Due.made(Scenes::busy);
        twin.wipe();
        due.is("a late fault", Scenes.read(x, "empty 0;page 1 1;grub on 2 taste 3 fed 4;page 2 11"), -49);
        due.is("no finding", x.status(-1), twin.status(-1));
        due.is("the tape is empty", x.count(5), 0);
        due.isTrue("nothing else changes", Observed.of(x).equals(Observed.of(twin)));
    }

    private static void longest() {
        MothTongue x = new MothTongue();
        String text = "empty 1;".repeat(14) + "empty  2";
        due.is("120 bytes", Scenes.read(x, text), 15);
        due.is("120 bytes of blanks", Scenes.read(x, " ".repeat(120)), -121);
        due.is("120 digits", Scenes.read(x, "page 0 " + "0".repeat(112) + "9"), 1);
        due.is("reads(0, 0)", x.reads(0, 0), 9);
        due.is("120 letters", Scenes.read(x, "x".repeat(120)), -1);
        due.is("ends too early at 120", Scenes.read(x, "empty 1;".repeat(15)), -121);
        due.is("the last byte begins no token", Scenes.read(x, "empty 1;".repeat(14) + "empty 1?"), -120);
        due.is("the last byte is a number too large", Scenes.read(x, "empty 1;".repeat(14) + " empty 6"), -120);
        due.is("the last byte is the number", Scenes.read(x, "empty 1;".repeat(14) + " empty 5"), 15);
        due.is("a full tape of short items", Scenes.read(x, "empty0;".repeat(16) + "empty 00"), 17);
        due.is("nothing of all that is a finding", x.status(-1), 0);
    }

    /** The n lowest bytes, the highest of them first, whatever stands above them. */
    private static void bytesOfANumber() {
        int old = 'o' << 24 | 'l' << 16 | 'd' << 8 | ';';
        for (int n = 1; n <= 4; n++) {
            MothTongue x = new MothTongue();
            due.is("feed(.., " + n + ")", x.feed(old, n), n);
            // "old;" ends too early at 4; "ld;" and "d;" begin with a word that isn't known; ";" is none.
            due.is("text() of the " + n + " lowest", x.text(), n == 4 ? -5 : -1);
        }
        MothTongue x = new MothTongue();
        due.is("3 of 4", x.feed(0xff000000 | 'o' << 16 | 'l' << 8 | 'd', 3), 3);
        due.is("text()", x.text(), 1);
        x.feed(-1, 4);
        due.is("four bytes 255", x.count(5), 4);
        due.is("they begin no token", x.text(), -1);
        x.feed('o' << 16 | 'l' << 8 | 'd', 4);
        due.is("a byte 0 counts, and begins no token", x.text(), -1);
        x.feed('o' << 16 | 'l' << 8 | 'd', 3);
        x.feed(Integer.MIN_VALUE, 4);
        due.is("a byte 128 begins no token", x.text(), -4);
    }

    private static void fullTape() {
        MothTongue x = new MothTongue();
        for (int i = 1; i <= 30; i++) {
            due.is("feed 4", x.feed('o' << 24 | 'l' << 16 | 'd' << 8 | ' ', 4), 4 * i);
        }
        for (int n = 1; n <= 4; n++) {
            due.is("feed(0, " + n + ") to a full tape", x.feed(0, n), Due.FULL);
        }
        due.is("count(5)", x.count(5), 120);
        due.is("wipe()", x.wipe(), 120);
        due.is("count(5)", x.count(5), 0);
        due.is("feed(0, 4) again", x.feed(0, 4), 4);
        due.is("status(1)", x.status(1), 4);
        // What was refused is not on the tape, and of what was wiped nothing comes back.
        Due.Scene nearly = y -> {
            Scenes.tape(y, "page 1 7" + " ".repeat(110));
            y.feed(' ' << 16 | '8' << 8 | '9', 3);
        };
        MothTongue refused = Due.made(nearly);
        due.is("118 bytes", refused.count(5), 118);
        due.is("feed 2 more", refused.feed(' ' << 8 | '6', 2), 120);
        due.is("text()", refused.text(), 1);
        due.is("reads(1, 0)", refused.reads(1, 0), 7);
        due.is("reads(1, 1)", refused.reads(1, 1), 6);
        due.is("reads(1, 2)", refused.reads(1, 2), 0);
        refused.feed('o' << 16 | 'l' << 8 | 'd', 3);
        due.is("a short text behind a long one", refused.text(), 1);
    }

    /** A page is told 1 to 8 words. */
    private static void moreAndFewerNumbers() {
        StringBuilder text = new StringBuilder("page 4");
        fault(text.toString(), 6);
        fault(text + ";old", 6);
        fault(text + " ;old", 7);
        for (int words = 1; words <= 8; words++) {
            text.append(' ').append(words);
            for (String behind : new String[] {"", " ", ";empty 5", " ; empty 5"}) {
                MothTongue x = new MothTongue();
                Scenes.page(x, 4, 9, 9, 9, 9, 9, 9, 9, 9);
                due.is(text + behind, Scenes.read(x, text + behind), behind.isBlank() ? 1 : 2);
                for (int place = 0; place < 8; place++) {
                    due.is("place " + place + " of " + text, x.reads(4, place), place < words ? place + 1 : 0);
                }
            }
        }
        fault(text + " 9", text.length() + 1);
        fault(text + " 0", text.length() + 1);
        fault(text + " 1000", text.length() + 1);
        fault(text + " old", text.length() + 1);
    }

    /** The last number that is as told, and the first that isn't, on both sides. */
    private static void numbersAtTheirEdges() {
        taken("old on 0", 1);
        taken("old on 5", 1);
        fault("old on 6", 7);
        taken("old taste 1", 1);
        taken("old taste 9", 1);
        fault("old taste 0", 10);
        fault("old taste 10", 10);
        taken("old fed 0", 1);
        taken("old fed 999", 1);
        fault("old fed 1000", 8);
        taken("page 0 0", 1);
        taken("page 5 9", 1);
        fault("page 6 0", 5);
        fault("page 5 10", 7);
        fault("page 5 0 0 0 0 0 0 0 10", 21);
        taken("empty 0", 1);
        taken("empty 5", 1);
        fault("empty 6", 6);
        // There are no numbers below 0: the sign begins no token.
        fault("old on -1", 7);
        fault("old taste -1", 10);
        fault("old fed -1", 8);
        fault("page -1 0", 5);
        fault("page 0 -1", 7);
        fault("empty -1", 6);
        // Numbers that would wrap around to one that is as told.
        for (String wraps : new String[] {"256", "1000", "65536", "4294967296", "4294967297", "18446744073709551617"}) {
            fault("old on " + wraps, 7);
            fault("old taste " + wraps, 10);
            fault("page 0 " + wraps, 7);
            fault("empty " + wraps, 6);
        }
        fault("old fed 4294967296", 8);
        fault("old fed 18446744073709551616", 8);
    }

    private static void taken(String text, int items) {
        due.is(text, Scenes.read(new MothTongue(), text), items);
    }

    /** Between a moth and what ends it, each byte is a blank, or part of the word, or begins a token or none. */
    private static void everyByte() {
        for (int b = 0; b < 256; b++) {
            String text = "old" + (char) b + ";empty 1";
            boolean isLetter = b >= 'a' && b <= 'z';
            int due0 = b == ' ' ? 2 : isLetter ? -1 : b == ';' ? -5 : -4;
            due.is("byte " + b + " behind a moth", Scenes.read(new MothTongue(), text), due0);
            String number = "page 1 " + (char) b;
            boolean isDigit = b >= '0' && b <= '9';
            due.is("byte " + b + " as a word", Scenes.read(new MothTongue(), number), isDigit ? 1 : b == ' ' ? -9 : -8);
        }
    }
}
