/** Where tests begin. */
final class Scenes {
    private Scenes() {
    }

    static void nothing(MothTongue x) {
    }

    static void tape(MothTongue x, String text) {
        for (int i = 0; i < text.length(); i++) {
            x.feed(text.charAt(i), 1);
        }
    }

    /** The tape holds the text alone; what text() answers. */
    static int read(MothTongue x, String text) {
        x.wipe();
        for (int i = 0; i < text.length(); i += 4) {
            int bytes = 0;
            int n = Math.min(4, text.length() - i);
            for (int k = 0; k < n; k++) {
                bytes = bytes << 8 | text.charAt(i + k);
            }
            x.feed(bytes, n);
        }
        return x.text();
    }

    static void page(MothTongue x, int page, int... words) {
        for (int place = 0; place < 8; place++) {
            x.word(page, place, place < words.length ? words[place] : 0);
        }
    }

    static int moth(MothTongue x, int kind, int page, int taste, int fed) {
        int moth = x.moth(kind, page);
        x.change(moth, 2, taste);
        x.change(moth, 3, fed);
        return moth;
    }

    static void sheet(MothTongue x, int s, int bits, int... numbers) {
        x.sheet(s, bits, numbers.length);
        for (int i = 0; i < numbers.length; i++) {
            x.write(s, i, numbers[i]);
        }
    }

    /** Something of everything: words, moths, spots, sheets, a tape, an image of another state. */
    static void busy(MothTongue x) {
        page(x, 0, 1, 2, 3, 4, 5, 6, 7, 8);
        page(x, 1, 9, 9, 0, 2);
        moth(x, 1, 0, 1, 4);
        x.hold(3, 0);
        x.image();
        page(x, 2, 5, 0, 0, 0, 0, 0, 0, 6);
        moth(x, 2, 1, 2, 7);
        moth(x, 5, 2, 9, 16);
        x.hold(9, 2);
        x.seed(77);
        x.go(2);
        sheet(x, 0, 8, 1, 2, 3);
        sheet(x, 1, 8, 4, 5);
        sheet(x, 2, 16, 6, 7, 8, 9);
        tape(x, "grub on 4 ;page 3 1");
    }

    /** As busy, with as many moths as there can be. */
    static void crowded(MothTongue x) {
        busy(x);
        for (int i = 0; i < 5; i++) {
            x.moth(i, i);
        }
    }
}
