/** All that can be told of an object from outside; to tell it uses the object up. */
final class Observed {
    private Observed() {
    }

    static String of(MothTongue x) {
        StringBuilder told = new StringBuilder();
        tellDrawer(told, x);
        tellSheets(told, x);
        // The tape, the numbers on the sheets and the image can only be told by using them.
        told.append("text ").append(x.text()).append('\n');
        tellDrawer(told, x);
        for (int s = 0; s < 4; s++) {
            told.append("load ").append(x.load(s)).append(':');
            for (int place = 0; place < 8; place++) {
                told.append(' ').append(x.reads(0, place));
            }
            told.append('\n');
        }
        told.append("undo ").append(x.undo()).append('\n');
        tellDrawer(told, x);
        return told.toString();
    }

    private static void tellDrawer(StringBuilder told, MothTongue x) {
        for (int page = 0; page < 6; page++) {
            told.append("page ").append(page).append(':');
            for (int place = 0; place < 8; place++) {
                told.append(' ').append(x.reads(page, place));
            }
            told.append('\n');
        }
        int moths = x.count(1);
        for (int moth = 0; moth < moths; moth++) {
            told.append("moth ").append(moth).append(':');
            for (int what = 0; what < 4; what++) {
                told.append(' ').append(x.of(moth, what));
            }
            told.append('\n');
        }
        told.append("spots:");
        for (int spot = 0; spot < 10; spot++) {
            told.append(' ').append(x.as(spot, 0));
        }
        told.append("\ncounts:");
        for (int what = 0; what < 8; what++) {
            told.append(' ').append(x.count(what));
        }
        told.append('\n');
    }

    private static void tellSheets(StringBuilder told, MothTongue x) {
        for (int s = 0; s < 4; s++) {
            told.append("sheet ").append(s).append(": size ").append(sizeOf(x, s)).append(" judge ").append(x.judge(s));
            for (int t = 0; t < s; t++) {
                told.append(" bits ").append(x.copy(s, 0, t, 0, 0));
            }
            told.append('\n');
        }
    }

    /** A run copied onto itself changes nothing, and is refused if the sheet hasn't so many. */
    static int sizeOf(MothTongue x, int s) {
        int least = 0;
        int most = 41;
        while (most - least > 1) {
            int half = (least + most) / 2;
            if (x.copy(s, 0, s, 0, half) == half) {
                least = half;
            } else {
                most = half;
            }
        }
        return least;
    }
}
