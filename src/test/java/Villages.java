/** Makes objects for the tests and tells how they stand. */
final class Villages {
    static final String FIRST = "p0,52,20;p1,50,9;p2,60,3;p3,49,30;p4,55,14;t1,0,2;t2,0,5;t3,0,8;t4,0,6;t0,1,7;"
        + "t3,1,3;t0,2,6;t1,2,9;t4,3,8;o4,0,10;o2,0,3;o3,4,8;";

    private Villages() {
    }

    /** A new object in which this text is laid; the text is wiped then. */
    static TrialFunerals laid(String text) {
        TrialFunerals x = new TrialFunerals();
        write(x, text);
        if (x.lay() < 1) throw new IllegalArgumentException("cannot be laid: " + text);
        x.wipe();
        return x;
    }

    static void write(TrialFunerals x, String text) {
        for (int k = 0; k < text.length(); k++) {
            x.write(text.charAt(k));
        }
    }

    /** All that can be read of one but chances: two of these are the same if nothing has changed. */
    static String look(TrialFunerals x) {
        StringBuilder seen = new StringBuilder();
        for (int what = 0; what <= 10; what++) {
            seen.append(x.count(what)).append(' ');
        }
        int persons = x.count(0);
        for (int i = 0; i < persons; i++) {
            for (int what = 0; what <= 5; what++) {
                seen.append(x.person(i, what)).append(' ');
            }
            seen.append(x.kinds(i)).append(' ');
            for (int j = 0; j < persons; j++) {
                if (i == j) continue;
                seen.append(x.tie(i, j)).append(' ').append(x.owes(i, j)).append(' ').append(x.felt(i, j)).append(' ');
            }
        }
        return seen.toString();
    }

    /** How it stands, but for what can be undone. */
    static String lookWithoutUndo(TrialFunerals x) {
        StringBuilder seen = new StringBuilder();
        int persons = x.count(0);
        for (int what = 1; what <= 6; what++) {
            seen.append(x.count(what)).append(' ');
        }
        for (int i = 0; i < persons; i++) {
            for (int what = 0; what <= 5; what++) {
                seen.append(x.person(i, what)).append(' ');
            }
            for (int j = 0; j < persons; j++) {
                if (i != j) seen.append(x.tie(i, j)).append(' ').append(x.owes(i, j)).append(' ');
            }
        }
        return seen.toString();
    }
}
