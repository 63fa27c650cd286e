/** What cell answers for all cells, as rows of characters, so that a test can show what is due. */
final class Picture {
    private Picture() {
    }

    private static final String GROUND = "#.>";
    private static final String FLAG = "-x";
    private static final String WHO = " @rob";
    private static final String THING = " 0123";

    static void due(Check check, String told, Desk desk, int what, String... rows) {
        String signs = what == 0 ? GROUND : what == 3 ? WHO : what == 4 ? THING : FLAG;
        check.due(told + ": rows", rows.length, 10);
        for (int y = 0; y < rows.length; y++) {
            check.due(told + ": length of row " + y, rows[y].length(), 12);
            for (int x = 0; x < rows[y].length(); x++) {
                check.due(told + ": cell(" + x + ", " + y + ", " + what + ")", desk.cell(x, y, what),
                    signs.indexOf(rows[y].charAt(x)));
            }
        }
    }

    /** All that is asked for of one state, to tell whether a call changed something. */
    static String whole(Desk desk) {
        StringBuilder all = new StringBuilder();
        all.append(desk.hash());
        for (int what = 0; what <= 10; what++) {
            all.append(' ').append(desk.count(what));
        }
        for (int what = 0; what <= 13; what++) {
            all.append(' ').append(desk.player(what));
        }
        for (int i = 0; i < 6; i++) {
            for (int what = 0; what <= 5; what++) {
                all.append(' ').append(desk.monster(i, what));
            }
        }
        for (int place = 0; place < 120; place++) {
            for (int what = 0; what <= 5; what++) {
                all.append(' ').append(desk.cell(place % 12, place / 12, what));
            }
        }
        for (int k = 0; k <= desk.count(1); k++) {
            all.append(' ').append(desk.recorded(k));
        }
        return all.toString();
    }
}
