import java.util.List;

/**
 * Runs of calls on new halls, each under the sentence of the document that it tests. Whenever a row is
 * refused, all that can be asked is asked before and after it, and a hall to which it happened is then
 * used on beside a twin to which it did not: both must answer alike.
 */
final class Runs {
    private final Checks checks;

    Runs(Checks checks) {
        this.checks = checks;
    }

    void run(String sentence, String... texts) {
        List<Row> rows = Row.read(texts);
        Caller hall = new Caller(List.of());
        for (int i = 0; i < rows.size(); i++) {
            Row row = rows.get(i);
            String where = sentence + " | row " + i + ", " + row;
            String got = hall.answer(row);
            boolean isAnswered = !got.startsWith(Row.THROWS);
            boolean isAnyDue = row.due().equals(Row.NO_EXCEPTION);
            checks.due(where, isAnyDue && isAnswered ? row.due() : got, row.due());
            if (row.isRefused()) {
                changesNothing(where, rows.subList(0, i), row);
            }
        }
    }

    private void changesNothing(String where, List<Row> ahead, Row refused) {
        Looks looks = new Looks(ahead);
        int room = Caller.MOST_CALLS - ahead.size() - 1;
        for (List<Row> questions : Looks.inParts(looks.questions(), room / 2)) {
            Caller hall = new Caller(ahead);
            String[] before = answers(hall, questions);
            hall.answer(refused);
            same(where + " changes", questions, answers(hall, questions), before);
        }
        for (List<Row> uses : Looks.inParts(looks.uses(), room)) {
            Caller twin = new Caller(ahead);
            Caller hall = new Caller(ahead);
            hall.answer(refused);
            same(where + " changes, seen by use,", uses, answers(hall, uses), answers(twin, uses));
        }
    }

    private static String[] answers(Caller hall, List<Row> rows) {
        String[] all = new String[rows.size()];
        for (int i = 0; i < all.length; i++) {
            all[i] = hall.answer(rows.get(i));
        }
        return all;
    }

    private void same(String what, List<Row> rows, String[] got, String[] due) {
        for (int i = 0; i < due.length; i++) {
            checks.due(what + " " + rows.get(i), got[i], due[i]);
        }
    }
}
