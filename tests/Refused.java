import java.util.List;

/** Calls that answer a finding: it is the one that is due, counted once, and nothing else changes. */
final class Refused {
  private Refused() {}

  /** Each row goes on a hen of its own, beside which another one is made just so, without that call. */
  static void on(String where, List<String> setup, String... rows) {
    for (String row : rows) {
      String call = where + ": " + Rows.callOf(row);
      int due = Rows.answerOf(row);
      FedHen x = Rows.make(setup);
      Check.due(call, Rows.ask(x, Rows.callOf(row)), due);
      FedHen twin = Rows.make(setup);
      for (int which = -1; which <= 6; which++) {
        int more = which == -1 || which == Check.BEYOND - due ? 1 : 0;
        Check.due(call + ", then status(" + which + ")", x.status(which), twin.status(which) + more);
      }
      same(call, Told.of(x), Told.of(twin));
    }
  }

  static void same(String where, List<String> got, List<String> due) {
    Check.due(where + ", then answers", got.size(), due.size());
    for (int i = 0; i < Math.min(got.size(), due.size()); i++) {
      if (!got.get(i).equals(due.get(i))) {
        Check.due(where + ", then '" + got.get(i) + "', due is '" + due.get(i) + "', same", 0, 1);
        return;
      }
    }
  }
}
