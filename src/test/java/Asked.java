/** What an object answers, as text: two that were told the same must answer the same. */
final class Asked {
    private final StringBuilder text = new StringBuilder();

    /** Every question, with each index that has an answer and the first one that has none. */
    static String all(PatternColumns x) {
        Asked asked = new Asked();
        asked.note("column()", x::column);
        asked.note("bound()", x::bound);
        for (int i = 0; i < 6; i++) {
            int order = i;
            asked.note("columnOf(" + i + ")", () -> x.columnOf(order));
        }
        asked.design(x);
        asked.kept(x);
        return asked.text.toString();
    }

    /**
     * Calls that tell something more: they bring out what can't be asked (the sheets' width, how
     * many orders there are, their widths, numbers and prices).
     */
    static String later(PatternColumns x) {
        Asked asked = new Asked();
        asked.note("order(2, 2)", () -> x.order(2, 2));
        asked.note("design(200)", () -> x.design(200));
        asked.design(x);
        asked.note("keep(0, 55)", () -> x.keep(0, 55));
        asked.note("kept(0, 6)", () -> x.kept(0, 6));
        asked.note("price(0, 1000)", () -> {
            x.price(0, 1000);
            return 0;
        });
        asked.note("column()", x::column);
        asked.note("bound()", x::bound);
        x.sheet(1000);
        asked.note("column() of all", x::column);
        asked.note("design(200) of wide sheets", () -> x.design(200));
        asked.design(x);
        return asked.text.toString();
    }

    private void design(PatternColumns x) {
        note("designed(0)", () -> x.designed(0));
        note("designed(1)", () -> x.designed(1));
        note("gap()", x::gap);
        for (int k = 0; k <= 30; k++) {
            int sheet = k;
            if (!note("over(" + k + ")", () -> x.over(sheet))) {
                break;
            }
            for (int i = 0; i < 5; i++) {
                int order = i;
                note("cut(" + k + ", " + i + ")", () -> x.cut(sheet, order));
            }
        }
    }

    private void kept(PatternColumns x) {
        int count = 0;
        while (count <= 40 && keptOne(x, count)) {
            count++;
        }
        for (int i = 0; i <= count; i++) {
            int at = i;
            note("fitting(" + i + ")", () -> x.fitting(at));
        }
    }

    private boolean keptOne(PatternColumns x, int i) {
        for (int what = 0; what < 7; what++) {
            int asked = what;
            if (!note("kept(" + i + ", " + what + ")", () -> x.kept(i, asked))) {
                return false;
            }
        }
        return true;
    }

    /** Notes an answer; false: the call threw. */
    private boolean note(String call, Check.Ask ask) {
        String answer = Check.answer(ask);
        text.append(call).append(' ').append(answer).append("; ");
        return !answer.startsWith("throws");
    }

    private Asked() {
    }
}
