/** The boundary cases of sheets, and of choices that come by them (promises 40 to 43). */
public final class EdgesSheetsTest {
    private static final Edge c = new Edge();

    public static void main(String[] args) {
        nothingAtFirst();
        sheetNumbers();
        sheetSize();
        sheetNewRow();
        dropBad();
        dropNull();
        itemBad();
        itemNull();
        itemCast();
        itemIndex();
        itemLowestBits();
        choicesBad();
        choicesKinds();
        choicesNull();
        choicesLane();
        choicesIndex();
        choicesNone();
        choicesNot();
        choicesFromPlaceNought();
        choicesOrder();
        c.end();
    }

    /** Thing 0 is an answer, 1 a lesson, 2 a lost one. */
    private static Run ready(Run r) {
        r.school(2, "a=1/50").tutors(1, 9).answered(0, 0, 0);
        r.lost(1, 0, 0);
        return r;
    }

    // ---- promises 40, 41

    private static void nothingAtFirst() {
        Run r = ready(c.edge(40, "sheets 0 .. 3: nothing (at first), or a row of a LANE: 0 bytes, 1 shorts, 2 ints, of 0 to 30 items"));
        for (int sheet = 0; sheet < 4; sheet++) {
            r.refused(Edge.NULL, "drop", sheet);
            for (int lane = 0; lane < 3; lane++) {
                r.refused(Edge.NULL, "item", sheet, lane, 0, 0).refused(Edge.NULL, "choices", 0, sheet, lane, 0, 0);
            }
        }
    }

    private static void sheetNumbers() {
        Run r = ready(c.edge(40, "sheets 0 .. 3: nothing (at first), or a row of a LANE: 0 bytes, 1 shorts, 2 ints, of 0 to 30 items"));
        r.goes(0, 0, 3, "sheet", 0, 0, 5).goes(1, 0, 2, "sheet", 3, 0, 5);
        r.due(0, "sheet", 0, 0, 0).due(30, "sheet", 3, 2, 30).due(1, "sheet", 1, 1, 1);
        r.goes(0, 0, 3, "sheet", 0, 0, 5).goes(1, 0, 2, "sheet", 3, 0, 5).due(0, "drop", 0).due(30, "drop", 3)
            .due(1, "drop", 1);
    }

    private static void sheetSize() {
        Run r = ready(c.edge(40, "A SHEET holds a new row of a LANE: n. BAD: also n above 30; SIZE: n below 0."));
        r.refused(Edge.BAD, "sheet", 0, 0, 31).refused(Edge.BAD, "sheet", 0, 0, Edge.MAX)
            .refused(Edge.SIZE, "sheet", 0, 0, -1);
        r.refused(Edge.SIZE, "sheet", 0, 0, Edge.MIN).due(30, "sheet", 0, 0, 30).due(1, "item", 0, 0, 29, 4);
        r.refused(Edge.SIZE, "sheet", 0, 0, -1).refused(Edge.SIZE, "sheet", 0, 2, Edge.MIN)
            .refused(Edge.BAD, "sheet", 0, 0, 31).refused(Edge.BAD, "sheet", 0, 1, 31);
        r.refused(Edge.BAD, "sheet", 4, 0, -1).refused(Edge.BAD, "sheet", 0, 3, -1)
            .refused(Edge.BAD, "sheet", -1, 0, -1).refused(Edge.BAD, "sheet", 0, -1, -1);
        r.due(0, "sheet", 0, 2, 0).due(0, "drop", 0);
    }

    private static void sheetNewRow() {
        Run r = ready(c.edge(40, "A SHEET holds a new row of a LANE: n."));
        r.due(20, "sheet", 0, 1, 20);
        for (int i = 0; i < 20; i++) {
            r.due(1, "item", 0, 1, i, 4);
        }
        r.due(20, "sheet", 0, 1, 20).due(20, "choices", 0, 0, 1, 0, 20).due(0, "choose", 0, 0, 0)
            .due(0, "choose", 0, 19, 0);
        r.due(1, "item", 0, 1, 0, 3).due(1, "sheet", 0, 2, 1).refused(Edge.CAST, "item", 0, 1, 0, 3)
            .refused(Edge.INDEX, "item", 0, 2, 1, 3);
        r.due(1, "choices", 0, 0, 2, 0, 1).due(0, "choose", 0, 0, 0).due(30, "sheet", 0, 2, 30)
            .due(1, "choices", 0, 0, 2, 29, 1).due(0, "choose", 0, 0, 0);
    }

    private static void dropBad() {
        Run r = ready(c.edge(41, "A SHEET holds nothing: how many items it had. BAD; NULL."));
        for (int sheet = 0; sheet < 4; sheet++) {
            r.due(10 * sheet, "sheet", sheet, sheet % 3, 10 * sheet);
        }
        r.goes(0, 0, 3, "drop", 0).due(30, "drop", 3).due(20, "drop", 2).due(10, "drop", 1).due(0, "drop", 0);
    }

    private static void dropNull() {
        Run r = ready(c.edge(41, "BAD; NULL."));
        r.refused(Edge.NULL, "drop", 0).due(0, "sheet", 0, 0, 0).due(0, "drop", 0).refused(Edge.NULL, "drop", 0);
        r.due(3, "sheet", 0, 2, 3).due(1, "item", 0, 2, 0, 4).due(3, "drop", 0).refused(Edge.NULL, "drop", 0)
            .refused(Edge.NULL, "item", 0, 2, 0, 4);
        r.refused(Edge.NULL, "choices", 0, 0, 2, 0, 1).due(3, "sheet", 0, 2, 3).due(1, "choices", 0, 0, 2, 0, 1)
            .due(0, "choose", 0, 0, 0);
    }

    // ---- promise 42

    private static void itemBad() {
        Run r = ready(c.edge(42, "BAD; NULL; CAST; INDEX."));
        r.due(2, "sheet", 0, 0, 2).due(2, "sheet", 3, 0, 2).goes(0, 0, 3, "item", 0, 0, 0, 1)
            .goes(1, 0, 2, "item", 3, 0, 0, 1);
        r.refused(Edge.BAD, "item", 4, 0, 2, 1).refused(Edge.BAD, "item", 1, 3, 0, 1)
            .refused(Edge.BAD, "item", 0, -1, 2, 1).refused(Edge.BAD, "item", 0, 3, 0, 1);
    }

    private static void itemNull() {
        Run r = ready(c.edge(42, "(NULL, CAST, INDEX, SIZE in this order, behind BAD)"));
        r.refused(Edge.NULL, "item", 0, 0, 0, 1).refused(Edge.NULL, "item", 0, 2, -1, 1).due(0, "sheet", 0, 1, 0);
        r.refused(Edge.CAST, "item", 0, 0, 0, 1).refused(Edge.CAST, "item", 0, 2, -1, 1)
            .refused(Edge.INDEX, "item", 0, 1, 0, 1);
    }

    private static void itemCast() {
        Run r = ready(c.edge(42, "of SHEETS a LANE"));
        for (int sheet = 0; sheet < 3; sheet++) {
            r.due(3, "sheet", sheet, sheet, 3);
        }
        for (int sheet = 0; sheet < 3; sheet++) {
            for (int lane = 0; lane < 3; lane++) {
                if (lane != sheet) {
                    r.refused(Edge.CAST, "item", sheet, lane, 0, 4).refused(Edge.CAST, "item", sheet, lane, 3, 4);
                }
            }
            r.due(1, "item", sheet, sheet, 0, 4);
        }
    }

    private static void itemIndex() {
        Run r = ready(c.edge(42, "Item i of a SHEET, taken as a row of a LANE"));
        r.due(0, "sheet", 0, 0, 0).due(1, "sheet", 1, 1, 1).due(30, "sheet", 2, 2, 30);
        r.refused(Edge.INDEX, "item", 0, 0, 0, 1).refused(Edge.INDEX, "item", 0, 0, -1, 1)
            .refused(Edge.INDEX, "item", 1, 1, 1, 1).due(1, "item", 1, 1, 0, 1);
        for (int i : new int[] {-1, 30, 31, Edge.MIN, Edge.MAX}) {
            r.refused(Edge.INDEX, "item", 2, 2, i, 1);
        }
        r.due(1, "item", 2, 2, 0, 3).due(1, "item", 2, 2, 29, 4).due(1, "choices", 0, 2, 2, 0, 1)
            .due(3, "choose", 0, 0, 0);
        r.due(1, "choices", 0, 2, 2, 29, 1).due(4, "choose", 0, 0, 0);
    }

    private static void itemLowestBits() {
        Run r = ready(c.edge(42, "becomes v, its lowest bits: 1"));
        int[] values = {0, 4, 5, -1, 127, 128, 255, 256, 260, 261, -252, 32767, 32768, 65535, 65536, 65540, 65541, -65532, Edge.MAX, Edge.MIN, Edge.MIN + 4};
        for (int lane = 0; lane < 3; lane++) {
            r.due(1, "sheet", lane, lane, 1);
            for (int v : values) {
                int kept = lane == 0 ? (byte) v : lane == 1 ? (short) v : v;
                boolean choice = kept >= 0 && kept <= 4;
                r.due(1, "item", lane, lane, 0, v).due(choice ? 1 : Edge.NOT, "choices", 0, lane, lane, 0, 1)
                    .due(choice ? kept : 0, "choose", 0, 0, 0);
            }
        }
    }

    // ---- promise 43

    private static void choicesBad() {
        Run r = ready(c.edge(43, "n choices (0 .. 20) of a SHEET, taken as a row of a LANE, from one on are those of an ANSWER from place 0 on: n."));
        for (int sheet = 0; sheet < 4; sheet++) {
            r.due(30, "sheet", sheet, 2, 30).due(1, "item", sheet, 2, 0, sheet + 1);
        }
        r.goes(0, 0, 2, "choices", 0, 0, 2, 0, 1).goes(1, 0, 3, "choices", 0, 0, 2, 0, 1)
            .goes(2, 0, 2, "choices", 0, 0, 2, 0, 1);
        r.goes(4, 0, 20, "choices", 0, 3, 2, 0, 1).due(20, "choices", 0, 3, 2, 0, 20).due(4, "choose", 0, 0, 4)
            .due(0, "choices", 0, 2, 2, 0, 0).due(4, "choose", 0, 0, 0);
        c.edge(43, "BAD; CAST (the THING); NULL; CAST; INDEX; NOT: one is no choice.").refused(Edge.BAD, "choices", 0, 0, 0, 0, 0);
    }

    private static void choicesKinds() {
        Run r = ready(c.edge(43, "CAST (the THING)"));
        r.due(20, "sheet", 0, 0, 20).due(1, "item", 0, 0, 19, 3);
        r.refused(Edge.CAST, "choices", 1, 0, 0, 0, 20).refused(Edge.CAST, "choices", 2, 0, 0, 0, 20);
        r.again(0, 0, 0, 0);
        r.marked(0, 0, 0, 0, 9);
        r.given(0, 0, 0, 0);
        for (int thing = 3; thing < 6; thing++) {
            r.due(20, "choices", thing, 0, 0, 0, 20).due(3, "choose", thing, 19, 0);
        }
    }

    private static void choicesNull() {
        Run r = ready(c.edge(43, "(NULL, CAST, INDEX, SIZE in this order, behind BAD)"));
        r.refused(Edge.NULL, "choices", 0, 0, 0, 0, 0).refused(Edge.NULL, "choices", 0, 0, 2, -1, 20)
            .refused(Edge.NULL, "choices", 0, 0, 0, Edge.MAX, 1);
        r.due(0, "sheet", 0, 1, 0).refused(Edge.CAST, "choices", 0, 0, 0, -1, 20)
            .refused(Edge.INDEX, "choices", 0, 0, 1, -1, 20);
    }

    private static void choicesLane() {
        Run r = ready(c.edge(43, "of SHEETS a LANE"));
        for (int sheet = 0; sheet < 3; sheet++) {
            r.due(5, "sheet", sheet, sheet, 5).due(1, "item", sheet, sheet, 0, 2);
            for (int lane = 0; lane < 3; lane++) {
                if (lane != sheet) {
                    r.refused(Edge.CAST, "choices", 0, sheet, lane, 0, 1)
                        .refused(Edge.CAST, "choices", 0, sheet, lane, 0, 0);
                }
            }
            r.due(1, "choices", 0, sheet, sheet, 0, 1).due(2, "choose", 0, 0, 0);
        }
    }

    private static void choicesIndex() {
        Run r = ready(c.edge(43, "INDEX -13"));
        r.due(22, "sheet", 0, 0, 22).due(0, "choose", 0, 0, 1);
        int[][] beyond = {{3, 20}, {22, 1}, {21, 2}, {-1, 1}, {-1, 20}, {-20, 20}, {Edge.MIN, 1}, {Edge.MAX, 1}, {Edge.MAX, 20}, {Edge.MIN, 20}};
        for (int[] b : beyond) {
            r.refused(Edge.INDEX, "choices", 0, 0, 0, b[0], b[1]);
        }
        r.due(20, "choices", 0, 0, 0, 2, 20).due(0, "choose", 0, 0, 0).due(20, "choices", 0, 0, 0, 0, 20)
            .due(1, "choices", 0, 0, 0, 21, 1);
    }

    private static void choicesNone() {
        Run r = ready(c.edge(43, "n choices (0 .. 20) of a SHEET"));
        r.due(0, "choose", 0, 0, 4).due(0, "sheet", 0, 0, 0).asked(0, "choices", 0, 0, 0, 0, 0)
            .refused(Edge.INDEX, "choices", 0, 0, 0, 0, 1);
        r.refused(Edge.INDEX, "choices", 0, 0, 0, 1, 0).refused(Edge.INDEX, "choices", 0, 0, 0, -1, 0);
        r.due(5, "sheet", 0, 0, 5).asked(0, "choices", 0, 0, 0, 0, 0).asked(0, "choices", 0, 0, 0, 5, 0)
            .refused(Edge.INDEX, "choices", 0, 0, 0, 6, 0);
    }

    private static void choicesNot() {
        Run r = ready(c.edge(43, "NOT: one is no choice"));
        r.due(22, "sheet", 0, 2, 22).due(1, "item", 0, 2, 0, -1).due(1, "item", 0, 2, 1, 4).due(1, "item", 0, 2, 2, 1)
            .due(1, "item", 0, 2, 21, 5);
        r.due(0, "choose", 0, 0, 3).refused(Edge.NOT, "choices", 0, 0, 2, 0, 1)
            .refused(Edge.NOT, "choices", 0, 0, 2, 0, 20).refused(Edge.NOT, "choices", 0, 0, 2, 2, 20);
        r.refused(Edge.NOT, "choices", 0, 0, 2, 21, 1).due(20, "choices", 0, 0, 2, 1, 20).due(4, "choose", 0, 0, 0)
            .due(1, "choose", 0, 1, 0);
        r.due(1, "item", 0, 2, 1, Edge.MIN).refused(Edge.NOT, "choices", 0, 0, 2, 1, 1)
            .due(1, "item", 0, 2, 1, Edge.MAX).refused(Edge.NOT, "choices", 0, 0, 2, 1, 1);
        r.due(1, "item", 0, 2, 1, 0).due(1, "choices", 0, 0, 2, 1, 1).due(0, "choose", 0, 0, 0);
    }

    private static void choicesFromPlaceNought() {
        Run r = ready(c.edge(43, "from one on are those of an ANSWER from place 0 on: n"));
        r.due(30, "sheet", 0, 1, 30);
        for (int i = 0; i < 30; i++) {
            r.due(1, "item", 0, 1, i, i % 5);
        }
        for (int at = 0; at < 20; at++) {
            r.due(0, "choose", 0, at, 4);
        }
        r.due(3, "choices", 0, 0, 1, 27, 3);
        int[] want = {2, 3, 4, 4, 4};
        for (int at = 0; at < 5; at++) {
            r.due(want[at], "choose", 0, at, want[at]);
        }
        r.due(20, "choices", 0, 0, 1, 10, 20);
        for (int at = 0; at < 20; at++) {
            r.due(at % 5, "choose", 0, at, 0);
        }
    }

    private static void choicesOrder() {
        Run r = ready(c.edge(43, "Refusals are answers, of several the first that a call names"));
        r.due(2, "sheet", 0, 2, 2).due(1, "item", 0, 2, 0, 9);
        r.refused(Edge.BAD, "choices", 1, 1, 0, -1, 21).refused(Edge.BAD, "choices", 2, 4, 0, 0, 1)
            .refused(Edge.BAD, "choices", 3, 0, 2, 0, 1);
        r.refused(Edge.CAST, "choices", 1, 1, 0, -1, 20).refused(Edge.NULL, "choices", 0, 1, 0, -1, 20)
            .refused(Edge.CAST, "choices", 0, 0, 0, -1, 20);
        r.refused(Edge.INDEX, "choices", 0, 0, 2, 0, 3).refused(Edge.NOT, "choices", 0, 0, 2, 0, 2)
            .due(1, "choices", 0, 0, 2, 1, 1);
    }
}
