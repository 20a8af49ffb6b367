/** Promises 59 to 61: the output. */
public final class OutputTest {
    public static void main(String[] args) {
        records();
        faces();
        bytes();
        Check.finish("OutputTest");
    }

    private static void isWritten(String what, String due, DiceAudit x) {
        Check.is(what + ", length", due.length(), x::writeRecords);
        Check.same(what, due, Check.output(x, due.length()));
        Check.noElement("promise 61: behind " + what, () -> x.outputByte(due.length()));
    }

    private static void records() {
        DiceAudit x = new DiceAudit();
        isWritten("promise 59: the first state", "ann:41! bob:31! cid:2", x);
        x.forgive(0);
        isWritten("promise 59: forgiven", "ann:41 bob:31! cid:2", x);
        isWritten("promise 59: by name, without those who have not thrown", "a:10 ab:100! b:2 zz:1000!",
            Check.loaded("hall 1 50 0;die 0 1;die 0 0 0 0 0 0 0 0 0 1;player zz;player ab;player b;player c;player a;"
                + "throw zz 1 50;throw zz 1 50;throw a 0 5;throw ab 0 50;throw b 0 1;audit;"));
        isWritten("promise 59: no throws", "", Check.loaded(Check.HALL + "player a;"));
        isWritten("promise 59: no players", "", Check.loaded(Check.HALL));
        isWritten("promise 59: the longest total", "abcd:3600!", Check.loaded("hall 1 1 0;die 0 0 0 0 0 0 0 0 0 0 0 9;"
            + "player abcd;" + "throw abcd 0 50;".repeat(6) + "audit;"));
    }

    private static void faces() {
        DiceAudit x = new DiceAudit();
        String[] due = {"6,6,6,5,4,4,4,2,4", "4,4,4,3,4,4,4,4", "1,1"};
        for (int i = 0; i < due.length; i++) {
            int player = i;
            Check.is("promise 60: player " + i, due[i].length(), () -> x.writeFaces(player));
            Check.same("promise 60: player " + i, due[i], Check.output(x, due[i].length()));
            Check.noElement("promise 61: behind the faces", () -> x.outputByte(due[player].length()));
        }
        for (int no : new int[] {-1, 3, 6, Integer.MIN_VALUE, Integer.MAX_VALUE}) {
            Check.noIndex("promise 60: player " + no, () -> x.writeFaces(no));
        }
        Check.same("promise 60: a refused call leaves the output", "1,1", Check.output(x, 3));
        DiceAudit y = Check.loaded(Check.HALL + "die 0 0 0 0 0 0 0 0 0 0 0 9;player a;player b;" + "throw a 0 50;".repeat(6));
        Check.is("promise 60: the longest output", 899, () -> y.writeFaces(0));
        Check.same("promise 60: three hundred times 12", "12,".repeat(299) + "12", Check.output(y, 899));
        Check.is("promise 60: no throws", 0, () -> y.writeFaces(1));
        Check.noElement("promise 60: the previous output is gone", () -> y.outputByte(0));
    }

    private static void bytes() {
        DiceAudit x = new DiceAudit();
        for (int no : new int[] {0, -1, Integer.MIN_VALUE, Integer.MAX_VALUE}) {
            Check.noElement("promise 61: an empty output, " + no, () -> x.outputByte(no));
        }
        x.writeFaces(2);
        Check.is("promise 61: the first byte", '1', () -> x.outputByte(0));
        Check.is("promise 61: the comma", ',', () -> x.outputByte(1));
        Check.noElement("promise 61: -1", () -> x.outputByte(-1));
        Check.noElement("promise 61: 3", () -> x.outputByte(3));
        Check.noElement("promise 61: far behind", () -> x.outputByte(Integer.MAX_VALUE));
        x.throwDie(2, 0, 3);
        Check.load(x, Check.HALL);
        x.undo();
        Check.is("promise 61: the output is no part of the state", ',', () -> x.outputByte(1));
        Check.noElement("promise 61: nor is its length", () -> x.outputByte(3));
    }
}
