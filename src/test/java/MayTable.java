/** Which kind MAY be passed as which, written out for the kinds 0 to 21: 20 a CLASS under O, 21 one under E. */
final class MayTable {
    static final int KINDS = 22;

    /** Row a, column b: 'y' MAY, 'f' only by forcing, 'e' only as RESULTS, '-' not. */
    private static final String[] ROWS = {
        //VZBSCIJONzbscijRRRHExx
        "eeeeeeeeeeeeeeeeeeeeee", // V
        "eyfffffy-y------------", // Z
        "efyyfyyyy-y-----------", // B
        "effyfyyyy--y----------", // S
        "efffyyyy----y---------", // C
        "effffyyyy----y--------", // I
        "efffffyyy-----y-------", // J
        "eyyyyyyyyyyyyyyyyyyyyy", // O
        "efyyfyyyyyyyyyyyyyyyyy", // N
        "eyfffffyyyyyyyyyyyyyyy", // the BOX of Z
        "efyyfyyyyyyyyyyyyyyyyy", // of B
        "effyfyyyyyyyyyyyyyyyyy", // of S
        "efffyyyyyyyyyyyyyyyyyy", // of C
        "effffyyyyyyyyyyyyyyyyy", // of I
        "efffffyyyyyyyyyyyyyyyy", // of J
        "e------yyyyyyyyyyyyyyy", // ROW of I
        "e------yyyyyyyyyyyyyyy", // ROW of J
        "e------yyyyyyyyyyyyyyy", // ROW of O
        "e------yyyyyyyyyyyyyyy", // H
        "e------yyyyyyyyyyyyyyy", // E
        "e------yyyyyyyyyyyyyyy", // CLASS under O
        "e------yyyyyyyyyyyyyyy", // CLASS under E
    };

    private MayTable() {
    }

    static Calls calls(Due due) {
        return new Calls(due).withClasses(7, 19);
    }

    static boolean may(int a, int b, boolean forced, boolean end) {
        char mark = ROWS[a].charAt(b);
        return mark == 'y' || mark == 'f' && forced || mark == 'e' && end;
    }
}
