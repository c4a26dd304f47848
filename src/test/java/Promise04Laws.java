/** The part of Promise04FaultTest that is about LAWS. */
final class Promise04Laws {
    private Promise04Laws() {
    }

    static void test(Check check) {
        clauses();
        signsOfSums();
        digits();
        conditions();
        behindTheColon();
        nesting();
        sideBySide();
        endsTooEarly();
        blanks();
    }

    private static void law(String text, int fault) {
        Promise04FaultTest.due(text, 1, fault);
    }

    /** "CLAUSES with ; between, one at least: y, :, perhaps CONDITION ?, then SUM" */
    private static void clauses() {
        law("", 0);
        law("y:v", -1);
        law("y:v;y:d", -1);
        law("y:v;", 4);
        law(";y:v", 0);
        law("y:v;;y:d", 4);
        law("v", 0);
        law("y", 1);
        law("y:", 2);
        law("y;", 1);
        law("y:;", 2);
        law(":v", 0);
        law("yv", 1);
        law("yy:v", 1);
        law("y::v", 2);
        law("Y:v", 0);
        law("y:v y:d", 4);
        law("d", 0);
        law("s;d", 0);
        for (char sign = 1; sign < 256; sign++) {
            if (sign != 'y' && sign != ' ') {
                law(sign + ":v", 0);
                law("y:v;" + sign, 4);
            }
            if (sign != ':' && sign != ' ') {
                law("y" + sign, 1);
            }
        }
    }

    /** "ATOM: a number, a letter (v d p m r n), [ SUM ]": no other sign begins one, and few stand behind one. */
    private static void signsOfSums() {
        for (char sign = 1; sign < 256; sign++) {
            if (sign == ' ') {
                continue;
            }
            boolean atom = "vdpmrn0123456789".indexOf(sign) >= 0;
            boolean opens = sign == '[';
            law("y:v+" + sign, atom ? -1 : opens ? 5 : 4);
            law("y:v*" + sign, atom ? -1 : opens ? 5 : 4);
            law("y:v=1?" + sign, atom ? -1 : opens ? 7 : 6);
            boolean joins = "+-*/=<>;".indexOf(sign) >= 0;
            law("y:v" + sign, joins ? 4 : 3);
            law("y:[v" + sign, "+-*/]".indexOf(sign) >= 0 ? sign == ']' ? -1 : 5 : 4);
            law("y:v=1" + sign, "+-*/&|?0123456789".indexOf(sign) >= 0 ? 6 : 5);
            law("y:v=1?2" + sign, "0123456789".indexOf(sign) >= 0 ? -1 : "+-*/;".indexOf(sign) >= 0 ? 8 : 7);
            boolean condition = atom || opens || sign == '(' || sign == '!';
            law("y:" + sign, atom ? -1 : condition ? 3 : 2);
            law("y:(" + sign, condition ? 4 : 3);
            law("y:!" + sign, condition ? 4 : 3);
        }
        law("y:v+-1", 4);
        law("y:-1", 2);
        law("y:+1", 2);
        law("y:v-d*p/m+r-n", -1);
        law("y:vd", 3);
        law("y:v5", 3);
        law("y:5v", 3);
        law("y:[v]d", 5);
        law("y:[v][d]", 5);
        law("y:[]", 3);
        law("y:[v=1]", 4);
        law("y:v]", 3);
    }

    /** "a number (1 to 4 digits)"; "a third digit (a fifth one in a LAW) itself, whatever stands ahead of it" */
    private static void digits() {
        law("y:0", -1);
        law("y:9", -1);
        law("y:000", -1);
        law("y:999", -1);
        law("y:0000", -1);
        law("y:9999", -1);
        law("y:00000", 6);
        law("y:00001", 6);
        law("y:10000", 6);
        law("y:99999", 6);
        law("y:123456", 6);
        law("y:1+00000", 8);
        law("y:[12345", 7);
        law("y:v=12345?1", 8);
        law("y:v=1234?12345", 13);
        law("y:1234 5", 7);
        law("y:12 34", 5);
        law("y: 12345", 7);
        law("y:1;y:12345", 10);
    }

    /** "TRUTHS with | between; UNITS with & between; UNIT: ! UNIT, ( CONDITION ), or SUM, one of = < >, SUM" */
    private static void conditions() {
        law("y:v=1?2", -1);
        law("y:v<1?2", -1);
        law("y:v>1?2", -1);
        law("y:v=1&d=2?2", -1);
        law("y:v=1|d=2?2", -1);
        law("y:v=1&d=2|p=3&m=4?2", -1);
        law("y:v<=1?2", 4);
        law("y:v>=1?2", 4);
        law("y:v==1?2", 4);
        law("y:v<>1?2", 4);
        law("y:v=1=1?2", 5);
        law("y:v<1<2?2", 5);
        law("y:v=1&?2", 6);
        law("y:v=1&&d=2?2", 6);
        law("y:v=1||d=2?2", 6);
        law("y:v=1&d?2", 7);
        law("y:v=1|d?2", 7);
        law("y:v=1&d", 7);
        law("y:v=1?", 6);
        law("y:v=1", 5);
        law("y:v=1;y:2", 5);
        law("y:v=1?2?3", 7);
        law("y:v=1?2=3", 7);
        law("y:v=1?2&3", 7);
        law("y:v=1??2", 6);
        law("y:=1?2", 2);
        law("y:v=?2", 4);
        law("y:?2", 2);
        law("y:v=(1)?2", 4);
        law("y:v=!1?2", 4);
        law("y:[v+1]=[d-2]?[3]", -1);
    }

    /** "A CLAUSE that goes on with ! or ( behind its : has a CONDITION." */
    private static void behindTheColon() {
        law("y:!v=1?2", -1);
        law("y:!v=1", 6);
        law("y:!v", 4);
        law("y:!v;", 4);
        law("y:!v?2", 4);
        law("y:(v=1)?2", -1);
        law("y:(v=1)", 7);
        law("y:(v=1);", 7);
        law("y:(v)", 4);
        law("y:(v)?2", 4);
        law("y:(v=1)+1?2", 7);
        law("y:(v=1)=1?2", 7);
        law("y:(v+1)*2=3?4", 6);
        law("y:()", 3);
        law("y:!()", 4);
        law("y:(!v=1)?2", -1);
        law("y:!(v=1)?2", -1);
        law("y:!(v=1)", 8);
        law("y:(v=1)&v=1", 11);
        law("y:(v=1)|(v=1)?2", -1);
        // Without them a SUM may end the CLAUSE, or a CONDITION may begin by it.
        law("y:v?2", 3);
        law("y:v&d=1?2", 3);
        law("y:v|d=1?2", 3);
        law("y:v)", 3);
        law("y:v+1*2", -1);
        law("y:v+1*2=3?4", -1);
    }

    /** "At most six of ( [ ! within one another"; "a seventh of ( [ !" is wrong at it: in all orders that can be. */
    private static void nesting() {
        for (int depth = 5; depth <= 8; depth++) {
            for (int brackets = 0; brackets <= depth; brackets++) {
                int units = depth - brackets;
                for (int kinds = 0; kinds < 1 << units; kinds++) {
                    String unit = nested(units, kinds, brackets);
                    law("y:" + unit + "?2", depth <= 6 ? -1 : 8);
                    if (kinds == (1 << units) - 1) {
                        law("y:v=1&" + unit + "|d=2?2", depth <= 6 ? -1 : 12);
                        law("y:v=1|" + unit + "&d=2?2", depth <= 6 ? -1 : 12);
                    }
                }
            }
            String sum = "[".repeat(depth) + "v" + "]".repeat(depth);
            law("y:" + sum, depth <= 6 ? -1 : 8);
            law("y:1+" + sum + "*2", depth <= 6 ? -1 : 10);
            law("y:v=" + sum + "?2", depth <= 6 ? -1 : 10);
            law("y:v=1?" + sum, depth <= 6 ? -1 : 12);
            law("y:1;y:" + sum, depth <= 6 ? -1 : 12);
            String behind = "[".repeat(depth - 1) + "v" + "]".repeat(depth - 1);
            law("y:!v=" + behind + "?2", depth <= 6 ? -1 : 10);
            law("y:(v=" + behind + ")?2", depth <= 6 ? -1 : 10);
            for (char sign : "+-*/".toCharArray()) {
                law("y:[v" + sign + behind + "]", depth <= 6 ? -1 : 10);
                law("y:v" + sign + sum, depth <= 6 ? -1 : 10);
                law("y:!v" + sign + behind + "=1?2", depth <= 6 ? -1 : 10);
            }
        }
    }

    /** ( and ! as the bits of kinds tell, then [ about the first SUM. */
    private static String nested(int units, int kinds, int brackets) {
        StringBuilder text = new StringBuilder();
        int closing = 0;
        for (int k = 0; k < units; k++) {
            boolean bracket = (kinds >> k & 1) != 0;
            text.append(bracket ? '(' : '!');
            closing += bracket ? 1 : 0;
        }
        text.append("[".repeat(brackets)).append('v').append("]".repeat(brackets)).append("=1");
        return text.append(")".repeat(closing)).toString();
    }

    /** What stands side by side is not within one another. */
    private static void sideBySide() {
        law("y:[v]+[v]+[v]+[v]+[v]+[v]+[v]", -1);
        law("y:[[[[[[v]]]]]]+[[[[[[v]]]]]]", -1);
        law("y:[[[[[[v]]]]]+[v]]", -1);
        law("y:[[[[[[v]]]]]+[[[[[v]]]]]]", -1);
        law("y:[[[[[[v]]]]]+[[[[[[v]]]]]]]", 20);
        law("y:!v=1&!v=1&!v=1&!v=1&!v=1&!v=1&!v=1?2", -1);
        law("y:(v=1)|(v=1)|(v=1)|(v=1)|(v=1)|(v=1)|(v=1)?2", -1);
        law("y:!!!!!!v=1&!!!!!!v=1?2", -1);
        law("y:!!!!!!v=1&!!!!!!!v=1?2", 18);
        law("y:!!!!!!v=1?[[[[[[v]]]]]]", -1);
        law("y:!!!!!v=1;y:!", 10);
        law("y:((((((v=1))))))&((((((v=1))))))?2", -1);
        law("y:((((((v=1)))))&!v=1)?2", -1);
        law("y:((((((v=1)))))&(((((!v=1))))))?2", 22);
        law("y:!(v=1&!(v=1|!(v=1|[1]=[2])))?2", 20);
        law("y:!(v=1&!(v=1|!(v=1)))?2", -1);
    }

    private static void endsTooEarly() {
        String whole = "y:!(v=1|d<[p+1]*2)&m>3?[r-n]/4;y:5";
        for (int n = 0; n < whole.length(); n++) {
            // Behind ? a full SUM is an end: [r-n] is one, and that by 4.
            boolean good = n == 28 || n == 30;
            law(whole.substring(0, n), good ? -1 : n);
            law(whole.substring(0, n) + " ", good ? -1 : n + 1);
        }
        law(whole, -1);
    }

    private static void blanks() {
        law(" y : ! ( v = 1 | d < [ p + 1 ] * 2 ) & m > 3 ? [ r - n ] / 4 ; y : 5 ", -1);
        law("y:1 2", 4);
        law("y:v d", 4);
        law("  ", 2);
        law("y  ", 3);
        for (char sign = 1; sign < 32; sign++) {
            law("y" + sign + ":v", 1);
            law("y:v" + sign, 3);
        }
    }
}
