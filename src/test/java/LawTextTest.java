/** Promises 4 and 5 for LAWS, 9 and 10: which holds, and HEARD by it. */
public final class LawTextTest {
    private static final String[] FAULTS = {
        "", "0",
        "y", "1",
        "y:", "2",
        "y:v", "-1",
        " y : v ", "-1",
        "x:v", "0",
        "y;v", "1",
        "y:a", "2",
        "y:v;", "4",
        "y:v;y:d", "-1",
        "y:v;v", "4",
        "y:v;;", "4",
        "y:vd", "3",
        "y:v+", "4",
        "y:+v", "2",
        "y:-1", "2",
        "y:v+-1", "4",
        "y:v*/d", "4",
        "y:v-d*p/m+r-n", "-1",
        "y:1234", "-1",
        "y:0000", "-1",
        "y:12345", "6",
        "y:12 34", "5",
        "y:1?2", "3",
        "y:v=1", "5",
        "y:v=1;", "5",
        "y:v=1?", "6",
        "y:v=1?2", "-1",
        "y:v=1?2?", "7",
        "y:v=1?2=2", "7",
        "y:v=1=1?2", "5",
        "y:v<=1?2", "4",
        "y:v<1|d>2&m=3?r", "-1",
        "y:v|d>2?1", "3",
        "y:!v=1?2", "-1",
        "y:!!v=1?2", "-1",
        "y:!v?2", "4",
        "y:(v)", "4",
        "y:(v=1)?2", "-1",
        "y:(v=1)", "7",
        "y:(v=1)+1?2", "7",
        "y:(v=1|(d=2&!m=3))?2", "-1",
        "y:v=(1)?2", "4",
        "y:[v]", "-1",
        "y:[v=1]?2", "4",
        "y:[v+1]*2", "-1",
        "y:[v", "4",
        "y:[]", "3",
        "y:[v)", "4",
        "y:v=1&(?2", "7",
        "y:v=1?(2", "6",
        "y:v=1?!2", "6",
        "y:[[[[[[v]]]]]]", "-1",
        "y:[[[[[[[v]]]]]]]", "8",
        "y:!!!!!!v=1?2", "-1",
        "y:!!!!!!!v=1?2", "8",
        "y:!!!!!![v]=1?2", "8",
        "y:((((((v=1))))))?2", "-1",
        "y:(((((((v=1)))))))?2", "8",
        "y:(!(!([v]=1)))?2", "-1",
        "y:(!(!(![v]=1)))?2", "8",
        "y:(!(!([[v]]=1)))?2", "8",
        "y:!v=1&!v=1&!v=1&!v=1&!v=1&!v=1&!v=1?2", "-1",
        "y:[v]+[v]+[v]+[v]+[v]+[v]+[v]", "-1",
        "y:!v=[[[[[[1]]]]]]?2", "10",
        "y:v=1&v=[[[[[[1]]]]]]?2", "-1",
        "y:d\t", "3",
        "y:v=1&((((((v=1))))))?2", "-1",
        "y:v=1&(((((((v=1)))))))?2", "12",
        "y:v=1|((((((v=1))))))?2", "-1",
        "y:v=[[[[[[1]]]]]]?2", "-1",
        "y:v=[[[[[[[1]]]]]]]?2", "10",
        "y:v=1?[[[[[[1]]]]]]", "-1",
        "y:v=1?[[[[[[[1]]]]]]]", "12",
    };

    public static void main(String[] args) {
        Check check = new Check("LawTextTest");
        GallopDispatch x = new GallopDispatch();
        for (int k = 0; k < FAULTS.length; k += 2) {
            if (k % 100 == 0) {
                x = new GallopDispatch();
            }
            check.due("fault(1) of '" + FAULTS[k] + "'",
                Check.faultOf(x, FAULTS[k], 1), Integer.parseInt(FAULTS[k + 1]));
        }
        fourLaws(check);
        worths(check);
        longest(check);
        withoutLaw(check);
        check.end();
    }

    private static void fourLaws(Check check) {
        GallopDispatch x = new GallopDispatch();
        check.due("law(0) without laws", x.law(0), false);
        check.due("law(NONE)", x.law(-1), true);
        for (int k = 0; k < 4; k++) {
            check.due("law " + k, Check.tell(x, "y:" + (k + 1), 1), k);
            check.due("the tape is empty", x.count(3), 0);
            check.due("laws", x.count(2), k + 1);
            check.due("none holds by that", x.count(4), -1);
        }
        check.due("a fifth one", Check.tell(x, "y:5", 1), -1);
        check.due("its tape stays", x.count(3), 3);
        check.due("fault of a fifth one", x.fault(1), -1);
        Check.tell(x, "d", 0);
        check.due("law(4)", x.law(4), false);
        check.due("law(-2)", x.law(-2), false);
        check.due("law(2)", x.law(2), true);
        check.due("which holds", x.count(4), 2);
        check.due("law(2) again", x.law(2), true);
        check.due("heard by it", x.heard(0, 0), 3);
        check.due("law(4), refused", x.law(4), false);
        check.due("the same holds", x.count(4), 2);
        check.due("law(-1)", x.law(-1), true);
        check.due("none holds", x.count(4), -1);
        check.due("heard without: 5 - 0 - 1 + 0", x.heard(0, 5), 4);
    }

    /** The man stands at 6 with voice 7, rank 4; pace 3, mud 5; heard at 2: d is 4, n is 2. */
    private static void worth(Check check, String law, int due) {
        GallopDispatch x = Check.ride("sl10p3m5;dx6v7r4");
        Check.hold(x, law);
        check.due("heard by '" + law + "'", x.heard(0, 2), due);
    }

    private static void worths(Check check) {
        worth(check, "y:v", 7);
        worth(check, "y:d", 4);
        worth(check, "y:p", 3);
        worth(check, "y:m", 5);
        worth(check, "y:r", 4);
        worth(check, "y:n", 2);
        worth(check, "y:v+9", 9);
        worth(check, "y:v-8", 0);
        worth(check, "y:1+2*3", 7);
        worth(check, "y:[1+2]*3", 9);
        worth(check, "y:9-4-3", 2);
        worth(check, "y:9-[4-3]", 8);
        worth(check, "y:40/5/2", 4);
        worth(check, "y:8/3*2", 4);
        worth(check, "y:7/0", 0);
        worth(check, "y:5+7/[v-7]", 5);
        worth(check, "y:5+[1-4]/2", 4);
        worth(check, "y:9999*9999-9999*99", 9);
        worth(check, "y:9999*9999/9999/10-5", 5);
        worth(check, "y:[0-9999*9999]/9999/10+19", 9);
        worth(check, "y:[0-9999*9999]/9999/10+15", 5);
        worth(check, "y:[[9999*100+9999]-9998]/9900-93", 7);
        worth(check, "y:[0-9999*100-9999]/9900+107", 6);
        worth(check, "y:1000*1000+1-1000*1000", 0);
        worth(check, "y:1000*1000-1-999*1000-991", 8);
        worth(check, "y:0-1000*1000-1+1000*1000+5", 5);
        worth(check, "y:v=7?1;y:2", 1);
        worth(check, "y:v=6?1;y:2", 2);
        worth(check, "y:v<7?1;y:v>7?2;y:3", 3);
        worth(check, "y:v<8?1", 1);
        worth(check, "y:v>6?1", 1);
        worth(check, "y:v=6?1", 0);
        worth(check, "y:!v=7?1;y:2", 2);
        worth(check, "y:!!v=7?1;y:2", 1);
        worth(check, "y:v=7&d=4?1;y:2", 1);
        worth(check, "y:v=7&d=5?1;y:2", 2);
        worth(check, "y:v=7|d=5?1;y:2", 1);
        worth(check, "y:v=1&v=2|v=7?1;y:2", 1);
        worth(check, "y:v=7|v=1&v=2?1;y:2", 1);
        worth(check, "y:(v=7|v=1)&v=2?1;y:2", 2);
        worth(check, "y:!v=1&v=2?1;y:2", 2);
        worth(check, "y:!(v=1&v=2)?1;y:2", 1);
        worth(check, "y:3;y:4", 3);
        worth(check, " y : v + 1 > 07 ? 06 ", 6);
    }

    private static void longest(Check check) {
        StringBuilder law = new StringBuilder();
        for (int k = 0; k < 59; k++) {
            law.append("y:8;");
        }
        law.append("y:8 ");
        GallopDispatch x = Check.ride("d");
        Check.hold(x, law.toString());
        check.due("sixty clauses, the first counts", x.heard(0, 0), 8);
        law.setLength(0);
        law.append("y:5");
        for (int k = 0; k < 59; k++) {
            law.append("+1-1");
        }
        law.append(' ');
        check.due("bytes of the law", law.length(), 240);
        Check.hold(x, law.toString());
        check.due("a long sum", x.heard(0, 0), 5);
        law.setCharAt(239, '?');
        check.due("its last byte wrong", Check.faultOf(x, law.toString(), 1), 239);
    }

    private static void withoutLaw(Check check) {
        GallopDispatch x = Check.ride("sl20p5;dx10v9r9;dx10v0r0;dx0v9r8;fx11d1;fx12d0");
        check.due("9 - 0 - 2 + 3, held", x.heard(0, 10), 9);
        check.due("9 - 2 - 2 + 3", x.heard(0, 8), 8);
        check.due("a ford", x.heard(0, 11), 0);
        check.due("a ford of no depth", x.heard(0, 12), 8);
        check.due("below 0, held", x.heard(1, 10), 0);
        check.due("9 - 4 - 2 + 2", x.heard(2, 4), 5);
        check.due("no such man", x.heard(3, 0), -1);
        check.due("no such man", x.heard(-1, 0), -1);
        check.due("no such step", x.heard(0, 21), -1);
        check.due("no such step", x.heard(0, -1), -1);
        check.due("the last step", x.heard(0, 20), 0);
    }
}
