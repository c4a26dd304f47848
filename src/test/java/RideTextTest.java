/** Promises 4 and 5 for RIDES, and 6, 7, 8: what was told. */
public final class RideTextTest {
    private static final String[] FAULTS = {
        "", "0",
        "   ", "3",
        "d", "-1",
        " d ", "-1",
        "s", "1",
        "f", "1",
        "s;d", "-1",
        "d;s", "-1",
        "d;", "2",
        "d; ", "3",
        ";d", "0",
        "d;;d", "2",
        "dd", "1",
        "D", "0",
        "q", "0",
        "d,", "1",
        "dx", "2",
        "dx ", "3",
        "dx;", "2",
        "dxv", "2",
        "dx5v5e5r5", "-1",
        "dr0e0v0x0", "-1",
        "dx9v9e9r9", "-1",
        "dx1x2", "3",
        "dv1x1v1", "5",
        "d;d;d;d;d;d", "-1",
        "d;d;d;d;d;d;d", "12",
        "d;fx0;fx1;fx2;fx3;fx4", "-1",
        "d;fx0;fx1;fx2;fx3;fx4;f", "22",
        "s;s", "2",
        "s;d;s", "4",
        "sl4", "2",
        "sl5;d", "-1",
        "sl30;d", "-1",
        "sl31;d", "3",
        "sl3", "2",
        "sl05;d", "-1",
        "sl04", "3",
        "sl300", "4",
        "sl999", "4",
        "sl3 0", "2",
        "dx005", "4",
        "dx0005", "4",
        "sl5 0", "4",
        "s l 30 ;d", "-1",
        "sp0", "2",
        "sp1;d", "-1",
        "sp5;d", "-1",
        "sp6", "2",
        "sw0", "2",
        "sw1;d", "-1",
        "sw20;d", "-1",
        "sw21", "3",
        "sm9;d", "-1",
        "sm10", "3",
        "sc99;d", "-1",
        "sc100", "4",
        "sx1", "1",
        "sv1", "1",
        "dl5", "1",
        "dx31", "3",
        "dx30", "4",
        "sl30;dx30", "-1",
        "dx30;sl30", "-1",
        "dx21", "4",
        "dx20", "-1",
        "dv10", "3",
        "de10", "3",
        "dr10", "3",
        "fx31", "3",
        "d;fd10", "5",
        "d;fd9", "-1",
        "d;fv1", "3",
        "d;fx21", "6",
        "d;fx20", "-1",
        "sl9;d;f", "7",
        "sl10;d;f", "-1",
        "d;f;f", "5",
        "d;f;fx10", "8",
        "d;f;fx11", "-1",
        "d;fx1d0;fx1d0", "13",
        "d\tx1", "1",
        "d x 1 2", "6",
        "sl5;dx6;q", "8",
    };

    public static void main(String[] args) {
        Check check = new Check("RideTextTest");
        GallopDispatch x = new GallopDispatch();
        for (int k = 0; k < FAULTS.length; k += 2) {
            if (k % 100 == 0) {
                x = new GallopDispatch();
            }
            check.due("fault(0) of '" + FAULTS[k] + "'",
                Check.faultOf(x, FAULTS[k], 0), Integer.parseInt(FAULTS[k + 1]));
        }
        check.due("fault(2)", x.fault(2), -2);
        check.due("fault(-1)", x.fault(-1), -2);
        usual(check);
        told(check);
        refused(check);
        another(check);
        check.end();
    }

    private static void manIs(Check check, GallopDispatch x, int man, int... due) {
        for (int what = 0; what < due.length; what++) {
            check.due("man(" + man + ", " + what + ")", x.man(man, what), due[what]);
        }
    }

    private static void rulesAre(Check check, GallopDispatch x, int... due) {
        for (int what = 0; what < due.length; what++) {
            check.due("rule(" + what + ")", x.rule(what), due[what]);
        }
    }

    private static void usual(Check check) {
        GallopDispatch x = Check.ride("d;f");
        rulesAre(check, x, 20, 2, 8, 2, 30, -1);
        check.due("rule(-1)", x.rule(-1), -1);
        manIs(check, x, 0, 5, 5, 3, 1, 0);
        check.due("ford(0, 0)", x.ford(0, 0), 10);
        check.due("ford(0, 1)", x.ford(0, 1), 3);
    }

    private static void told(Check check) {
        GallopDispatch x = Check.ride("fx3d7;dx1v2e3r4;sc5m6w7p4l17;d;fx17d0;dr9e8v7x16");
        rulesAre(check, x, 17, 4, 7, 6, 5, -1);
        manIs(check, x, 0, 1, 2, 3, 4, 0);
        manIs(check, x, 1, 5, 5, 3, 1, 0);
        manIs(check, x, 2, 16, 7, 8, 9, 0);
        check.due("ford(0, 0)", x.ford(0, 0), 3);
        check.due("ford(0, 1)", x.ford(0, 1), 7);
        check.due("ford(1, 0)", x.ford(1, 0), 17);
        check.due("ford(1, 1)", x.ford(1, 1), 0);
        check.due("ford(2, 0)", x.ford(2, 0), -1);
        check.due("ford(-1, 0)", x.ford(-1, 0), -1);
        check.due("ford(0, 2)", x.ford(0, 2), -1);
        check.due("ford(0, -1)", x.ford(0, -1), -1);
        check.dueNoSuchElement("man(3, 0)", x, 3, 0);
        check.dueNoSuchElement("man(-1, 0)", x, -1, 0);
        check.dueNoSuchElement("man(0, 5)", x, 0, 5);
        check.dueNoSuchElement("man(0, -1)", x, 0, -1);
        check.due("men", x.count(0), 3);
        check.due("fords", x.count(1), 2);
    }

    private static void refused(Check check) {
        GallopDispatch x = Check.ride("dx7");
        Check.feed(x, "d;s;s");
        check.due("text(0) with a fault", x.text(0), -1);
        check.due("the tape is as it was", x.count(3), 5);
        check.due("the ride is as it was", x.man(0, 0), 7);
        check.due("text(2)", x.text(2), -1);
        check.due("text(-1)", x.text(-1), -1);
        x.end(3);
        check.due("without the second s", x.text(0), 1);
        check.due("the new ride", x.man(0, 0), 5);
    }

    private static void another(Check check) {
        GallopDispatch x = Check.ride("sc9;dx7;d;fx1;fx2");
        Check.hold(x, "y:7");
        x.storm(4);
        x.move(9, 9);
        x.days(3);
        x.image();
        x.seen(0, 0, true);
        check.due("a second ride", Check.tell(x, "d", 0), 1);
        check.due("men", x.count(0), 1);
        check.due("fords", x.count(1), 0);
        check.due("ford(0, 0)", x.ford(0, 0), -1);
        check.due("laws stay", x.count(2), 1);
        check.due("the law still holds", x.count(4), 0);
        check.due("heard by it", x.heard(0, 20), 7);
        check.due("day", x.count(5), 0);
        check.due("glory", x.count(6), 0);
        check.due("storm stays", x.count(7), 4);
        check.due("seen is gone", x.count(8), 0);
        check.due("the log is gone", x.count(9), 0);
        check.due("log(0, 0)", x.log(0, 0), -1);
        check.due("acts are gone", x.count(10), 0);
        check.due("undo", x.undo(), -1);
        check.due("the image is gone", x.back(), -1);
        check.due("status stays", x.status(0), 1);
        check.due("coins", x.rule(4), 30);
    }
}
