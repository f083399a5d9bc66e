/** The calls of the face by their names, so that a test can keep calls as data. */
interface Face {
    /** Far above what any run of a test issues or has on a belt: a wrong machine must not hang a test. */
    int MOST = 1000;

    /** A boolean answer counts 1 or 0; a call without an answer counts 0. */
    int call(String name, int... a);

    static Face of(BottleReturn x) {
        return (name, a) -> switch (name) {
            case "contour" -> contour(x, a);
            case "kind" -> x.kind(a[0], a[1], a[2], a[3], a[4], a[5], a[6]);
            case "enter" -> x.enter(a[0]);
            case "code" -> asNumber(x.code(a[0]));
            case "width" -> asNumber(x.width(a[0]));
            case "weigh" -> asNumber(x.weigh(a[0]));
            case "forward" -> x.forward(a[0]);
            case "back" -> x.back(a[0]);
            case "voucher" -> x.voucher();
            case "give" -> x.give();
            case "redeem" -> x.redeem(a[0]);
            case "clear" -> x.clear();
            case "empty" -> x.empty(a[0], a[1]);
            case "service" -> asNumber(x.service());
            case "cut" -> cut(x, a);
            case "power" -> x.power();
            case "check" -> asNumber(x.check(a[0], a[1]));
            case "about" -> x.about(a[0], a[1]);
            case "container" -> x.container(a[0], a[1]);
            case "belt" -> x.belt(a[0]);
            case "bin" -> x.bin(a[0], a[1]);
            case "total" -> x.total(a[0]);
            default -> throw new AssertionError(name);
        };
    }

    /** The answer as a text, or which of the two exceptions came; any other one ends the test. */
    static String answer(Face face, String name, int... a) {
        try {
            return Integer.toString(face.call(name, a));
        } catch (IllegalStateException e) {
            return "IllegalStateException";
        } catch (IllegalArgumentException e) {
            return "IllegalArgumentException";
        }
    }

    /** All that a machine tells of itself without being changed by it. */
    static String snapshot(Face face) {
        StringBuilder all = new StringBuilder();
        for (int what = 0; what <= 20; what++) {
            all.append(face.call("total", what)).append(' ');
        }
        for (int bin = 0; bin < 3; bin++) {
            all.append("bin ").append(face.call("bin", bin, 0)).append('/');
            all.append(face.call("bin", bin, 1)).append(' ');
        }
        for (int i = 0; i < MOST && face.call("belt", i) != BottleReturn.NONE; i++) {
            int number = face.call("belt", i);
            all.append("container ").append(number);
            for (int what = 0; what <= 6; what++) {
                all.append(' ').append(face.call("container", number, what));
            }
            all.append(' ');
        }
        return all.append(vouchers(face)).toString();
    }

    private static String vouchers(Face face) {
        StringBuilder all = new StringBuilder();
        int left = face.call("total", 14);
        for (int serial = 1; left > 0 && serial <= MOST; serial++) {
            if (answer(face, "about", serial, 0).equals("IllegalArgumentException")) {
                continue;
            }
            left--;
            all.append("voucher ").append(serial);
            for (int what = 0; what <= 3; what++) {
                all.append(' ').append(face.call("about", serial, what));
            }
            all.append(' ');
        }
        return all.toString();
    }

    private static int contour(BottleReturn x, int[] a) {
        x.contour(a[0], a[1], a[2], a[3]);
        return 0;
    }

    private static int cut(BottleReturn x, int[] a) {
        x.cut(a[0]);
        return 0;
    }

    private static int asNumber(boolean answer) {
        return answer ? 1 : 0;
    }
}
