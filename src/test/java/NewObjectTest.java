/** Promise 1: a new object. */
public final class NewObjectTest {
    public static void main(String[] args) {
        CubicBench bench = new CubicBench();
        if (bench.counted(0) != 0 || bench.counted(1) != 0 || bench.counted(2) != 0 || bench.octet(0) != -1) {
            System.out.println("a new object is not empty");
            System.exit(1);
        }
    }
}
