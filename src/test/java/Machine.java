/**
 * A DiskMachine that counts its calls. Behind the 512th call the document leaves every answer free,
 * so a test that goes on would prove nothing: this one stops it.
 */
final class Machine {
    static final int MOST_CALLS = 512;

    private final DiskMachine inside = new DiskMachine();
    private int calls = 0;

    int write(int address, int v) {
        return counted().write(address, v);
    }

    int read(int address) {
        return counted().read(address);
    }

    int writeDisk(int address, int v) {
        return counted().writeDisk(address, v);
    }

    int readDisk(int address) {
        return counted().readDisk(address);
    }

    int register(int k) {
        return counted().register(k);
    }

    void put(int k, int v) {
        counted().put(k, v);
    }

    int type(int b) {
        return counted().type(b);
    }

    int written() {
        return counted().written();
    }

    int text(int i) {
        return counted().text(i);
    }

    void want(int n) {
        counted().want(n);
    }

    int step(int n) {
        return counted().step(n);
    }

    long cycles() {
        return counted().cycles();
    }

    int told(int what) {
        return counted().told(what);
    }

    int sum() {
        return counted().sum();
    }

    boolean hasCallsLeft(int wish) {
        return calls + wish <= MOST_CALLS;
    }

    private DiskMachine counted() {
        calls++;
        if (calls > MOST_CALLS) {
            throw new IllegalStateException("this test makes more than 512 calls of one object");
        }
        return inside;
    }
}
