import java.io.ByteArrayOutputStream;

/** Bytes put together number by number, the highest byte first. */
final class Data {
    private final ByteArrayOutputStream bytes = new ByteArrayOutputStream();

    Data u8(int... values) {
        for (int value : values) {
            bytes.write(value);
        }
        return this;
    }

    Data u16(int... values) {
        for (int value : values) {
            u8(value >> 8, value);
        }
        return this;
    }

    Data u32(long... values) {
        for (long value : values) {
            u16((int) (value >> 16), (int) value);
        }
        return this;
    }

    Data zeros(int many) {
        for (int k = 0; k < many; k++) {
            u8(0);
        }
        return this;
    }

    Data all(byte[] more) {
        bytes.write(more, 0, more.length);
        return this;
    }

    int size() {
        return bytes.size();
    }

    byte[] done() {
        return bytes.toByteArray();
    }
}
