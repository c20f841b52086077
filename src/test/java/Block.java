import java.nio.ByteBuffer;

/** A block's 256 bytes, as the document has them: what the file should have, or what a test puts there. */
final class Block {
  private final byte[] bytes = new byte[256];

  Block(int writer, int number, long time, int... events) {
    ByteBuffer block = ByteBuffer.wrap(bytes);
    block.put((byte) 90).put((byte) writer).putShort((short) number).putLong(time).putShort((short) events.length);
    for (int b : events) {
      block.put((byte) b);
    }
    mend();
  }

  private Block(Block from) {
    System.arraycopy(from.bytes, 0, bytes, 0, 256);
  }

  private void mend() {
    int sum = 0;
    for (int k = 0; k < 252; k++) {
      sum = sum * 31 + (bytes[k] & 255);
    }
    ByteBuffer.wrap(bytes).putInt(252, sum);
  }

  int at(int place) {
    return bytes[place] & 255;
  }

  /** The same block with other bytes from a place on, and the sum that it has before. */
  Block spoiled(int place, int... values) {
    Block other = new Block(this);
    for (int k = 0; k < values.length; k++) {
      other.bytes[place + k] = (byte) values[k];
    }
    return other;
  }

  /** The same block with other bytes from a place on, and a sum that is right for them. */
  Block with(int place, int... values) {
    Block other = spoiled(place, values);
    other.mend();
    return other;
  }

  /** Damages the file's block so that it becomes another one, with as few calls as can be. */
  void becomes(Block other, Counted log, int block) {
    for (int k = 0; k < 256; k++) {
      if (bytes[k] != other.bytes[k]) {
        log.damage(256 * block + k, other.bytes[k]);
      }
    }
  }

  void isInFile(String what, Counted log, int block) {
    StringBuilder due = new StringBuilder();
    for (int k = 0; k < 256; k++) {
      due.append(k == 0 ? "" : " ").append(at(k));
    }
    Check.due(what, Check.bytes(log, 256 * block, 256), due.toString());
  }
}
