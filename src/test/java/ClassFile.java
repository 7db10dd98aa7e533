import java.io.DataInputStream;
import java.io.IOException;
import java.io.InputStream;
import java.util.ArrayList;
import java.util.LinkedHashMap;
import java.util.List;
import java.util.Map;
import java.util.Set;
import java.util.TreeSet;

/** What a class file tells: who calls whom, what is caught, which lines a method has, which texts it holds. */
final class ClassFile {
  /** How many bytes each instruction takes; 0 for the three whose length depends on what follows. */
  private static final String LENGTHS = "1111111111111111" + "2323322222" + "1".repeat(28) + "22222" + "1".repeat(73)
      + "3" + "1".repeat(20) + "3".repeat(16) + "2" + "00" + "111111" + "3333333" + "55" + "323" + "11" + "33" + "11"
      + "0" + "4" + "33" + "55";

  final Map<String, Set<String>> calls = new LinkedHashMap<>();
  final Map<String, Integer> lines = new LinkedHashMap<>();
  final Set<String> caught = new TreeSet<>();
  final List<String> texts = new ArrayList<>();
  boolean isDynamic = false;

  private final Object[] pool;
  private final int[] kinds;

  ClassFile(InputStream stream) throws IOException {
    DataInputStream in = new DataInputStream(stream);
    in.readInt();
    in.readInt();
    pool = new Object[in.readUnsignedShort()];
    kinds = new int[pool.length];
    readPool(in);
    in.readUnsignedShort();
    String name = name(in.readUnsignedShort());
    in.readUnsignedShort();
    for (int left = in.readUnsignedShort(); left > 0; left--) {
      in.readUnsignedShort();
    }
    readMembers(in, name);
    readMembers(in, name);
  }

  private void readPool(DataInputStream in) throws IOException {
    for (int i = 1; i < pool.length; i++) {
      kinds[i] = in.readUnsignedByte();
      switch (kinds[i]) {
        case 1: pool[i] = in.readUTF(); break;
        case 3: case 4: pool[i] = in.readInt(); break;
        case 5: case 6: pool[i] = in.readLong(); i++; break;
        case 7: case 8: case 16: case 19: case 20: pool[i] = new int[] {in.readUnsignedShort()}; break;
        case 15: pool[i] = new int[] {in.readUnsignedByte(), in.readUnsignedShort()}; break;
        default: pool[i] = new int[] {in.readUnsignedShort(), in.readUnsignedShort()}; break;
      }
    }
    for (int i = 1; i < pool.length; i++) {
      isDynamic |= kinds[i] == 15 || kinds[i] == 17 || kinds[i] == 18;
      if (kinds[i] == 8) {
        texts.add((String) pool[((int[]) pool[i])[0]]);
      }
    }
  }

  private String name(int i) {
    return i == 0 ? "" : (String) pool[((int[]) pool[i])[0]];
  }

  /** class.name:kind */
  private String member(int i) {
    int[] both = (int[]) pool[i];
    int[] told = (int[]) pool[both[1]];
    return name(both[0]) + "." + pool[told[0]] + ":" + pool[told[1]];
  }

  private void readMembers(DataInputStream in, String type) throws IOException {
    for (int left = in.readUnsignedShort(); left > 0; left--) {
      in.readUnsignedShort();
      String method = type + "." + pool[in.readUnsignedShort()] + ":" + pool[in.readUnsignedShort()];
      for (int more = in.readUnsignedShort(); more > 0; more--) {
        String attribute = (String) pool[in.readUnsignedShort()];
        int length = in.readInt();
        if (attribute.equals("Code")) {
          readCode(in, method);
        } else {
          in.skipBytes(length);
        }
      }
    }
  }

  private void readCode(DataInputStream in, String method) throws IOException {
    in.readInt();
    byte[] code = new byte[in.readInt()];
    in.readFully(code);
    Set<String> called = new TreeSet<>();
    for (int at = 0; at < code.length; at += length(code, at)) {
      int instruction = code[at] & 255;
      if (instruction >= 182 && instruction <= 185) {
        called.add(member((code[at + 1] & 255) << 8 | code[at + 2] & 255));
      }
    }
    calls.put(method, called);
    for (int left = in.readUnsignedShort(); left > 0; left--) {
      in.readUnsignedShort();
      in.readInt();
      caught.add(name(in.readUnsignedShort()));
    }
    for (int left = in.readUnsignedShort(); left > 0; left--) {
      String attribute = (String) pool[in.readUnsignedShort()];
      int length = in.readInt();
      if (attribute.equals("LineNumberTable")) {
        readLines(in, method);
      } else {
        in.skipBytes(length);
      }
    }
  }

  private void readLines(DataInputStream in, String method) throws IOException {
    int least = Integer.MAX_VALUE;
    int most = 0;
    for (int left = in.readUnsignedShort(); left > 0; left--) {
      in.readUnsignedShort();
      int line = in.readUnsignedShort();
      least = Math.min(least, line);
      most = Math.max(most, line);
    }
    lines.put(method, most - least + 1);
  }

  private static int length(byte[] code, int at) {
    int instruction = code[at] & 255;
    int length = LENGTHS.charAt(instruction) - '0';
    if (length > 0) {
      return length;
    }
    if (instruction == 196) {
      return (code[at + 1] & 255) == 132 ? 6 : 4;
    }
    int table = (at + 4) / 4 * 4;
    int first = number(code, table + 4);
    return instruction == 171 ? table + 8 + 8 * first - at : table + 12 + 4 * (number(code, table + 8) - first + 1) - at;
  }

  private static int number(byte[] code, int at) {
    return code[at] << 24 | (code[at + 1] & 255) << 16 | (code[at + 2] & 255) << 8 | code[at + 3] & 255;
  }
}
