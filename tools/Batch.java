import java.nio.file.*; import java.util.*;
// reads a file of cases: lines: NEW | E hex | I hex ; prints results for each
public class Batch {
  static void feed(SchemeHouse h, byte[] b){
    int i=0;
    while(i<b.length){ int[] w=new int[5]; for(int k=0;k<20;k++){ int v=i+k<b.length?b[i+k]&255:0; w[k/4]=w[k/4]<<8|v; } if(!h.feed(w[0],w[1],w[2],w[3],w[4])) throw new RuntimeException("feed"); i+=20; }
    h.end(b.length);
  }
  static String get(SchemeHouse h,int what){ StringBuilder s=new StringBuilder(); int n=h.count(what); for(int i=0;i<n;i++) s.append(String.format("%02x",h.told(what,i))); return s.toString(); }
  public static void main(String[] a) throws Exception {
    SchemeHouse h=null; StringBuilder o=new StringBuilder();
    for(String l: Files.readAllLines(Path.of(a[0]))){
      String[] p=l.split(" ",-1);
      if(p[0].equals("NEW")){h=new SchemeHouse(); o.append("NEW\n"); continue;}
      byte[] b=new byte[p[1].length()/2]; for(int i=0;i<b.length;i++) b[i]=(byte)Integer.parseInt(p[1].substring(2*i,2*i+2),16);
      feed(h,b);
      if(p[0].equals("I")){ o.append("I "+h.input()+"\n"); continue; }
      int e=h.evaluate();
      o.append(e+" "+get(h,1)+" "+get(h,0)+" "+h.count(2)+" "+h.count(3)+" "+h.count(4)+" "+h.count(5)+" "+h.count(6)+" "+h.count(7)+" "+h.count(8)+"\n");
    }
    Files.writeString(Path.of(a[1]),o.toString());
  }
}
