def dwG (s : GS) : Int32 := kyG s (spF 100 114 97 119 0)
def whS (s : GS) : Int32 := if kyG s (spF 108 101 116 0 0) ≠ 0 then 0 else if kyG s (spF 104 111 108 100 0) ≠ 0 then 1 else if dwG s ≠ 0 then 2 else if kyG s (spF 100 117 109 112 0) ≠ 0 then 3 else (-1)
def daG (P : TP) (dr : Int32) (x : GX) (D : Row) (k : Int32) : Int32 × GX × Row := if dr = 0 then (1, x, D) else if (rnG P 1 99 x).1 = 0 then (0, (rnG P 1 99 x).2, D) else (1, (rnG P 1 99 x).2, upd D k.toNatClampNeg (rnG P 1 99 x).2.2.2.2)
def tsG (P : TP) (x : GX) (W D G : Row) (rs : Int32) : Int32 × GX × Row × Row × Row × Int32 :=
  if whS x.1 = (-1) then (0, bdG 1 x, W, D, G, rs) else if rs = 20 then (0, bdG 4 x, W, D, G, rs)
  else if (daG P (dwG x.1) (gtG P x) D (20 + rs)).1 = 0 then (0, (daG P (dwG x.1) (gtG P x) D (20 + rs)).2.1, W, (daG P (dwG x.1) (gtG P x) D (20 + rs)).2.2, G, rs)
  else if (rnG P 1 99 (daG P (dwG x.1) (gtG P x) D (20 + rs)).2.1).1 = 0 then (0, (rnG P 1 99 (daG P (dwG x.1) (gtG P x) D (20 + rs)).2.1).2, W, (daG P (dwG x.1) (gtG P x) D (20 + rs)).2.2, G, rs)
  else ((rmG P (rnG P 1 99 (daG P (dwG x.1) (gtG P x) D (20 + rs)).2.1).2).1, (rmG P (rnG P 1 99 (daG P (dwG x.1) (gtG P x) D (20 + rs)).2.1).2).2, upd W (20 + rs).toNatClampNeg (whS x.1), (daG P (dwG x.1) (gtG P x) D (20 + rs)).2.2, upd G (20 + rs).toNatClampNeg (rnG P 1 99 (daG P (dwG x.1) (gtG P x) D (20 + rs)).2.1).2.2.2.2, rs + 1)
theorem okG_da {P : TP} {dr k : Int32} {x : GX} {D : Row} (h : okG P x.1) : okG P (daG P dr x D k).2.1.1 := by
  simp only [daG]; split
  · exact h
  · split
    · exact okG_rn h
    · exact okG_rn h
