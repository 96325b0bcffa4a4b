/-! loops that count down (omega runs away over a bounded counter and a toNat) -/
theorem bk_le {u v k : Int} (e : u = v - 1) (h : v ≤ k) : u ≤ k := by omega
theorem bk_lt {u v k : Int} (e : u = v - 1) (h : v < k) : u < k := by omega
theorem bk_dn {u v : Int} {zn : Nat} (e : u = v - 1) (h0 : ¬ v < 0) (hm : (v + 1).toNat < zn + 1) : (u + 1).toNat < zn := by omega
