/-! pure rows on the numbers of both classes -/
theorem nI_z {k : Nat} (h : k < 2 ^ 31) : nI k = 0 ↔ k = 0 := by
  rw [show (0 : Int32) = nI 0 from rfl]; exact nI_eq h (by decide)
theorem nI_am1 {a h : Nat} (h1 : 1 ≤ h) : nI a + nI h - 1 = nI (a + h - 1) := by
  rw [nI_add, show (1 : Int32) = nI 1 from rfl, pk_sub (by omega)]
def lkS (B : Nat → Nat) (n a : Nat) : Int32 :=
  if nI a < nI n then
    (if nI (B a) = 193 then -3 else
      if (0 : Int32) ≤ nI n - nI a - nI (hd (B a)) then
        (if nI (kd (B a)) < 8 then (if pl B a ≤ nI n - nI a - nI (hd (B a)) then nI (kd (B a)) else -2)
         else if nv B a ≤ 2147483647 then (if pl B a ≤ nI n - nI a - nI (hd (B a)) then nI (kd (B a)) else -2) else -4)
      else -2)
  else -2
theorem nI_room {n a h : Nat} (hn : n ≤ 4096) (ha : a < n) (hh : h ≤ 9) (q : (0 : Int32) ≤ nI n - nI a - nI h) : a + h ≤ n := by
  rw [pk_sub (Nat.le_of_lt ha)] at q
  rcases Nat.lt_or_ge n (a + h) with z | z
  · exfalso
    have := pk_sneg (a := n - a) (b := h) (by omega) (by omega)
    rw [Int32.lt_iff_toInt_lt] at this
    rw [Int32.le_iff_toInt_le] at q
    omega
  · exact z
theorem nI_room_eq {n a h : Nat} (q : a + h ≤ n) : nI n - nI a - nI h = nI (n - (a + h)) := by
  rw [pk_sub (by omega), pk_sub (by omega)]
  congr 1
  omega
/-- the place behind the head and its payload -/
def nx (B : Nat → Nat) (a : Nat) : Nat := a + hd (B a) + (pl B a).toNatClampNeg
/-- the walk over a whole value: the answer (below 0: why not), the last head -/
def wk (B : Nat → Nat) (n : Nat) : Nat → Nat → Int64 → Int32 × Nat
  | 0, a, _ => (-2, a)
  | m + 1, a, d => if lkS B n a < 0 then (lkS B n a, a) else if d + (ch B a - 1) = 0 then (0, a) else wk B n m (nx B a) (d + (ch B a - 1))
def wr (B : Nat → Nat) (n : Nat) (m a : Nat) (d : Int64) : Int32 := if (wk B n m a d).1 < 0 then (wk B n m a d).1 else nI (wk B n m a d).2
theorem wr_0 {B : Nat → Nat} {n a : Nat} {d : Int64} : wr B n 0 a d = -2 := by
  simp [wr, wk]
theorem wr_neg {B : Nat → Nat} {n m a : Nat} {d : Int64} (h : lkS B n a < 0) : wr B n (m + 1) a d = lkS B n a := by
  simp [wr, wk, h]
theorem wr_end {B : Nat → Nat} {n m a : Nat} {d : Int64} (h : ¬ lkS B n a < 0) (h2 : d + (ch B a - 1) = 0) : wr B n (m + 1) a d = nI a := by
  simp [wr, wk, h, h2]
theorem wr_next {B : Nat → Nat} {n m a : Nat} {d : Int64} (h : ¬ lkS B n a < 0) (h2 : ¬ d + (ch B a - 1) = 0) : wr B n (m + 1) a d = wr B n m (nx B a) (d + (ch B a - 1)) := by
  simp [wr, wk, h, h2]
