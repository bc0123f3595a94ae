/-! next, skip, whole of the reference -/
def hiV (B : Nat → Nat) (a : Nat) : Int32 := hiS (nI (kd (B a))) (tyS B a) (nv B a)
theorem hiV_eq {B : Nat → Nat} {a : Nat} {ty : Int32} (hB : ∀ j, B j < 256) (h : kd (B a) = 12 → ty = tyS B a) : hiS (nI (kd (B a))) ty (nv B a) = hiV B a := by
  unfold hiV
  by_cases h1 : kd (B a) = 12
  · rw [h h1]
  · unfold hiS
    have h2 : ¬ nI (kd (B a)) = 12 := fun z => h1 ((nI_e12 _ (kd_le _ (hB a)) 12 (by decide)).mp z)
    rw [if_neg h2, if_neg h2]
def nyP (B : Nat → Nat) (g : Nat → Int64) (n c : Nat) (o : Int32 × Int32 × Int32 × Int32 × Int32) (k : Nat) (r : Int32) (u : (Nat → Int64) × Int32 × Int32 × Int32 × Int32 × Int32 × Int32 × Int32) : Prop :=
  (lkS B n c < 0 ∧ r = lkS B n c ∧ u = (g, nI c, o.1, o.2.1, o.2.2.1, o.2.2.2.1, o.2.2.2.2, nI k)) ∨
  (¬ lkS B n c < 0 ∧ 0 < ch B c ∧ k = 100 ∧ r = -5 ∧ u = (g, nI c, o.1, o.2.1, o.2.2.1, o.2.2.2.1, o.2.2.2.2, nI k)) ∨
  (¬ lkS B n c < 0 ∧ ¬ (0 < ch B c ∧ k = 100) ∧ r = nI (kd (B c)) ∧ u = (og (cc1 g k) k (ch B c), nI (nx B c), nI (kd (B c)), (nv B c).toInt32, hiV B c, nI (c + hd (B c)), pl B c, nI (cl (og (cc1 g k) k (ch B c)) (ok k (ch B c)))))
def syP (B : Nat → Nat) (g : Nat → Int64) (n c : Nat) (o : Int32 × Int32 × Int32 × Int32 × Int32) (k : Nat) (r : Int32) (u : (Nat → Int64) × Int32 × Int32 × Int32 × Int32 × Int32 × Int32 × Int32) : Prop :=
  (wr B n 4097 c 1 < 0 ∧ r = wr B n 4097 c 1 ∧ u = (g, nI c, o.1, o.2.1, o.2.2.1, o.2.2.2.1, o.2.2.2.2, nI k)) ∨
  (¬ wr B n 4097 c 1 < 0 ∧ r = nI (nx B (wk B n 4097 c 1).2) - nI c ∧ u = (cc1 g k, nI (nx B (wk B n 4097 c 1).2), nI (kd (B (wk B n 4097 c 1).2)), (nv B (wk B n 4097 c 1).2).toInt32, hiV B (wk B n 4097 c 1).2, nI ((wk B n 4097 c 1).2 + hd (B (wk B n 4097 c 1).2)), pl B (wk B n 4097 c 1).2, nI (cl (cc1 g k) k)))
theorem enP_no {B : Nat → Nat} (hB : ∀ j, B j < 256) {n a : Nat} (hn : n ≤ 4096) (ha : a ≤ 4096) {r : Int32} {u : Int32 × Int64 × Int32 × Int32 × Int64 × Int64} (h : enP B n a r u) (h0 : ¬ (0 : Int32) ≤ r) : wr B n 4097 a 1 < 0 ∧ r = wr B n 4097 a 1 := by
  rcases h with h | ⟨h1, h2, -⟩
  · exact h
  · have := (wk_end hB hn ha h1).2.2.2.2.1
    exact absurd (by rw [h2]; exact nI_pos' (by omega)) h0
theorem enP_ok {B : Nat → Nat} {n a : Nat} {r : Int32} {u : Int32 × Int64 × Int32 × Int32 × Int64 × Int64} (h : enP B n a r u) (h0 : (0 : Int32) ≤ r) : ¬ wr B n 4097 a 1 < 0 ∧ r = nI (nx B (wk B n 4097 a 1).2) ∧ scF B (wk B n 4097 a 1).2 u := by
  rcases h with ⟨h1, h2⟩ | h
  · rw [← h2] at h1
    exact absurd h1 (Int32.not_lt.mpr h0)
  · exact h
theorem wk_lk {B : Nat → Nat} (hB : ∀ j, B j < 256) {n a : Nat} (hn : n ≤ 4096) (ha : a ≤ 4096) (h : ¬ wr B n 4097 a 1 < 0) : ¬ lkS B n (wk B n 4097 a 1).2 < 0 := (wk_ok hB hn 4097 a 1 ha ((not_congr (wr_lt hB hn ha)).mp h)).1
theorem nx_sub {B : Nat → Nat} (hB : ∀ j, B j < 256) {n a : Nat} (hn : n ≤ 4096) (ha : a ≤ 4096) (h : ¬ lkS B n a < 0) : nI (nx B a) - (paL B a).toInt32 = nI (a + hd (B a)) := by
  rw [paL32 hB hn ha h]
  obtain ⟨-, -, ⟨v, -, e, e2, -⟩, -⟩ := lk_ok hB hn ha h
  rw [e, e2, pk_sub (by omega)]
  congr 1
  omega
def ez (B : Nat → Nat) (n a : Nat) : Int32 := if wr B n 4097 a 1 < 0 then wr B n 4097 a 1 else nI (nx B (wk B n 4097 a 1).2)
theorem enP_ez {B : Nat → Nat} {n a : Nat} {r : Int32} {u : Int32 × Int64 × Int32 × Int32 × Int64 × Int64} (h : enP B n a r u) : r = ez B n a := by
  unfold ez
  rcases h with ⟨h1, h2⟩ | ⟨h1, h2, -⟩
  · rw [if_pos h1, h2]
  · rw [if_neg h1, h2]
theorem ez_lt {B : Nat → Nat} (hB : ∀ j, B j < 256) {n a : Nat} (hn : n ≤ 4096) (ha : a ≤ 4096) : ez B n a < 0 ↔ wr B n 4097 a 1 < 0 := by
  unfold ez
  by_cases h : wr B n 4097 a 1 < 0
  · rw [if_pos h]
  · rw [if_neg h]
    have := (wk_end hB hn ha h).2.2.2.2.1
    exact ⟨fun z => absurd z (nI_pos (by omega)), fun z => absurd z h⟩
theorem wr_out {B : Nat → Nat} {n a : Nat} (hn : n ≤ 4096) (ha : a ≤ 4096) (h : n ≤ a) : wr B n 4097 a 1 < 0 := by
  have e := lk1 (B := B) hn ha h
  rw [wr_neg (m := 4096) (by rw [e]; decide), e]
  decide
def rmS (g : Nat → Int64) (k : Nat) (i : Int32) : Int64 := if i < nI k then g (k - 1 - i.toNatClampNeg) else -1
