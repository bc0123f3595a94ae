/-! the walk over a whole value -/
theorem nI_self {x : Int32} (h : ¬ x < 0) : nI x.toNatClampNeg = x := by
  obtain ⟨j, hj, rfl⟩ := nI_of h
  rw [nI_clamp hj]
theorem wk_ok {B : Nat → Nat} (hB : ∀ j, B j < 256) {n : Nat} (hn : n ≤ 4096) : ∀ (m a : Nat) (d : Int64), a ≤ 4096 → ¬ (wk B n m a d).1 < 0 → ¬ lkS B n (wk B n m a d).2 < 0 ∧ a ≤ (wk B n m a d).2 ∧ (wk B n m a d).2 < n := by
  intro m
  induction m with
  | zero => intro a d _ h; exact absurd (show (-2 : Int32) < 0 by decide) h
  | succ m ih =>
    intro a d ha h
    by_cases h1 : lkS B n a < 0
    · simp only [wk, if_pos h1] at h
      exact absurd h1 h
    · obtain ⟨q1, q2, q3, q4⟩ := nx_eq hB hn ha h1
      by_cases h2 : d + (ch B a - 1) = 0
      · simp only [wk, if_neg h1, if_pos h2]
        exact ⟨h1, Nat.le_refl _, by omega⟩
      · simp only [wk, if_neg h1, if_neg h2] at h ⊢
        obtain ⟨z1, z2, z3⟩ := ih (nx B a) _ (by omega) h
        exact ⟨z1, by omega, z3⟩
theorem wr_lt {B : Nat → Nat} (hB : ∀ j, B j < 256) {n : Nat} (hn : n ≤ 4096) {m a : Nat} {d : Int64} (ha : a ≤ 4096) : wr B n m a d < 0 ↔ (wk B n m a d).1 < 0 := by
  unfold wr
  by_cases h : (wk B n m a d).1 < 0
  · rw [if_pos h]
  · rw [if_neg h]
    have := (wk_ok hB hn m a d ha h).2.2
    exact ⟨fun z => absurd z (nI_pos (by omega)), fun z => absurd z h⟩
theorem wr_at {B : Nat → Nat} {n m a : Nat} {d : Int64} (h : ¬ (wk B n m a d).1 < 0) : wr B n m a d = nI (wk B n m a d).2 := if_neg h
theorem wk_end {B : Nat → Nat} (hB : ∀ j, B j < 256) {n : Nat} (hn : n ≤ 4096) {m a : Nat} {d : Int64} (ha : a ≤ 4096) (h : ¬ wr B n m a d < 0) :
    wr B n m a d = nI (wk B n m a d).2 ∧ (wk B n m a d).2 ≤ 4096 ∧ (wk B n m a d).2 + 1 + wd (B (wk B n m a d).2) ≤ 4096 ∧ nI (wk B n m a d).2 + nI (hd (B (wk B n m a d).2)) + pl B (wk B n m a d).2 = nI (nx B (wk B n m a d).2) ∧ nx B (wk B n m a d).2 ≤ n ∧ a < nx B (wk B n m a d).2 := by
  have h1 : ¬ (wk B n m a d).1 < 0 := (not_congr (wr_lt hB hn ha)).mp h
  obtain ⟨q1, q2, q3⟩ := wk_ok hB hn m a d ha h1
  obtain ⟨z1, z2, z3, z4⟩ := nx_eq hB hn (by omega) q1
  exact ⟨wr_at h1, by omega, by omega, z1, z2, by omega⟩
/-- how many whole values stand one behind the other -/
def wh (B : Nat → Nat) (n : Nat) : Nat → Nat → Nat
  | 0, _ => 0
  | m + 1, a => if wr B n 4097 a 1 < 0 then 0 else 1 + wh B n m (nx B (wk B n 4097 a 1).2)
theorem wh_neg {B : Nat → Nat} {n m a : Nat} (h : wr B n 4097 a 1 < 0) : wh B n (m + 1) a = 0 := if_pos h
theorem wh_pos {B : Nat → Nat} {n m a : Nat} (h : ¬ wr B n 4097 a 1 < 0) : wh B n (m + 1) a = 1 + wh B n m (nx B (wk B n 4097 a 1).2) := if_neg h
def vh (f : Nat → Int32) (a : Nat) : Int32 := if kd (bY f a) = 12 then f (a + hd (bY f a) - 1) else ((nv (bY f) a).toUInt64 >>> ((32 : Int32).toInt64.toUInt64 &&& Int64.toUInt64 63)).toInt64.toInt32
def py (f : Nat → Int32) (a : Nat) (i : Int32) : Int32 := if i < 0 then -1 else if i < pl (bY f) a then nI (bY f (a + hd (bY f a) + i.toNatClampNeg)) else -1
/-- what next() does: the answer, (children left, consumed, given, open) -/
def nxP (f : Nat → Int32) (g : Nat → Int64) (n c : Nat) (zg : Int32) (k : Nat) (r : Int32) (u : (Nat → Int64) × Int32 × Int32 × Int32) : Prop :=
  (lkS (bY f) n c < 0 ∧ r = lkS (bY f) n c ∧ u = (g, nI c, zg, nI k)) ∨
  (¬ lkS (bY f) n c < 0 ∧ 0 < ch (bY f) c ∧ k = 100 ∧ r = -5 ∧ u = (g, nI c, zg, nI k)) ∨
  (¬ lkS (bY f) n c < 0 ∧ ¬ (0 < ch (bY f) c ∧ k = 100) ∧ r = lkS (bY f) n c ∧ u = (og (cc1 g k) k (ch (bY f) c), nI (nx (bY f) c), nI c, nI (cl (og (cc1 g k) k (ch (bY f) c)) (ok k (ch (bY f) c)))))
def skP (f : Nat → Int32) (g : Nat → Int64) (n c : Nat) (zg : Int32) (k : Nat) (r : Int32) (u : (Nat → Int64) × Int32 × Int32 × Int32) : Prop :=
  (wr (bY f) n 4097 c 1 < 0 ∧ r = wr (bY f) n 4097 c 1 ∧ u = (g, nI c, zg, nI k)) ∨
  (¬ wr (bY f) n 4097 c 1 < 0 ∧ r = nI (nx (bY f) (wk (bY f) n 4097 c 1).2) - nI c ∧ u = (cc1 g k, nI (nx (bY f) (wk (bY f) n 4097 c 1).2), nI (wk (bY f) n 4097 c 1).2, nI (cl (cc1 g k) k)))
