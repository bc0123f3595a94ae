/-! the reference's walk over a whole value -/
def scF (B : Nat → Nat) (a : Nat) (u : Int32 × Int64 × Int32 × Int32 × Int64 × Int64) : Prop :=
  u.1 = nI (kd (B a)) ∧ u.2.1 = nv B a ∧ (kd (B a) = 12 → u.2.2.1 = tyS B a) ∧ u.2.2.2.1 = nI (hd (B a)) ∧ u.2.2.2.2.1 = paL B a ∧ u.2.2.2.2.2 = ch B a
theorem loP_ok {B : Nat → Nat} {n a : Nat} {r : Int32} {u : Int32 × Int64 × Int32 × Int32 × Int64 × Int64} (h : loP B n a r u) (h0 : r = 0) : ¬ lkS B n a < 0 ∧ scF B a u := by
  rcases h with ⟨h1, h2⟩ | ⟨h1, -, h3⟩
  · rw [h0] at h2
    rw [← h2] at h1
    exact absurd h1 (by decide)
  · exact ⟨h1, h3⟩
theorem loP_no {B : Nat → Nat} {n a : Nat} {r : Int32} {u : Int32 × Int64 × Int32 × Int32 × Int64 × Int64} (h : loP B n a r u) (h0 : ¬ r = 0) : lkS B n a < 0 ∧ r = lkS B n a := by
  rcases h with h | ⟨-, h2, -⟩
  · exact h
  · exact absurd h2 h0
def enP (B : Nat → Nat) (n a : Nat) (r : Int32) (u : Int32 × Int64 × Int32 × Int32 × Int64 × Int64) : Prop :=
  (wr B n 4097 a 1 < 0 ∧ r = wr B n 4097 a 1) ∨ (¬ wr B n 4097 a 1 < 0 ∧ r = nI (nx B (wk B n 4097 a 1).2) ∧ scF B (wk B n 4097 a 1).2 u)
def enI (B : Nat → Nat) (n a q x D : Nat) (u : Int32 × Int64 × Int32 × Int32 × Int64 × Int64) : Prop :=
  (1 ≤ D ∧ n < x + q ∧ 1 ≤ q ∧ wk B n q x (lN D) = wk B n 4097 a 1) ∨ (D = 0 ∧ ¬ (wk B n 4097 a 1).1 < 0 ∧ x = nx B (wk B n 4097 a 1).2 ∧ scF B (wk B n 4097 a 1).2 u)
theorem enI_pos {B : Nat → Nat} {n a q x D : Nat} {u : Int32 × Int64 × Int32 × Int32 × Int64 × Int64} (h : enI B n a q x D u) (hD : 1 ≤ D) : n < x + q ∧ 1 ≤ q ∧ wk B n q x (lN D) = wk B n 4097 a 1 := by
  rcases h with ⟨-, h⟩ | ⟨h, -⟩
  · exact h
  · omega
theorem ch_nat {B : Nat → Nat} (hB : ∀ j, B j < 256) {n a : Nat} (hn : n ≤ 4096) (ha : a ≤ 4096) (h : ¬ lkS B n a < 0) : ∃ C, C ≤ 4294967294 ∧ ch B a = lN C := by
  obtain ⟨-, -, -, -, h5, -⟩ := lk_ok hB hn ha h
  unfold ch
  by_cases h1 : kd (B a) = 10
  · rw [if_pos h1]
    obtain ⟨v, hv, e⟩ := nv_nat hB (a := a) (by omega)
    have q := h5 (by omega)
    rw [e, show (2147483647 : Int64) = lN 2147483647 from rfl, pk_lLE (by omega) (by decide)] at q
    exact ⟨v, by omega, e⟩
  · rw [if_neg h1]
    by_cases h2 : kd (B a) = 11
    · rw [if_pos h2]
      obtain ⟨v, hv, e⟩ := nv_nat hB (a := a) (by omega)
      have q := h5 (by omega)
      rw [e, show (2147483647 : Int64) = lN 2147483647 from rfl, pk_lLE (by omega) (by decide)] at q
      refine ⟨2 * v, by omega, ?_⟩
      rw [e, show (2 : Int64) = lN 2 from rfl, lN_mul]
    · rw [if_neg h2]; exact ⟨0, by decide, rfl⟩
theorem lN_dec {D C : Nat} (h : 1 ≤ D) : lN D + (lN C - 1) = lN (D + C - 1) := by
  rw [← lN_sub (a := D + C) (b := 1) (by omega), ← lN_add, Int64.sub_eq_add_neg, Int64.sub_eq_add_neg, Int64.add_assoc]
  rfl
theorem paL32 {B : Nat → Nat} (hB : ∀ j, B j < 256) {n a : Nat} (hn : n ≤ 4096) (ha : a ≤ 4096) (h : ¬ lkS B n a < 0) : (paL B a).toInt32 = pl B a := by
  obtain ⟨-, -, -, -, h5, -⟩ := lk_ok hB hn ha h
  obtain ⟨v, hv, e1, e2⟩ := pa_pl hB h5
  rw [e1, e2, lN_32]
theorem en_step {B : Nat → Nat} (hB : ∀ j, B j < 256) {n a x D C t : Nat} {u : Int32 × Int64 × Int32 × Int32 × Int64 × Int64} (hn : n ≤ 4096) (hx : x ≤ 4096) (h : ¬ lkS B n x < 0) (h1 : n < x + (t + 1)) (h2 : wk B n (t + 1) x (lN D) = wk B n 4097 a 1) (eC : ch B x = lN C) (hC : C ≤ 4294967294) (hD : 1 ≤ D) (hs : scF B x u) (hb : D ≤ x * 4294967296 + 1) :
    enI B n a t (nx B x) (D + C - 1) u := by
  obtain ⟨q1, q2, q3, q4⟩ := nx_eq hB hn hx h
  have e : lN D + (ch B x - 1) = lN (D + C - 1) := by rw [eC]; exact lN_dec hD
  by_cases hz : D + C - 1 = 0
  · refine Or.inr ⟨hz, ?_⟩
    have e2 : wk B n (t + 1) x (lN D) = (0, x) := by
      simp only [wk, if_neg h]
      rw [if_pos (by rw [e, hz]; rfl)]
    rw [← h2, e2]
    exact ⟨show ¬ (0 : Int32) < 0 by decide, rfl, hs⟩
  · refine Or.inl ⟨by omega, by omega, by omega, ?_⟩
    have e2 : wk B n (t + 1) x (lN D) = wk B n t (nx B x) (lN (D + C - 1)) := by
      simp only [wk, if_neg h]
      rw [if_neg, e]
      rw [e, show (0 : Int64) = lN 0 from rfl, pk_lEQ (by omega) (by decide)]
      exact hz
    rw [← e2]; exact h2
theorem en_neg {B : Nat → Nat} {n a x D t : Nat} {r : Int32} {u u2 : Int32 × Int64 × Int32 × Int32 × Int64 × Int64} (h2 : wk B n (t + 1) x (lN D) = wk B n 4097 a 1) (h : loP B n x r u) (h0 : ¬ r = 0) : enP B n a r u2 := by
  obtain ⟨q1, q2⟩ := loP_no h h0
  have e : wr B n 4097 a 1 = lkS B n x := by
    rw [← wr_neg (m := t) (d := lN D) q1]
    unfold wr
    rw [h2]
  exact Or.inl ⟨by rw [e]; exact q1, by rw [e]; exact q2⟩
theorem en_zero {B : Nat → Nat} (hB : ∀ j, B j < 256) {n a q x : Nat} (hn : n ≤ 4096) (ha : a ≤ 4096) {u : Int32 × Int64 × Int32 × Int32 × Int64 × Int64} (h : enI B n a q x 0 u) : enP B n a (nI x) u := by
  rcases h with ⟨h, -⟩ | ⟨-, h1, h2, h3⟩
  · omega
  · exact Or.inr ⟨fun z => h1 ((wr_lt hB hn ha).mp z), by rw [h2], h3⟩
