/-! what the reference's look leaves -/
def tyS (B : Nat → Nat) (a : Nat) : Int32 := if nI (B (a + hd (B a) - 1)) ≤ 127 then nI (B (a + hd (B a) - 1)) else nI (B (a + hd (B a) - 1)) - 256
def paL (B : Nat → Nat) (a : Nat) : Int64 := if hp (kd (B a)) = true then nv B a else 0
def loP (B : Nat → Nat) (n a : Nat) (r : Int32) (u : Int32 × Int64 × Int32 × Int32 × Int64 × Int64) : Prop :=
  (lkS B n a < 0 ∧ r = lkS B n a) ∨
  (¬ lkS B n a < 0 ∧ r = 0 ∧ u.1 = nI (kd (B a)) ∧ u.2.1 = nv B a ∧ (kd (B a) = 12 → u.2.2.1 = tyS B a) ∧ u.2.2.2.1 = nI (hd (B a)) ∧ u.2.2.2.2.1 = paL B a ∧ u.2.2.2.2.2 = ch B a)
theorem lk1 {B : Nat → Nat} {n a : Nat} (hn : n ≤ 4096) (ha : a ≤ 4096) (h : n ≤ a) : lkS B n a = -2 := by
  unfold lkS; rw [if_neg (nI_nlt h (by omega))]
theorem lk2 {B : Nat → Nat} {n a : Nat} (hn : n ≤ 4096) (h : a < n) (h2 : B a = 193) : lkS B n a = -3 := by
  unfold lkS; rw [if_pos (nI_lt h (by omega)), if_pos (by rw [h2]; rfl)]
theorem b193 {b : Nat} (hb : b < 256) (h : ¬ b = 193) : ¬ nI b = 193 := fun z => h ((nI_eq (b := 193) (by omega) (by decide)).mp z)
theorem lk3 {B : Nat → Nat} (hB : ∀ j, B j < 256) {n a : Nat} (hn : n ≤ 4096) (h : a < n) (h2 : ¬ B a = 193) (h3 : n < a + hd (B a)) : lkS B n a = -2 := by
  have hh := hd_le _ (hB a)
  unfold lkS
  rw [if_pos (nI_lt h (by omega)), if_neg (b193 (hB a) h2), if_neg]
  intro z
  have := nI_room hn h hh.2.1 z
  omega
theorem rm_ge {n a h : Nat} (hn : n ≤ 4096) (q : a + h ≤ n) : (0 : Int32) ≤ nI n - nI a - nI h := by
  rw [nI_room_eq q]; exact nI_pos' (by omega)
theorem lk4 {B : Nat → Nat} (hB : ∀ j, B j < 256) {n a : Nat} (hn : n ≤ 4096) (h : a < n) (h2 : ¬ B a = 193) (h3 : a + hd (B a) ≤ n) (h4 : 8 ≤ kd (B a)) (h5 : ¬ nv B a ≤ 2147483647) : lkS B n a = -4 := by
  have hk := kd_le _ (hB a)
  unfold lkS
  rw [if_pos (nI_lt h (by omega)), if_neg (b193 (hB a) h2), if_pos (rm_ge hn h3), if_neg (show ¬ nI (kd (B a)) < 8 from nI_nlt (b := 8) h4 (by omega)), if_neg h5]
theorem lk56 {B : Nat → Nat} (hB : ∀ j, B j < 256) {n a : Nat} (hn : n ≤ 4096) (h : a < n) (h2 : ¬ B a = 193) (h3 : a + hd (B a) ≤ n) (h4 : 8 ≤ kd (B a) → nv B a ≤ 2147483647) : lkS B n a = if pl B a ≤ nI n - nI a - nI (hd (B a)) then nI (kd (B a)) else -2 := by
  have hk := kd_le _ (hB a)
  unfold lkS
  rw [if_pos (nI_lt h (by omega)), if_neg (b193 (hB a) h2), if_pos (rm_ge hn h3)]
  by_cases h5 : 8 ≤ kd (B a)
  · rw [if_neg (show ¬ nI (kd (B a)) < 8 from nI_nlt (b := 8) h5 (by omega)), if_pos (h4 h5)]
  · rw [if_pos (show nI (kd (B a)) < 8 from nI_lt (b := 8) (by omega) (by decide))]
/-- the payload's length, as both classes have it -/
theorem pa_pl {B : Nat → Nat} (hB : ∀ j, B j < 256) {a : Nat} (h4 : 8 ≤ kd (B a) → nv B a ≤ 2147483647) : ∃ v : Nat, v < 2 ^ 31 ∧ pl B a = nI v ∧ paL B a = lN v := by
  unfold pl paL
  by_cases hq : hp (kd (B a)) = true
  · rw [if_pos hq, if_pos hq]
    obtain ⟨v, hv, e⟩ := nv_nat hB (hp_ge _ hq)
    have q3 := h4 (hp_ge _ hq)
    rw [e, show (2147483647 : Int64) = lN 2147483647 from rfl, pk_lLE (by omega) (by decide)] at q3
    exact ⟨v, by omega, by rw [e, lN_32], e⟩
  · rw [if_neg hq, if_neg hq]; exact ⟨0, by decide, rfl, rfl⟩
theorem lk_end {B : Nat → Nat} (hB : ∀ j, B j < 256) {n a : Nat} (hn : n ≤ 4096) (h : a < n) (h2 : ¬ B a = 193) (h3 : a + hd (B a) ≤ n) (h4 : 8 ≤ kd (B a) → nv B a ≤ 2147483647) :
    ((nI a + nI (hd (B a))).toInt64 + paL B a ≤ (nI n).toInt64 → lkS B n a = nI (kd (B a))) ∧ (¬ (nI a + nI (hd (B a))).toInt64 + paL B a ≤ (nI n).toInt64 → lkS B n a = -2) := by
  obtain ⟨v, hv, e1, e2⟩ := pa_pl hB h4
  have e3 : (nI a + nI (hd (B a))).toInt64 + paL B a ≤ (nI n).toInt64 ↔ a + hd (B a) + v ≤ n := by
    rw [nI_add, nI_l (by omega), nI_l (by omega), e2, lN_add, pk_lLE (by omega) (by omega)]
  have e4 : pl B a ≤ nI n - nI a - nI (hd (B a)) ↔ a + hd (B a) + v ≤ n := by
    rw [nI_room_eq h3, e1, nI_leI hv (by omega)]
    omega
  rw [lk56 hB hn h h2 h3 h4]
  constructor
  · intro q; rw [if_pos (e4.mpr (e3.mp q))]
  · intro q; rw [if_neg (fun z => q (e3.mpr (e4.mp z)))]
theorem kd_cases : ∀ b, b < 256 → ¬ b = 193 → kd b = 1 ∨ kd b = 2 ∨ kd b = 3 ∨ kd b = 4 ∨ kd b = 5 ∨ kd b = 6 ∨ kd b = 7 ∨ kd b = 8 ∨ kd b = 9 ∨ kd b = 10 ∨ kd b = 11 ∨ kd b = 12 := by decide +kernel
theorem lkneg {B : Nat → Nat} {n a : Nat} {r : Int32} {u : Int32 × Int64 × Int32 × Int32 × Int64 × Int64} (h : lkS B n a = r) (h2 : r < 0) : loP B n a r u := Or.inl ⟨by rw [h]; exact h2, h.symm⟩
