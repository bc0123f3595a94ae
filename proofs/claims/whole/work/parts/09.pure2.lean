/-! numbers in bytes: as plain numbers -/
def rn (B : Nat → Nat) (a : Nat) : Nat → Nat
  | 0 => 0
  | k + 1 => rn B a k * 256 + B (a + k)
theorem rn_lt {B : Nat → Nat} (hB : ∀ j, B j < 256) (a : Nat) : ∀ k, rn B a k < 256 ^ k := by
  intro k
  induction k with
  | zero => exact Nat.one_pos
  | succ k ih =>
    have := hB (a + k)
    rw [Nat.pow_succ]
    show rn B a k * 256 + B (a + k) < _
    omega
theorem rd_rn {B : Nat → Nat} (hB : ∀ j, B j < 256) (a : Nat) : ∀ k, k ≤ 8 → rd B a k = lN (rn B a k) := by
  intro k
  induction k with
  | zero => intro _; rfl
  | succ k ih =>
    intro hk
    have h1 := ih (by omega)
    have h2 := hB (a + k)
    have h3 := rn_lt hB a k
    have h4 : rn B a k * 256 + B (a + k) < 2 ^ 64 := by
      have h5 : (256 : Nat) ^ k ≤ 256 ^ 7 := Nat.pow_le_pow_right (by decide) (by omega)
      have h6 : (256 : Nat) ^ 7 = 72057594037927936 := by decide
      omega
    show (rd B a k <<< ((8 : Int32).toInt64 &&& 63)) ||| (nI (B (a + k))).toInt64 = _
    rw [h1, show (8 : Int32) = nI 8 from rfl, wb_shl _ (by decide), nI_l (by omega)]
    exact g_or (k := 8) (p := 2 ^ 8) rfl (by omega) (by omega)
theorem b_facts : ∀ b, b < 256 → 8 ≤ kd b → wd b ≤ 4 ∧ (wd b = 0 → ow b = lN (ow b).toBitVec.toNat ∧ (ow b).toBitVec.toNat < 32) := by decide +kernel
theorem kd_5 : ∀ b, b < 256 → 8 ≤ kd b → ¬ kd b = 5 := by decide +kernel
/-- the number of a head that has a length or a count is a plain one, below 2^32 -/
theorem nv_nat {B : Nat → Nat} (hB : ∀ j, B j < 256) {a : Nat} (h : 8 ≤ kd (B a)) : ∃ v, v < 4294967296 ∧ nv B a = lN v := by
  obtain ⟨h1, h2⟩ := b_facts (B a) (hB a) h
  unfold nv
  by_cases hw : wd (B a) = 0
  · rw [if_pos hw]
    obtain ⟨h3, h4⟩ := h2 hw
    exact ⟨_, by omega, h3⟩
  · rw [if_neg hw, if_neg (kd_5 _ (hB a) h), rd_rn hB _ _ (by omega)]
    refine ⟨_, ?_, rfl⟩
    have h5 := rn_lt hB (a + 1) (wd (B a))
    have h6 : (256 : Nat) ^ (wd (B a)) ≤ 256 ^ 4 := Nat.pow_le_pow_right (by decide) h1
    have h7 : (256 : Nat) ^ 4 = 4294967296 := by decide
    omega
theorem hp_ge : ∀ k, hp k = true → 8 ≤ k := by
  intro k h
  simp only [hp, Bool.or_eq_true, beq_iff_eq] at h
  omega
theorem lN_32 {v : Nat} : (lN v).toInt32 = nI v := lN_i v
/-- behind a look that answers a kind -/
theorem lk_ok {B : Nat → Nat} (hB : ∀ j, B j < 256) {n a : Nat} (hn : n ≤ 4096) (ha : a ≤ 4096) (h : ¬ lkS B n a < 0) :
    a < n ∧ a + hd (B a) ≤ n ∧ (∃ v : Nat, v ≤ n ∧ pl B a = nI v ∧ nx B a = a + hd (B a) + v ∧ a + hd (B a) + v ≤ n) ∧ lkS B n a = nI (kd (B a)) ∧ (8 ≤ kd (B a) → nv B a ≤ 2147483647) ∧ ¬ B a = 193 := by
  have hh := hd_le _ (hB a)
  have hk := kd_le _ (hB a)
  unfold lkS at h ⊢
  by_cases h1 : nI a < nI n
  · rw [if_pos h1] at h ⊢
    have h1' : a < n := (nI_ltI (by omega) (by omega)).mp h1
    by_cases h2 : nI (B a) = 193
    · rw [if_pos h2] at h; exact absurd (by decide) h
    · rw [if_neg h2] at h ⊢
      have h2' : ¬ B a = 193 := fun z => h2 (by rw [z]; rfl)
      by_cases h3 : (0 : Int32) ≤ nI n - nI a - nI (hd (B a))
      · rw [if_pos h3] at h ⊢
        have h3' := nI_room hn h1' hh.2.1 h3
        have h8 : nI (kd (B a)) < 8 ↔ kd (B a) < 8 := nI_ltI (b := 8) (by omega) (by decide)
        have key : pl B a ≤ nI n - nI a - nI (hd (B a)) → (8 ≤ kd (B a) → nv B a ≤ 2147483647) → (∃ v : Nat, v ≤ n ∧ pl B a = nI v ∧ nx B a = a + hd (B a) + v ∧ a + hd (B a) + v ≤ n) := by
          intro q1 q2
          rw [nI_room_eq h3'] at q1
          have hv : ∃ v : Nat, v < 2 ^ 31 ∧ pl B a = nI v := by
            unfold pl
            by_cases hq : hp (kd (B a)) = true
            · rw [if_pos hq]
              obtain ⟨v, hv, e⟩ := nv_nat hB (hp_ge _ hq)
              have q3 := q2 (hp_ge _ hq)
              rw [e, show (2147483647 : Int64) = lN 2147483647 from rfl, pk_lLE (by omega) (by decide)] at q3
              exact ⟨v, by omega, by rw [e, lN_32]⟩
            · rw [if_neg hq]; exact ⟨0, by decide, rfl⟩
          obtain ⟨v, hv, e⟩ := hv
          rw [e, nI_leI hv (by omega)] at q1
          refine ⟨v, by omega, e, ?_, by omega⟩
          unfold nx
          rw [e, nI_clamp hv]
        by_cases h4 : nI (kd (B a)) < 8
        · rw [if_pos h4] at h ⊢
          have h4' := h8.mp h4
          by_cases h5 : pl B a ≤ nI n - nI a - nI (hd (B a))
          · rw [if_pos h5]
            exact ⟨h1', h3', key h5 (fun z => by omega), rfl, fun z => by omega, h2'⟩
          · rw [if_neg h5] at h; exact absurd (by decide) h
        · rw [if_neg h4] at h ⊢
          by_cases h6 : nv B a ≤ 2147483647
          · rw [if_pos h6] at h ⊢
            by_cases h5 : pl B a ≤ nI n - nI a - nI (hd (B a))
            · rw [if_pos h5]
              exact ⟨h1', h3', key h5 (fun _ => h6), rfl, fun _ => h6, h2'⟩
            · rw [if_neg h5] at h; exact absurd (by decide) h
          · rw [if_neg h6] at h; exact absurd (by decide) h
      · rw [if_neg h3] at h; exact absurd (by decide) h
  · rw [if_neg h1] at h; exact absurd (by decide) h
theorem nx_eq {B : Nat → Nat} (hB : ∀ j, B j < 256) {n a : Nat} (hn : n ≤ 4096) (ha : a ≤ 4096) (h : ¬ lkS B n a < 0) : nI a + nI (hd (B a)) + pl B a = nI (nx B a) ∧ nx B a ≤ n ∧ a < nx B a ∧ a + 1 + wd (B a) ≤ n := by
  obtain ⟨h1, h2, ⟨v, h3, h4, h5, h6⟩, -⟩ := lk_ok hB hn ha h
  have hh := hd_le _ (hB a)
  refine ⟨?_, by omega, by omega, by omega⟩
  rw [h4, nI_add, nI_add, h5]
