theorem pkE_1 (lo hi : Int32) : pkE 1 lo hi (pk1 lo hi) := ⟨192, by decide, by simp [sF]; rfl, rfl, rfl, fun i hi => absurd hi (by decide +revert), Or.inr ⟨by decide, rfl⟩⟩
theorem pkE_2 (lo hi : Int32) : pkE 2 lo hi (pk2 lo hi) := ⟨194, by decide, by simp [sF]; rfl, rfl, rfl, fun i hi => absurd hi (by decide +revert), Or.inr ⟨by decide, rfl⟩⟩
theorem pkE_3 (lo hi : Int32) : pkE 3 lo hi (pk3 lo hi) := ⟨195, by decide, by simp [sF]; rfl, rfl, rfl, fun i hi => absurd hi (by decide +revert), Or.inr ⟨by decide, rfl⟩⟩
theorem pkE_6 (lo hi : Int32) : pkE 6 lo hi (pk6 lo hi) := ⟨202, by decide, by simp [sF]; rfl, rfl, rfl, fun i h => by
  rw [show wd 202 = 4 by decide] at h
  show by8 (lo.toInt64 &&& 4294967295) i = by8 lo.toInt64 i
  exact by8_mask lo h, Or.inr ⟨by decide, rfl⟩⟩
theorem pkE_7 (lo hi : Int32) : pkE 7 lo hi (pk7 lo hi) := ⟨203, by decide, by simp [sF]; rfl, rfl, rfl, fun i h => rfl, Or.inr ⟨by decide, rfl⟩⟩
theorem w204 : ∀ w, w = 1 ∨ w = 2 ∨ w = 4 ∨ w = 8 → 204 + lgN w < 256 ∧ w = wd (204 + lgN w) ∧ ¬ kd (204 + lgN w) = 12 := by
  intro w h; rcases h with rfl | rfl | rfl | rfl <;> decide
theorem w208 : ∀ w, w = 1 ∨ w = 2 ∨ w = 4 ∨ w = 8 → 208 + lgN w < 256 ∧ w = wd (208 + lgN w) ∧ ¬ kd (208 + lgN w) = 12 := by
  intro w h; rcases h with rfl | rfl | rfl | rfl <;> decide
theorem w217 : ∀ w, w = 1 ∨ w = 2 ∨ w = 4 → 217 + lgN w < 256 ∧ w = wd (217 + lgN w) ∧ ¬ kd (217 + lgN w) = 12 := by
  intro w h; rcases h with rfl | rfl | rfl <;> decide
theorem w196 : ∀ w, w = 1 ∨ w = 2 ∨ w = 4 → 196 + lgN w < 256 ∧ w = wd (196 + lgN w) ∧ ¬ kd (196 + lgN w) = 12 := by
  intro w h; rcases h with rfl | rfl | rfl <;> decide
theorem w199 : ∀ w, w = 1 ∨ w = 2 ∨ w = 4 → 199 + lgN w < 256 ∧ w = wd (199 + lgN w) ∧ kd (199 + lgN w) = 12 := by
  intro w h; rcases h with rfl | rfl | rfl <;> decide
theorem x_small : ∀ b, b < 128 → wd b = 0 ∧ ¬ kd b = 12 := by decide +kernel
theorem pkE_4 (lo hi : Int32) : pkE 4 lo hi (pk4 lo hi) := by
  have hn : nO 4 lo hi = bo lo hi := rfl
  obtain ⟨H, L, hH, hL, e, e1⟩ := bo_nat lo hi
  have hX : H * 4294967296 + L < 2 ^ 64 := by omega
  have hs : sF 4 (bo lo hi) = if bo lo hi < 0 then 204 + us (bo lo hi) else if 128 ≤ bo lo hi then 204 + us (bo lo hi) else (bo lo hi).toInt32 := by simp [sF]
  have c7 : (((bo lo hi).toUInt64 >>> ((7 : Int32).toInt64.toUInt64 &&& Int64.toUInt64 63)).toInt64 = (0 : Int64)) ↔ H * 4294967296 + L < 128 := by
    rw [e, show (7 : Int32) = nI 7 from rfl, wb_shr hX (by decide), show (0 : Int64) = lN 0 from rfl, pk_lEQ (by omega) (by decide)]
    omega
  unfold pkE pk4
  rw [hn, hs]
  by_cases hc : H * 4294967296 + L < 128
  · rw [if_pos (c7.mpr hc)]
    have h0 : H = 0 := by omega
    subst h0
    simp only [Nat.zero_mul, Nat.zero_add] at e hc
    rw [if_neg (by rw [e]; exact lN_nlt (by omega)), if_neg (by rw [e, show (128 : Int64) = lN 128 from rfl, pk_lLE (by decide) (by omega)]; omega)]
    exact ⟨L, by omega, by rw [e, lN_i], e1, (x_small L hc).1.symm, fun i h => absurd h (by rw [(x_small L hc).1]; omega), Or.inr ⟨(x_small L hc).2, rfl⟩⟩
  · rw [if_neg (fun z => hc (c7.mp z))]
    obtain ⟨q1, q2, q3⟩ := w204 _ (nd_cases (bo lo hi))
    have q4 : (204 : Int32) + us (bo lo hi) = nI (204 + lgN (ndN (bo lo hi))) := nI_2 204 _ (us_lg _) rfl
    refine ⟨204 + lgN (ndN (bo lo hi)), q1, ?_, nI_2 204 _ rfl rfl, q2, fun i _ => rfl, Or.inr ⟨q3, rfl⟩⟩
    by_cases h1 : bo lo hi < 0
    · rw [if_pos h1, q4]
    · rw [if_neg h1]
      by_cases h2 : 128 ≤ bo lo hi
      · rw [if_pos h2, q4]
      · exfalso
        rw [e] at h1 h2
        rcases Nat.lt_or_ge (H * 4294967296 + L) (2 ^ 63) with z | z
        · rw [show (128 : Int64) = lN 128 from rfl, pk_lLE (by decide) z] at h2
          omega
        · apply h1
          rw [Int64.lt_iff_toInt_lt]
          have : (lN (H * 4294967296 + L)).toInt = (BitVec.ofNat 64 (H * 4294967296 + L)).toInt := rfl
          rw [this, BitVec.toInt_eq_toNat_cond, BitVec.toNat_ofNat, Nat.mod_eq_of_lt hX, if_neg (by omega)]
          show _ < (0 : Int64).toInt
          have z0 : (0 : Int64).toInt = 0 := by decide
          rw [z0]
          omega
/-! signed -/
theorem s8 (x : Int64) : x = x.toInt32.toInt8.toInt32.toInt64 ↔ -128 ≤ x.toInt ∧ x.toInt < 128 := by
  rw [← Int64.toInt_inj]
  have e : (x.toInt32.toInt8.toInt32.toInt64).toInt = (x.toInt.bmod (2 ^ 32)).bmod (2 ^ 8) := by
    rw [Int32.toInt_toInt64, Int8.toInt_toInt32, Int32.toInt_toInt8, Int64.toInt_toInt32]
  rw [e]
  simp only [Int.bmod]
  omega
theorem s16 (x : Int64) : x = x.toInt32.toInt16.toInt32.toInt64 ↔ -32768 ≤ x.toInt ∧ x.toInt < 32768 := by
  rw [← Int64.toInt_inj]
  have e : (x.toInt32.toInt16.toInt32.toInt64).toInt = (x.toInt.bmod (2 ^ 32)).bmod (2 ^ 16) := by
    rw [Int32.toInt_toInt64, Int16.toInt_toInt32, Int32.toInt_toInt16, Int64.toInt_toInt32]
  rw [e]
  simp only [Int.bmod]
  omega
theorem s32 (x : Int64) : x = x.toInt32.toInt64 ↔ -2147483648 ≤ x.toInt ∧ x.toInt ≤ 2147483647 := by
  rw [← Int64.toInt_inj]
  have e : (x.toInt32.toInt64).toInt = x.toInt.bmod (2 ^ 32) := by
    rw [Int32.toInt_toInt64, Int64.toInt_toInt32]
  rw [e]
  simp only [Int.bmod]
  omega
theorem lt_c (x : Int64) {c : Int64} {k : Int} (hc : c.toInt = k) : (x < c ↔ x.toInt < k) := by rw [Int64.lt_iff_toInt_lt, hc]
theorem le_c (x : Int64) {c : Int64} {k : Int} (hc : c.toInt = k) : (c ≤ x ↔ k ≤ x.toInt) := by rw [Int64.le_iff_toInt_le, hc]
theorem gt_c (x : Int64) {c : Int64} {k : Int} (hc : c.toInt = k) : (c < x ↔ k < x.toInt) := by rw [Int64.lt_iff_toInt_lt, hc]
theorem ss_lg (x : Int64) : ss x = nI (lgN (nsN x)) := by
  have a1 := lt_c x (c := -128) (k := -128) (by decide)
  have a2 := le_c x (c := 128) (k := 128) (by decide)
  have a3 := lt_c x (c := -32768) (k := -32768) (by decide)
  have a4 := le_c x (c := 32768) (k := 32768) (by decide)
  have a5 := lt_c x (c := -2147483648) (k := -2147483648) (by decide)
  have a6 := gt_c x (c := 2147483647) (k := 2147483647) (by decide)
  unfold ss nsN
  simp only [s8, s16, s32, a1, a2, a3, a4, a5, a6]
  by_cases h1 : -128 ≤ x.toInt ∧ x.toInt < 128
  · rw [if_pos h1, if_neg (by omega), if_neg (by omega)]; rfl
  · rw [if_neg h1]
    have n2 : (if x.toInt < -128 then (if x.toInt < -32768 then (if x.toInt < -2147483648 then 8 else if 2147483647 < x.toInt then 8 else 4) else if 32768 ≤ x.toInt then (if x.toInt < -2147483648 then 8 else if 2147483647 < x.toInt then 8 else 4) else 2) else if 128 ≤ x.toInt then (if x.toInt < -32768 then (if x.toInt < -2147483648 then 8 else if 2147483647 < x.toInt then 8 else 4) else if 32768 ≤ x.toInt then (if x.toInt < -2147483648 then 8 else if 2147483647 < x.toInt then 8 else 4) else 2) else 1) = (if -32768 ≤ x.toInt ∧ x.toInt < 32768 then 2 else if -2147483648 ≤ x.toInt ∧ x.toInt ≤ 2147483647 then 4 else 8) := by
      repeat' split
      all_goals omega
    rw [n2]
    by_cases h2 : -32768 ≤ x.toInt ∧ x.toInt < 32768
    · rw [if_pos h2, if_pos h2]; rfl
    · rw [if_neg h2, if_neg h2]
      by_cases h3 : -2147483648 ≤ x.toInt ∧ x.toInt ≤ 2147483647
      · rw [if_pos h3, if_pos h3]; rfl
      · rw [if_neg h3, if_neg h3]; rfl
theorem x_neg : ∀ b, b < 256 → 224 ≤ b → wd b = 0 ∧ ¬ kd b = 12 := by decide +kernel
theorem pkE_5 (lo hi : Int32) : pkE 5 lo hi (pk5 lo hi) := by
  have hn : nO 5 lo hi = bo lo hi := rfl
  have hs : sF 5 (bo lo hi) = if bo lo hi < -32 then 208 + ss (bo lo hi) else if 0 ≤ bo lo hi then 208 + ss (bo lo hi) else 256 + (bo lo hi).toInt32 := by simp [sF]
  unfold pkE pk5
  rw [hn, hs]
  generalize bo lo hi = x
  obtain ⟨q1, q2, q3⟩ := w208 _ (ns_cases x)
  have q4 : (208 : Int32) + ss x = nI (208 + lgN (nsN x)) := nI_2 208 _ (ss_lg _) rfl
  by_cases h1 : x < -32
  · rw [if_pos h1, if_pos h1]
    exact ⟨208 + lgN (nsN x), q1, q4, nI_2 208 _ rfl rfl, q2, fun i _ => rfl, Or.inr ⟨q3, rfl⟩⟩
  · rw [if_neg h1, if_neg h1]
    by_cases h2 : 0 ≤ x
    · rw [if_pos h2, if_pos h2]
      exact ⟨208 + lgN (nsN x), q1, q4, nI_2 208 _ rfl rfl, q2, fun i _ => rfl, Or.inr ⟨q3, rfl⟩⟩
    · rw [if_neg h2, if_neg h2]
      rw [lt_c x (c := -32) (k := -32) (by decide)] at h1
      rw [le_c x (c := 0) (k := 0) (by decide)] at h2
      have e : (256 : Int32) + x.toInt32 = nI (256 + x.toInt).toNat := by
        apply Int32.toInt_inj.mp
        rw [nI_toInt (by omega), Int32.toInt_add, Int64.toInt_toInt32, show (256 : Int32).toInt = 256 by decide]
        simp only [Int.bmod]
        omega
      have hb : (256 + x.toInt).toNat < 256 := by omega
      have hb2 : 224 ≤ (256 + x.toInt).toNat := by omega
      refine ⟨(256 + x.toInt).toNat, hb, e, ?_, (x_neg _ hb hb2).1.symm, fun i h => absurd h (by rw [(x_neg _ hb hb2).1]; omega), Or.inr ⟨(x_neg _ hb hb2).2, rfl⟩⟩
      rw [← e]
      exact Int32.add_comm _ _
