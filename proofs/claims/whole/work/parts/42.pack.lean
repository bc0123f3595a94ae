/-! pack: the class's form and the reference's, kind by kind -/
def pkE (k lo hi : Int32) (T : pkY) : Prop := ∃ b : Nat, b < 256 ∧ sF k (nO k lo hi) = nI b ∧ T.1 = nI b ∧ T.2.1 = wd b ∧ (∀ i, i < wd b → by8 (nO k lo hi) i = by8 T.2.2.1 i) ∧ ((kd b = 12 ∧ T.2.2.2 = hi &&& 255) ∨ (¬ kd b = 12 ∧ T.2.2.2 = -1))
theorem i32_nat (x : Int32) : ∃ n, n < 2 ^ 32 ∧ x = nI n ∧ x.toBitVec.toNat = n := ⟨x.toBitVec.toNat, x.toBitVec.isLt, Int32.toBitVec_inj.mp (BitVec.eq_of_toNat_eq (by show _ = (BitVec.ofNat 32 _).toNat; rw [BitVec.toNat_ofNat, Nat.mod_eq_of_lt x.toBitVec.isLt])), rfl⟩
theorem i64_lo (x : Int32) : x.toInt64.toBitVec.toNat % 4294967296 = x.toBitVec.toNat := by
  have h1 : x.toInt64.toBitVec.toInt = x.toBitVec.toInt := by
    show x.toInt64.toInt = x.toInt
    exact Int32.toInt_toInt64 x
  have h2 := x.toInt64.toBitVec.isLt
  have h3 := x.toBitVec.isLt
  rw [BitVec.toInt_eq_toNat_cond, BitVec.toInt_eq_toNat_cond] at h1
  split at h1 <;> split at h1 <;> omega
theorem mask_lo (x : Int32) : x.toInt64 &&& 4294967295 = lN x.toBitVec.toNat := by
  obtain ⟨n, hn, e⟩ := wb_of x.toInt64
  have h := i64_lo x
  rw [e] at h ⊢
  rw [wb_tn hn] at h
  have e2 : lN n &&& lN (2 ^ 32 - 1) = lN (n % 2 ^ 32) := wb_mask hn (by decide)
  rw [show (4294967295 : Int64) = lN (2 ^ 32 - 1) from rfl, e2, ← h]
theorem by8_lN {n : Nat} (hn : n < 2 ^ 64) (i : Nat) : by8 (lN n) i = n / 2 ^ (8 * i) % 256 := by
  unfold by8; rw [wb_tn hn]
theorem by8_mask (x : Int32) {i : Nat} (hi : i < 4) : by8 (x.toInt64 &&& 4294967295) i = by8 x.toInt64 i := by
  rw [mask_lo, by8_lN (by have := x.toBitVec.isLt; omega)]
  have h := i64_lo x
  unfold by8
  rw [← h]
  rcases (show i = 0 ∨ i = 1 ∨ i = 2 ∨ i = 3 by omega) with rfl | rfl | rfl | rfl <;> omega
theorem by8_0 (x : Int32) : by8 x.toInt64 0 = x.toBitVec.toNat % 256 := by
  have h := i64_lo x
  unfold by8
  omega
theorem by8_b {b : Nat} (hb : b < 256) : by8 (nI b).toInt64 0 = b := by
  rw [nI_l (by omega), by8_lN (by omega)]
  omega
theorem by8_t (x : Int32) : by8 x.toInt64 0 = by8 (x &&& 255 : Int32).toInt64 0 := by
  have e : x &&& 255 = nI (x.toBitVec.toNat % 2 ^ 8) := pk_and x 8 (by decide)
  have h : x.toBitVec.toNat % 2 ^ 8 < 256 := Nat.mod_lt _ (by decide)
  rw [by8_0, e, by8_b h]
theorem bo_nat (lo hi : Int32) : ∃ H L : Nat, H < 4294967296 ∧ L < 4294967296 ∧ bo lo hi = lN (H * 4294967296 + L) ∧ lo = nI L := by
  obtain ⟨h, hh, e⟩ := wb_of hi.toInt64
  obtain ⟨L, hL, e1, e2⟩ := i32_nat lo
  refine ⟨h % 4294967296, L, Nat.mod_lt _ (by decide), by omega, ?_, e1⟩
  unfold bo
  rw [mask_lo, e2, e, show (32 : Int32) = nI 32 from rfl, wb_shl _ (by decide), wb_mod (h * 2 ^ 32)]
  have e3 : h * 2 ^ 32 % 2 ^ 64 = (h % 4294967296) * 4294967296 := by omega
  rw [e3]
  exact g_or (k := 32) (p := 4294967296) (by decide) (by omega) (by omega)
theorem us_lg (x : Int64) : us x = nI (lgN (ndN x)) := by
  unfold us ndN
  repeat' split
  all_goals rfl
theorem nd_cases (x : Int64) : ndN x = 1 ∨ ndN x = 2 ∨ ndN x = 4 ∨ ndN x = 8 := by
  unfold ndN
  repeat' split
  all_goals omega
theorem ns_cases (x : Int64) : nsN x = 1 ∨ nsN x = 2 ∨ nsN x = 4 ∨ nsN x = 8 := by
  unfold nsN
  repeat' split
  all_goals omega
theorem nd_small {L : Nat} (h : L < 4294967296) : ndN (lN L) = 1 ∨ ndN (lN L) = 2 ∨ ndN (lN L) = 4 := by
  unfold ndN
  have e : (((lN L).toUInt64 >>> ((32 : Int32).toInt64.toUInt64 &&& Int64.toUInt64 63)).toInt64) = (0 : Int64) := by
    rw [show (32 : Int32) = nI 32 from rfl, wb_shr (by omega) (by decide), Nat.div_eq_of_lt (by omega)]
    rfl
  rw [if_pos e]
  repeat' split
  all_goals omega
theorem nI_2 (a : Nat) (b : Nat) {x : Int32} (h : x = nI b) {y : Int32} (hy : y = nI a) : y + x = nI (a + b) := by rw [h, hy, nI_add]
theorem lN_nlt {n : Nat} (h : n < 2 ^ 63) : ¬ lN n < 0 := by
  rw [show (0 : Int64) = lN 0 from rfl, pk_lLT h (by decide)]; omega
