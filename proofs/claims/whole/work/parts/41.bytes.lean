def by8 (x : Int64) (i : Nat) : Nat := (x.toBitVec.toNat / 2 ^ (8 * i)) % 256
theorem by8_lt (x : Int64) (i : Nat) : by8 x i < 256 := Nat.mod_lt _ (by decide)
theorem m8 (i : Nat) : (8 : Int32) * nI i = nI (8 * i) := pk_mul 8 i
theorem bm_ok (x : Int64) {i : Nat} (hi : i < 8) : bm x i = nI (by8 x i) := by
  unfold bm by8
  rw [m8, sa_and x (by omega)]
  obtain ⟨n, hn, rfl⟩ := wb_of x
  rw [wb_shr hn (by omega), wb_tn hn]
  have e : lN (n / 2 ^ (8 * i)) &&& 255 = lN (n / 2 ^ (8 * i) % 2 ^ 8) := wb_mask (k := 8) (Nat.lt_of_le_of_lt (Nat.div_le_self _ _) hn) (by decide)
  rw [e, lN_i]
theorem nI_255 (m : Nat) : nI m &&& 255 = nI (m % 256) := by
  rw [pk_and (nI m) 8 (by decide)]
  congr 1
  show (BitVec.ofNat 32 m).toNat % 2 ^ 8 = m % 256
  rw [BitVec.toNat_ofNat]
  omega
theorem i8_i8 (x : Int32) : x.toInt8.toInt32.toInt8.toInt32 = x.toInt8.toInt32 := (vp_nar_byte _).symm.trans (pk_vb x)
theorem bb_eq (x : Int64) {i : Nat} (hi : i < 8) : ∃ m : Nat, bb x i = (nI m).toInt8.toInt32 ∧ m % 256 = by8 x i := by
  unfold bb by8
  rw [m8]
  obtain ⟨n, hn, rfl⟩ := wb_of x
  rw [wb_shr hn (by omega), wb_tn hn, lN_i, pk_vb]
  exact ⟨_, rfl, rfl⟩
theorem bb_ok (x : Int64) {i : Nat} (hi : i < 8) : (bb x i).toBitVec.toNat % 256 = by8 x i ∧ (bb x i).toInt8.toInt32 = bb x i := by
  obtain ⟨m, e, h⟩ := bb_eq x hi
  rw [e]
  refine ⟨?_, i8_i8 _⟩
  have e1 : (nI m).toInt8.toInt32 &&& 255 = nI ((nI m).toInt8.toInt32.toBitVec.toNat % 2 ^ 8) := pk_and _ 8 (by decide)
  rw [bp_b, nI_255, h] at e1
  have l1 := by8_lt x i
  have l2 : (nI m).toInt8.toInt32.toBitVec.toNat % 2 ^ 8 < 256 := Nat.mod_lt _ (by decide)
  exact ((nI_eq (by omega) (by omega)).mp e1).symm
/-- the class's bytes and the reference's, up to n -/
def RB (n : Nat) (f fb : Nat → Int32) : Prop := ∀ j, j < n → fb j = nI (bY f j) ∧ (f j).toInt8.toInt32 = f j
theorem RB_upd {n : Nat} {f fb : Nat → Int32} (h : RB n f fb) (x : Int64) {i : Nat} (hi : i < 8) {y : Int32} (hy : y = nI (by8 x i)) : RB (n + 1) (upd f n (bb x i)) (upd fb n y) := by
  intro j hj
  by_cases e : j = n
  · subst e
    unfold bY
    rw [pk_us, pk_us, hy, (bb_ok x hi).1]
    exact ⟨rfl, (bb_ok x hi).2⟩
  · unfold bY
    rw [pk_un e, pk_un e]
    exact h j (by omega)
theorem RB_app {x y : Int64} : ∀ (k n : Nat) (f fb : Nat → Int32), k ≤ 8 → (∀ i, i < k → by8 x i = by8 y i) → RB n f fb → RB (n + k) (apR f n x k) (apM fb n y k) := by
  intro k
  induction k with
  | zero => intro n f fb _ _ h; exact h
  | succ k ih =>
    intro n f fb hk hxy h
    have h1 := RB_upd h x (i := k) (by omega) (y := bm y k) (by rw [bm_ok y (by omega), hxy k (by omega)])
    have h2 := ih (n + 1) _ _ (by omega) (fun i hi => hxy i (by omega)) h1
    rw [show n + (k + 1) = n + 1 + k by omega]
    exact h2
theorem apR_lo {x : Int64} : ∀ (k n : Nat) (f : Nat → Int32) (j : Nat), j < n → apR f n x k j = f j := by
  intro k
  induction k with
  | zero => intro n f j _; rfl
  | succ k ih =>
    intro n f j hj
    show apR (upd f n (bb x k)) (n + 1) x k j = f j
    rw [ih (n + 1) _ j (by omega), pk_un (by omega)]
theorem RB_cut {n m : Nat} {f fb : Nat → Int32} (h : RB n f fb) (hm : m ≤ n) : RB m f fb := fun j hj => h j (by omega)
theorem RB_0 (f fb : Nat → Int32) : RB 0 f fb := fun j hj => absurd hj (Nat.not_lt_zero _)
/-! what a head tells depends on its own bytes alone -/
theorem rd_cg {B B' : Nat → Nat} {a : Nat} : ∀ k, (∀ i, i < k → B (a + i) = B' (a + i)) → rd B a k = rd B' a k := by
  intro k
  induction k with
  | zero => intro _; rfl
  | succ k ih =>
    intro h
    show (rd B a k <<< _) ||| (nI (B (a + k))).toInt64 = (rd B' a k <<< _) ||| (nI (B' (a + k))).toInt64
    rw [ih (fun i hi => h i (by omega)), h k (by omega)]
theorem hd_pos (b : Nat) : 1 ≤ hd b := by unfold hd; omega
theorem wd_hd (b : Nat) : 1 + wd b ≤ hd b := by unfold hd; omega
theorem nv_cg {B B' : Nat → Nat} {a m : Nat} (h : ∀ j, j < m → B j = B' j) (ha : a + hd (B a) ≤ m) : nv B a = nv B' a := by
  have h0 := hd_pos (B a)
  have h1 := wd_hd (B a)
  have e : B a = B' a := h a (by omega)
  unfold nv
  rw [rd_cg (B := B) (B' := B') (wd (B a)) (fun i hi => h _ (by omega)), e]
theorem pl_cg {B B' : Nat → Nat} {a m : Nat} (h : ∀ j, j < m → B j = B' j) (ha : a + hd (B a) ≤ m) : pl B a = pl B' a := by
  have h0 := hd_pos (B a)
  unfold pl
  rw [nv_cg h ha, h a (by omega)]
theorem hiV_cg {B B' : Nat → Nat} {a m : Nat} (h : ∀ j, j < m → B j = B' j) (ha : a + hd (B a) ≤ m) : hiV B a = hiV B' a := by
  have h0 := hd_pos (B a)
  unfold hiV tyS
  rw [nv_cg h ha, h (a + hd (B a) - 1) (by omega), h a (by omega)]
/-- the value given last, in both classes -/
def GV (f : Nat → Int32) (c : Nat) (zg zlk zlo zhi zlp zll : Int32) : Prop :=
  (zg = -1 ∧ zlk = -1 ∧ zlo = 0 ∧ zhi = 0 ∧ zlp = nI 0 ∧ zll = nI 0) ∨
  (∃ a v : Nat, zg = nI a ∧ a + hd (bY f a) + v ≤ c ∧ pl (bY f) a = nI v ∧ zlk = nI (kd (bY f a)) ∧ zlo = (nv (bY f) a).toInt32 ∧ zhi = hiV (bY f) a ∧ zlp = nI (a + hd (bY f a)) ∧ zll = nI v)
theorem GV_mono {f f' : Nat → Int32} {c c' : Nat} {zg zlk zlo zhi zlp zll : Int32} (h : GV f c zg zlk zlo zhi zlp zll) (hf : ∀ j, j < c → f' j = f j) (hc : c ≤ c') : GV f' c' zg zlk zlo zhi zlp zll := by
  rcases h with h | ⟨a, v, h1, h2, h3, h4, h5, h6, h7, h8⟩
  · exact Or.inl h
  · have hB : ∀ j, j < c → bY f j = bY f' j := fun j hj => by unfold bY; rw [hf j hj]
    have h0 := hd_pos (bY f a)
    have e : bY f a = bY f' a := hB a (by omega)
    have hh : a + hd (bY f a) ≤ c := by omega
    refine Or.inr ⟨a, v, h1, ?_, ?_, ?_, ?_, ?_, ?_, h8⟩
    · rw [← e]; omega
    · rw [← pl_cg hB hh]; exact h3
    · rw [← e]; exact h4
    · rw [← nv_cg hB hh]; exact h5
    · rw [← hiV_cg hB hh]; exact h6
    · rw [← e]; exact h7
/-! valueHigh -/
theorem ty_dec : ∀ b, b < 256 → (nI b).toInt8.toInt32 = if nI b ≤ 127 then nI b else nI b - 256 := by decide +kernel
theorem i8_of (x : Int32) : (nI (x.toBitVec.toNat % 256)).toInt8.toInt32 = x.toInt8.toInt32 := by
  have e : x &&& 255 = nI (x.toBitVec.toNat % 2 ^ 8) := pk_and x 8 (by decide)
  apply Int32.toBitVec_inj.mp
  rw [Int8.toBitVec_toInt32, Int8.toBitVec_toInt32, Int32.toBitVec_toInt8, Int32.toBitVec_toInt8]
  congr 1
  show (nI (x.toBitVec.toNat % 2 ^ 8)).toBitVec.signExtend 8 = _
  rw [← e, Int32.toBitVec_and]
  apply BitVec.eq_of_getLsbD_eq
  intro i hi
  have hm : ∀ i < 8, (255 : Int32).toBitVec.getLsbD i = true := by decide
  rw [BitVec.getLsbD_signExtend, BitVec.getLsbD_signExtend, if_pos (by omega), if_pos (by omega), BitVec.getLsbD_and, hm i hi, Bool.and_true]
theorem kd_small : ∀ b, b < 256 → (decide (¬ kd b = 12) && (decide (¬ kd b = 4) && (decide (¬ kd b = 5) && decide (¬ kd b = 7)))) = true → wd b ≤ 4 ∧ (wd b = 0 → ow b = lN (ow b).toBitVec.toNat ∧ (ow b).toBitVec.toNat < 32) := by decide +kernel
theorem nv_small {B : Nat → Nat} (hB : ∀ j, B j < 256) {a : Nat} (h1 : ¬ kd (B a) = 12) (h2 : ¬ kd (B a) = 4) (h3 : ¬ kd (B a) = 5) (h4 : ¬ kd (B a) = 7) : ∃ v, v < 4294967296 ∧ nv B a = lN v := by
  obtain ⟨q1, q2⟩ := kd_small (B a) (hB a) (andB h1 (andB h2 (andB h3 (decide_eq_true h4))))
  unfold nv
  by_cases hw : wd (B a) = 0
  · rw [if_pos hw]
    obtain ⟨z3, z4⟩ := q2 hw
    exact ⟨_, by omega, z3⟩
  · rw [if_neg hw, if_neg h3, rd_rn hB _ _ (by omega)]
    refine ⟨_, ?_, rfl⟩
    have h5 := rn_lt hB (a + 1) (wd (B a))
    have h6 : (256 : Nat) ^ (wd (B a)) ≤ 256 ^ 4 := Nat.pow_le_pow_right (by decide) q1
    have h7 : (256 : Nat) ^ 4 = 4294967296 := by decide
    omega
theorem vh_hiV {f : Nat → Int32} {a : Nat} (hf : (f (a + hd (bY f a) - 1)).toInt8.toInt32 = f (a + hd (bY f a) - 1)) : vh f a = hiV (bY f) a := by
  have hk := kd_le _ (bY_lt f a)
  have k12 : (nI (kd (bY f a)) = (12 : Int32) ↔ kd (bY f a) = 12) := nI_e12 _ hk 12 (by decide)
  have k4 : (nI (kd (bY f a)) = (4 : Int32) ↔ kd (bY f a) = 4) := nI_e12 _ hk 4 (by decide)
  have k5 : (nI (kd (bY f a)) = (5 : Int32) ↔ kd (bY f a) = 5) := nI_e12 _ hk 5 (by decide)
  have k7 : (nI (kd (bY f a)) = (7 : Int32) ↔ kd (bY f a) = 7) := nI_e12 _ hk 7 (by decide)
  unfold vh hiV hiS
  by_cases h1 : kd (bY f a) = 12
  · rw [if_pos h1, if_pos (k12.mpr h1)]
    unfold tyS
    rw [← ty_dec _ (bY_lt f _)]
    unfold bY at hf ⊢
    rw [i8_of]
    exact hf.symm
  · rw [if_neg h1, if_neg (fun z => h1 (k12.mp z)), sh32]
    by_cases h2 : kd (bY f a) = 4
    · rw [if_pos (k4.mpr h2)]
    · rw [if_neg (fun z => h2 (k4.mp z))]
      by_cases h3 : kd (bY f a) = 5
      · rw [if_pos (k5.mpr h3)]
      · rw [if_neg (fun z => h3 (k5.mp z))]
        by_cases h4 : kd (bY f a) = 7
        · rw [if_pos (k7.mpr h4)]
        · rw [if_neg (fun z => h4 (k7.mp z))]
          obtain ⟨v, hv, e⟩ := nv_small (bY_lt f) h1 h2 h3 h4
          rw [e, ← sh32, show (32 : Int32) = nI 32 from rfl, wb_shr (by omega) (by decide), lN_i]
          show nI (v / 2 ^ 32) = 0
          rw [Nat.div_eq_of_lt (by omega)]
          rfl
