/-! kinds with a length or a count -/
theorem lo_nat {lo : Int32} (h : ¬ lo < 0) : ∃ L : Nat, L < 2 ^ 31 ∧ lo = nI L ∧ lo.toInt64 = lN L ∧ lo.toInt64 &&& 4294967295 = lN L := by
  obtain ⟨L, hL, e⟩ := nI_of h
  refine ⟨L, hL, e, by rw [e, nI_l hL], ?_⟩
  rw [mask_lo, e]
  congr 1
  show (BitVec.ofNat 32 L).toNat = L
  rw [BitVec.toNat_ofNat, Nat.mod_eq_of_lt (by omega)]
theorem x_text : ∀ L, L < 32 → 160 + L < 256 ∧ wd (160 + L) = 0 ∧ ¬ kd (160 + L) = 12 := by decide +kernel
theorem x_arr : ∀ L, L < 16 → 144 + L < 256 ∧ wd (144 + L) = 0 ∧ ¬ kd (144 + L) = 12 := by decide +kernel
theorem x_map : ∀ L, L < 16 → 128 + L < 256 ∧ wd (128 + L) = 0 ∧ ¬ kd (128 + L) = 12 := by decide +kernel
theorem le_L {L : Nat} (hL : L < 2 ^ 31) (c : Nat) (hc : c < 2 ^ 31) : (nI c ≤ nI L ↔ c ≤ L) ∧ (lN c ≤ lN L ↔ c ≤ L) := ⟨nI_leI hc hL, pk_lLE (by omega) (by omega)⟩
theorem pkE_8 {lo : Int32} (hi : Int32) (h : ¬ lo < 0) : pkE 8 lo hi (pk8 lo hi) := by
  obtain ⟨L, hL, e1, e2, e3⟩ := lo_nat h
  have hn : nO 8 lo hi = lN L := e3
  have hs : sF 8 (lN L) = if 32 ≤ lN L then 217 + us (lN L) else 160 + (lN L).toInt32 := by simp [sF]
  unfold pkE pk8
  rw [hn, hs, e2]
  by_cases hc : 32 ≤ L
  · rw [if_pos (show (32 : Int32) ≤ lo by rw [e1]; exact (le_L hL 32 (by decide)).1.mpr hc), if_pos (show (32 : Int64) ≤ lN L from (le_L hL 32 (by decide)).2.mpr hc)]
    obtain ⟨q1, q2, q3⟩ := w217 _ (nd_small (L := L) (by omega))
    exact ⟨217 + lgN (ndN (lN L)), q1, nI_2 217 _ (us_lg _) rfl, nI_2 217 _ rfl rfl, q2, fun i _ => rfl, Or.inr ⟨q3, rfl⟩⟩
  · rw [if_neg (show ¬ (32 : Int32) ≤ lo by rw [e1]; exact fun z => hc ((le_L hL 32 (by decide)).1.mp z)), if_neg (show ¬ (32 : Int64) ≤ lN L from fun z => hc ((le_L hL 32 (by decide)).2.mp z))]
    obtain ⟨q1, q2, q3⟩ := x_text L (by omega)
    exact ⟨160 + L, q1, nI_2 160 L (lN_i L) rfl, nI_2 160 L e1 rfl, q2.symm, fun i z => absurd z (by rw [q2]; omega), Or.inr ⟨q3, rfl⟩⟩
theorem pkE_9 {lo : Int32} (hi : Int32) (h : ¬ lo < 0) : pkE 9 lo hi (pk9 lo hi) := by
  obtain ⟨L, hL, e1, e2, e3⟩ := lo_nat h
  have hn : nO 9 lo hi = lN L := e3
  have hs : sF 9 (lN L) = 196 + us (lN L) := by simp [sF]
  unfold pkE pk9
  rw [hn, hs, e2]
  obtain ⟨q1, q2, q3⟩ := w196 _ (nd_small (L := L) (by omega))
  exact ⟨196 + lgN (ndN (lN L)), q1, nI_2 196 _ (us_lg _) rfl, nI_2 196 _ rfl rfl, q2, fun i _ => rfl, Or.inr ⟨q3, rfl⟩⟩
theorem cs_L {L : Nat} (hL : L < 2 ^ 31) : cs (lN L) = if 65536 ≤ L then 1 else 0 := by
  unfold cs
  rw [show (16 : Int32) = nI 16 from rfl, wb_shr (by omega) (by decide), show (0 : Int64) = lN 0 from rfl]
  by_cases hc : 65536 ≤ L
  · rw [if_neg (by rw [pk_lEQ (by omega) (by decide)]; omega), if_pos hc]
  · rw [if_pos (by rw [pk_lEQ (by omega) (by decide)]; omega), if_neg hc]
theorem pkE_10 {lo : Int32} (hi : Int32) (h : ¬ lo < 0) : pkE 10 lo hi (pk10 lo hi) := by
  obtain ⟨L, hL, e1, e2, e3⟩ := lo_nat h
  have hn : nO 10 lo hi = lN L := e3
  have hs : sF 10 (lN L) = if 16 ≤ lN L then 220 + cs (lN L) else 144 + (lN L).toInt32 := by simp [sF]
  unfold pkE pk10
  rw [hn, hs, e2, cs_L hL]
  by_cases hc : 16 ≤ L
  · rw [if_pos (show (16 : Int32) ≤ lo by rw [e1]; exact (le_L hL 16 (by decide)).1.mpr hc), if_pos (show (16 : Int64) ≤ lN L from (le_L hL 16 (by decide)).2.mpr hc)]
    by_cases hd : 65536 ≤ L
    · rw [if_pos (show (65536 : Int32) ≤ lo by rw [e1]; exact (le_L hL 65536 (by decide)).1.mpr hd), if_pos hd]
      exact ⟨221, by decide, rfl, rfl, rfl, fun i _ => rfl, Or.inr ⟨by decide, rfl⟩⟩
    · rw [if_neg (show ¬ (65536 : Int32) ≤ lo by rw [e1]; exact fun z => hd ((le_L hL 65536 (by decide)).1.mp z)), if_neg hd]
      exact ⟨220, by decide, rfl, rfl, rfl, fun i _ => rfl, Or.inr ⟨by decide, rfl⟩⟩
  · rw [if_neg (show ¬ (16 : Int32) ≤ lo by rw [e1]; exact fun z => hc ((le_L hL 16 (by decide)).1.mp z)), if_neg (show ¬ (16 : Int64) ≤ lN L from fun z => hc ((le_L hL 16 (by decide)).2.mp z))]
    obtain ⟨q1, q2, q3⟩ := x_arr L (by omega)
    exact ⟨144 + L, q1, nI_2 144 L (lN_i L) rfl, nI_2 144 L e1 rfl, q2.symm, fun i z => absurd z (by rw [q2]; omega), Or.inr ⟨q3, rfl⟩⟩
theorem pkE_11 {lo : Int32} (hi : Int32) (h : ¬ lo < 0) : pkE 11 lo hi (pk11 lo hi) := by
  obtain ⟨L, hL, e1, e2, e3⟩ := lo_nat h
  have hn : nO 11 lo hi = lN L := e3
  have hs : sF 11 (lN L) = if 16 ≤ lN L then 222 + cs (lN L) else 128 + (lN L).toInt32 := by simp [sF]
  unfold pkE pk11
  rw [hn, hs, e2, cs_L hL]
  by_cases hc : 16 ≤ L
  · rw [if_pos (show (16 : Int32) ≤ lo by rw [e1]; exact (le_L hL 16 (by decide)).1.mpr hc), if_pos (show (16 : Int64) ≤ lN L from (le_L hL 16 (by decide)).2.mpr hc)]
    by_cases hd : 65536 ≤ L
    · rw [if_pos (show (65536 : Int32) ≤ lo by rw [e1]; exact (le_L hL 65536 (by decide)).1.mpr hd), if_pos hd]
      exact ⟨223, by decide, rfl, rfl, rfl, fun i _ => rfl, Or.inr ⟨by decide, rfl⟩⟩
    · rw [if_neg (show ¬ (65536 : Int32) ≤ lo by rw [e1]; exact fun z => hd ((le_L hL 65536 (by decide)).1.mp z)), if_neg hd]
      exact ⟨222, by decide, rfl, rfl, rfl, fun i _ => rfl, Or.inr ⟨by decide, rfl⟩⟩
  · rw [if_neg (show ¬ (16 : Int32) ≤ lo by rw [e1]; exact fun z => hc ((le_L hL 16 (by decide)).1.mp z)), if_neg (show ¬ (16 : Int64) ≤ lN L from fun z => hc ((le_L hL 16 (by decide)).2.mp z))]
    obtain ⟨q1, q2, q3⟩ := x_map L (by omega)
    exact ⟨128 + L, q1, nI_2 128 L (lN_i L) rfl, nI_2 128 L e1 rfl, q2.symm, fun i z => absurd z (by rw [q2]; omega), Or.inr ⟨q3, rfl⟩⟩
theorem pkE_12 {lo : Int32} (hi : Int32) (h : ¬ lo < 0) : pkE 12 lo hi (pk12 lo hi) := by
  obtain ⟨L, hL, e1, e2, e3⟩ := lo_nat h
  have hn : nO 12 lo hi = lN L := e3
  have hs : sF 12 (lN L) = eF (lN L) 5 0 := by simp [sF]
  have p0 : (lN L = (1 : Int64) <<< ((nI 0).toInt64 &&& 63)) ↔ L = 1 := by rw [show (1 : Int64) <<< ((nI 0).toInt64 &&& 63) = lN 1 by decide, pk_lEQ (by omega) (by decide)]
  have p1 : (lN L = (1 : Int64) <<< ((nI 1).toInt64 &&& 63)) ↔ L = 2 := by rw [show (1 : Int64) <<< ((nI 1).toInt64 &&& 63) = lN 2 by decide, pk_lEQ (by omega) (by decide)]
  have p2 : (lN L = (1 : Int64) <<< ((nI 2).toInt64 &&& 63)) ↔ L = 4 := by rw [show (1 : Int64) <<< ((nI 2).toInt64 &&& 63) = lN 4 by decide, pk_lEQ (by omega) (by decide)]
  have p3 : (lN L = (1 : Int64) <<< ((nI 3).toInt64 &&& 63)) ↔ L = 8 := by rw [show (1 : Int64) <<< ((nI 3).toInt64 &&& 63) = lN 8 by decide, pk_lEQ (by omega) (by decide)]
  have p4 : (lN L = (1 : Int64) <<< ((nI 4).toInt64 &&& 63)) ↔ L = 16 := by rw [show (1 : Int64) <<< ((nI 4).toInt64 &&& 63) = lN 16 by decide, pk_lEQ (by omega) (by decide)]
  have r0 : (lo = (1 : Int32)) ↔ L = 1 := by rw [e1]; exact nI_eq (b := 1) hL (by decide)
  have r1 : (lo = (2 : Int32)) ↔ L = 2 := by rw [e1]; exact nI_eq (b := 2) hL (by decide)
  have r2 : (lo = (4 : Int32)) ↔ L = 4 := by rw [e1]; exact nI_eq (b := 4) hL (by decide)
  have r3 : (lo = (8 : Int32)) ↔ L = 8 := by rw [e1]; exact nI_eq (b := 8) hL (by decide)
  have r4 : (lo = (16 : Int32)) ↔ L = 16 := by rw [e1]; exact nI_eq (b := 16) hL (by decide)
  unfold pkE pk12
  rw [hn, hs, e2]
  unfold eF eF eF eF eF eF
  simp only [Nat.zero_add, Nat.reduceAdd, p0, p1, p2, p3, p4, r0, r1, r2, r3, r4]
  by_cases h0 : L = 1
  · rw [if_pos h0, if_pos h0]
    exact ⟨212, by decide, rfl, rfl, rfl, fun i z => absurd z (by rw [show wd 212 = 0 by decide]; omega), Or.inl ⟨by decide, rfl⟩⟩
  · rw [if_neg h0, if_neg h0]
    by_cases h1 : L = 2
    · rw [if_pos h1, if_pos h1]
      exact ⟨213, by decide, rfl, rfl, rfl, fun i z => absurd z (by rw [show wd 213 = 0 by decide]; omega), Or.inl ⟨by decide, rfl⟩⟩
    · rw [if_neg h1, if_neg h1]
      by_cases h2 : L = 4
      · rw [if_pos h2, if_pos h2]
        exact ⟨214, by decide, rfl, rfl, rfl, fun i z => absurd z (by rw [show wd 214 = 0 by decide]; omega), Or.inl ⟨by decide, rfl⟩⟩
      · rw [if_neg h2, if_neg h2]
        by_cases h3 : L = 8
        · rw [if_pos h3, if_pos h3]
          exact ⟨215, by decide, rfl, rfl, rfl, fun i z => absurd z (by rw [show wd 215 = 0 by decide]; omega), Or.inl ⟨by decide, rfl⟩⟩
        · rw [if_neg h3, if_neg h3]
          by_cases h4 : L = 16
          · rw [if_pos h4, if_pos h4]
            exact ⟨216, by decide, rfl, rfl, rfl, fun i z => absurd z (by rw [show wd 216 = 0 by decide]; omega), Or.inl ⟨by decide, rfl⟩⟩
          · rw [if_neg h4, if_neg h4]
            obtain ⟨q1, q2, q3⟩ := w199 _ (nd_small (L := L) (by omega))
            exact ⟨199 + lgN (ndN (lN L)), q1, nI_2 199 _ (us_lg _) rfl, nI_2 199 _ rfl rfl, q2, fun i _ => rfl, Or.inl ⟨q3, rfl⟩⟩
/-- behind pack the bytes agree again -/
theorem RB_pack {n : Nat} {f fb : Nat → Int32} {k lo hi : Int32} {T : pkY} {b : Nat} (hb : b < 256) (h : RB n f fb) (h1 : T.1 = nI b) (h2 : T.2.1 = wd b) (h3 : ∀ i, i < wd b → by8 (nO k lo hi) i = by8 T.2.2.1 i) (h4 : (kd b = 12 ∧ T.2.2.2 = hi &&& 255) ∨ (¬ kd b = 12 ∧ T.2.2.2 = -1)) :
    phL T = hd b ∧ RB (n + hd b) (apR (apR (apR f n (nI b).toInt64 1) (n + 1) (nO k lo hi) (wd b)) (n + 1 + wd b) hi.toInt64 (tW b)) (phF fb n T) := by
  have s1 : RB (n + 1) (apR f n (nI b).toInt64 1) (upd fb n T.1) := by
    have := RB_upd h (nI b).toInt64 (i := 0) (by decide) (y := T.1) (by rw [h1, by8_b hb])
    exact this
  have s2 := RB_app (wd b) (n + 1) _ _ (wd_le b hb) h3 s1
  obtain ⟨T1, T2, T3, T4⟩ := T
  simp only at h1 h2 h3 h4 s1 s2
  subst h2
  rcases h4 with ⟨h4, h5⟩ | ⟨h4, h5⟩
  · have hne : ¬ T4 = -1 := by rw [h5]; exact (and255 hi).2
    have ht : tW b = 1 := if_pos h4
    refine ⟨?_, ?_⟩
    · rw [phL_m hne]; unfold hd; rw [if_pos h4]
    · rw [phF_m hne, ht, show n + hd b = n + 1 + wd b + 1 by unfold hd; rw [if_pos h4]; omega]
      refine RB_app 1 (n + 1 + wd b) _ _ (by decide) ?_ s2
      intro i hi1
      have : i = 0 := by omega
      subst this
      rw [h5]; exact by8_t hi
  · subst h5
    have ht : tW b = 0 := if_neg h4
    refine ⟨?_, ?_⟩
    · rw [phL_n]; unfold hd; rw [if_neg h4]; rfl
    · rw [phF_n, ht, show n + hd b = n + 1 + wd b by unfold hd; rw [if_neg h4]; omega]
      exact s2
