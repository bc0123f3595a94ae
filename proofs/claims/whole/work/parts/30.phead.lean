def lgN (k : Nat) : Nat := if k = 1 then 0 else if k = 2 then 1 else if k = 4 then 2 else 3
def ndN (x : Int64) : Nat := if (x.toUInt64 >>> ((8 : Int32).toInt64.toUInt64 &&& Int64.toUInt64 63)).toInt64 = (0 : Int64) then 1 else if (x.toUInt64 >>> ((16 : Int32).toInt64.toUInt64 &&& Int64.toUInt64 63)).toInt64 = (0 : Int64) then 2 else if (x.toUInt64 >>> ((32 : Int32).toInt64.toUInt64 &&& Int64.toUInt64 63)).toInt64 = (0 : Int64) then 4 else 8
def nsN (x : Int64) : Nat := if x < -128 then (if x < -32768 then (if x < -2147483648 then 8 else if 2147483647 < x then 8 else 4) else if 32768 ≤ x then (if x < -2147483648 then 8 else if 2147483647 < x then 8 else 4) else 2) else if 128 ≤ x then (if x < -32768 then (if x < -2147483648 then 8 else if 2147483647 < x then 8 else 4) else if 32768 ≤ x then (if x < -2147483648 then 8 else if 2147483647 < x then 8 else 4) else 2) else 1
theorem ndN_le (x : Int64) : ndN x ≤ 8 := by unfold ndN; (repeat' split) <;> omega
theorem nsN_le (x : Int64) : nsN x ≤ 8 := by unfold nsN; (repeat' split) <;> omega
set_option maxHeartbeats 4000000 in
set_option maxRecDepth 100000 in
theorem c_X1_log (l : Launch) (dC : Nat → ClassId) (dI : Nat → Nat → Nat) (tk tw : Nat) (sz : Nat) (k9 : Nat) (hk9 : k9 ≤ 16) : Met l yX1_log wsX1_log ({ frames := 0, cells := 0, slots := 0, locals := 0 }) (va_Pc [.int (nI k9)] (p0 sz tk tw)) (va_Qi (fun (r : Int32) (_ : Unit) => r = nI (lgN k9)) (fun _ _ => True) (va_A [] sz)) 0 0 (va_A [] sz) := by
  refine Met.ofW (cc := cX1_log) (maxL := 1) (ret := (some .int)) (by decide) rfl ?_
  intro p e s m args below meth c s₁ Bd hml hv
  obtain ⟨rfl, hsz, hZ⟩ := hv
  have hx := Bd.exec
  have hb := Bd.bytes
  have hr := Bd.returns
  have hts := atoms_spec (ws := wsX1_log) Bd.pre
  have hown : s.vm.findClass RX1 = some m.cls := findClass_of_methodNamed Bd.named
  have hlocks := Bd.notSynchronized
  subst hsz
  generalize hAe : va_A [] s.heap.size = A at hZ ⊢
  have hA : ∀ q : Nat, s.heap.size ≤ q → A q := fun q h => by rw [← hAe]; exact Or.inr h
  have hS : va_S A s.heap s.heap [] := va_S.rf
  have hP : va_P (dC, dI) vwCl [] s.heap := fun k q h => by simp at h
  have hl := lv_entry ([.int (nI k9)]) (n := 1) (Nat.le_of_ble_eq_true rfl)
  rw [lg_entry_eq]
  generalize (lg_sl ([.int (nI k9)]) ++ List.replicate (1 - (lg_sl ([.int (nI k9)])).length) Slot.unset).toArray = ls at hl ⊢
  have hl : lv_has ls 1 [(0, .int (nI k9))] := hl
  refine lv_iload_n hx hb dX1_log_0 rfl (lv_at hl 0 rfl) ?_
  refine lv_iconst (v := 1) hx hb dX1_log_1 (by decide) ?_
  refine lv_icmp_ne (tgt := 9) hx hb dX1_log_2 (by decide) (fun c_1 => ?_) (fun c_1 => ?_)
  · skip
    refine lv_iload_n hx hb dX1_log_9 rfl (lv_at hl 0 rfl) ?_
    refine lv_iconst (v := 2) hx hb dX1_log_10 (by decide) ?_
    refine lv_icmp_ne (tgt := 18) hx hb dX1_log_11 (by decide) (fun c_2 => ?_) (fun c_2 => ?_)
    · skip
      refine lv_iload_n hx hb dX1_log_18 rfl (lv_at hl 0 rfl) ?_
      refine lv_iconst (v := 4) hx hb dX1_log_19 (by decide) ?_
      refine lv_icmp_ne (tgt := 27) hx hb dX1_log_20 (by decide) (fun c_3 => ?_) (fun c_3 => ?_)
      · skip
        refine lv_iconst (v := 3) hx hb dX1_log_27 (by decide) ?_
        exact W.iret (v := 3) hx hb hr (fun t ht hW => ⟨⟨3, (), rfl, (by unfold lgN; rw [if_neg (fun z => c_1 (by rw [z]; rfl)), if_neg (fun z => c_2 (by rw [z]; rfl)), if_neg (fun z => c_3 (by rw [z]; rfl))] <;> rfl), trivial⟩, hS.F ht⟩) hS.2.2 dX1_log_28
      · skip
        refine lv_iconst (v := 2) hx hb dX1_log_23 (by decide) ?_
        refine lv_goto (tgt := 28) hx hb dX1_log_24 (by decide) ?_
        exact W.iret (v := 2) hx hb hr (fun t ht hW => ⟨⟨2, (), rfl, (by unfold lgN; rw [if_neg (fun z => c_1 (by rw [z]; rfl)), if_neg (fun z => c_2 (by rw [z]; rfl)), if_pos ((nI_eq (b := 4) (by omega) (by decide)).mp c_3)] <;> rfl), trivial⟩, hS.F ht⟩) hS.2.2 dX1_log_28
    · skip
      refine lv_iconst (v := 1) hx hb dX1_log_14 (by decide) ?_
      refine lv_goto (tgt := 28) hx hb dX1_log_15 (by decide) ?_
      exact W.iret (v := 1) hx hb hr (fun t ht hW => ⟨⟨1, (), rfl, (by unfold lgN; rw [if_neg (fun z => c_1 (by rw [z]; rfl)), if_pos ((nI_eq (b := 2) (by omega) (by decide)).mp c_2)] <;> rfl), trivial⟩, hS.F ht⟩) hS.2.2 dX1_log_28
  · skip
    refine lv_iconst (v := 0) hx hb dX1_log_5 (by decide) ?_
    refine lv_goto (tgt := 28) hx hb dX1_log_6 (by decide) ?_
    exact W.iret (v := 0) hx hb hr (fun t ht hW => ⟨⟨0, (), rfl, (by unfold lgN; rw [if_pos ((nI_eq (b := 1) (by omega) (by decide)).mp c_1)] <;> rfl), trivial⟩, hS.F ht⟩) hS.2.2 dX1_log_28
theorem c_X1_log_v (l : Launch) (dC : Nat → ClassId) (dI : Nat → Nat → Nat) (tk tw : Nat) (sz : Nat) (k9 : Nat) (hk9 : k9 ≤ 16) (y9 : Int32) (hy9 : y9 = nI k9) : Met l yX1_log wsX1_log ({ frames := 0, cells := 0, slots := 0, locals := 0 }) (va_Pc [.int y9] (p0 sz tk tw)) (va_Qi (fun (r : Int32) (_ : Unit) => r = nI (lgN k9)) (fun _ _ => True) (va_A [] sz)) 0 0 (va_A [] sz) := by
  subst hy9; exact c_X1_log l dC dI tk tw sz k9 hk9
set_option maxHeartbeats 4000000 in
set_option maxRecDepth 100000 in
theorem c_X1_needs (l : Launch) (dC : Nat → ClassId) (dI : Nat → Nat → Nat) (tk tw : Nat) (sz : Nat) (x9 : Int64) : Met l yX1_needs wsX1_needs ({ frames := 0, cells := 0, slots := 0, locals := 0 }) (va_Pc [.long x9] (p0 sz tk tw)) (va_Qi (fun (r : Int32) (_ : Unit) => r = nI (ndN x9)) (fun _ _ => True) (va_A [] sz)) 0 0 (va_A [] sz) := by
  refine Met.ofW (cc := cX1_needs) (maxL := 2) (ret := (some .int)) (by decide) rfl ?_
  intro p e s m args below meth c s₁ Bd hml hv
  obtain ⟨rfl, hsz, hZ⟩ := hv
  have hx := Bd.exec
  have hb := Bd.bytes
  have hr := Bd.returns
  have hts := atoms_spec (ws := wsX1_needs) Bd.pre
  have hown : s.vm.findClass RX1 = some m.cls := findClass_of_methodNamed Bd.named
  have hlocks := Bd.notSynchronized
  subst hsz
  generalize hAe : va_A [] s.heap.size = A at hZ ⊢
  have hA : ∀ q : Nat, s.heap.size ≤ q → A q := fun q h => by rw [← hAe]; exact Or.inr h
  have hS : va_S A s.heap s.heap [] := va_S.rf
  have hP : va_P (dC, dI) vwCl [] s.heap := fun k q h => by simp at h
  have hl := lv_entry ([.long x9]) (n := 2) (Nat.le_of_ble_eq_true rfl)
  rw [lg_entry_eq]
  generalize (lg_sl ([.long x9]) ++ List.replicate (2 - (lg_sl ([.long x9])).length) Slot.unset).toArray = ls at hl ⊢
  have hl : lv_has ls 2 [(0, .long x9)] := hl
  refine lv_lload_n hx hb dX1_needs_0 rfl (lv_at hl 0 rfl) ?_
  refine lv_bipush (v := 8) hx hb dX1_needs_1 (by decide) ?_
  refine lv_lushr hx hb dX1_needs_3 rfl ?_
  refine lv_lconst (v := 0) hx hb dX1_needs_4 (by decide) ?_
  refine W.lcmp hx hb dX1_needs_5 ?_
  refine lv_if_ne (tgt := 13) hx hb dX1_needs_6 (by decide) (fun c_1 => ?_) (fun c_1 => ?_)
  · skip
    have c_1 := (not_congr (lg_cmp_eq ((x9.toUInt64 >>> ((8 : Int32).toInt64.toUInt64 &&& Int64.toUInt64 63)).toInt64) (0 : Int64))).mp c_1
    refine lv_lload_n hx hb dX1_needs_13 rfl (lv_at hl 0 rfl) ?_
    refine lv_bipush (v := 16) hx hb dX1_needs_14 (by decide) ?_
    refine lv_lushr hx hb dX1_needs_16 rfl ?_
    refine lv_lconst (v := 0) hx hb dX1_needs_17 (by decide) ?_
    refine W.lcmp hx hb dX1_needs_18 ?_
    refine lv_if_ne (tgt := 26) hx hb dX1_needs_19 (by decide) (fun c_2 => ?_) (fun c_2 => ?_)
    · skip
      have c_2 := (not_congr (lg_cmp_eq ((x9.toUInt64 >>> ((16 : Int32).toInt64.toUInt64 &&& Int64.toUInt64 63)).toInt64) (0 : Int64))).mp c_2
      refine lv_lload_n hx hb dX1_needs_26 rfl (lv_at hl 0 rfl) ?_
      refine lv_bipush (v := 32) hx hb dX1_needs_27 (by decide) ?_
      refine lv_lushr hx hb dX1_needs_29 rfl ?_
      refine lv_lconst (v := 0) hx hb dX1_needs_30 (by decide) ?_
      refine W.lcmp hx hb dX1_needs_31 ?_
      refine lv_if_ne (tgt := 39) hx hb dX1_needs_32 (by decide) (fun c_3 => ?_) (fun c_3 => ?_)
      · skip
        have c_3 := (not_congr (lg_cmp_eq ((x9.toUInt64 >>> ((32 : Int32).toInt64.toUInt64 &&& Int64.toUInt64 63)).toInt64) (0 : Int64))).mp c_3
        refine lv_bipush (v := 8) hx hb dX1_needs_39 (by decide) ?_
        exact W.iret (v := 8) hx hb hr (fun t ht hW => ⟨⟨8, (), rfl, (by unfold ndN; rw [if_neg c_1, if_neg c_2, if_neg c_3] <;> rfl), trivial⟩, hS.F ht⟩) hS.2.2 dX1_needs_41
      · skip
        have c_3 := (lg_cmp_eq ((x9.toUInt64 >>> ((32 : Int32).toInt64.toUInt64 &&& Int64.toUInt64 63)).toInt64) (0 : Int64)).mp c_3
        refine lv_iconst (v := 4) hx hb dX1_needs_35 (by decide) ?_
        refine lv_goto (tgt := 41) hx hb dX1_needs_36 (by decide) ?_
        exact W.iret (v := 4) hx hb hr (fun t ht hW => ⟨⟨4, (), rfl, (by unfold ndN; rw [if_neg c_1, if_neg c_2, if_pos c_3] <;> rfl), trivial⟩, hS.F ht⟩) hS.2.2 dX1_needs_41
    · skip
      have c_2 := (lg_cmp_eq ((x9.toUInt64 >>> ((16 : Int32).toInt64.toUInt64 &&& Int64.toUInt64 63)).toInt64) (0 : Int64)).mp c_2
      refine lv_iconst (v := 2) hx hb dX1_needs_22 (by decide) ?_
      refine lv_goto (tgt := 41) hx hb dX1_needs_23 (by decide) ?_
      exact W.iret (v := 2) hx hb hr (fun t ht hW => ⟨⟨2, (), rfl, (by unfold ndN; rw [if_neg c_1, if_pos c_2] <;> rfl), trivial⟩, hS.F ht⟩) hS.2.2 dX1_needs_41
  · skip
    have c_1 := (lg_cmp_eq ((x9.toUInt64 >>> ((8 : Int32).toInt64.toUInt64 &&& Int64.toUInt64 63)).toInt64) (0 : Int64)).mp c_1
    refine lv_iconst (v := 1) hx hb dX1_needs_9 (by decide) ?_
    refine lv_goto (tgt := 41) hx hb dX1_needs_10 (by decide) ?_
    exact W.iret (v := 1) hx hb hr (fun t ht hW => ⟨⟨1, (), rfl, (by unfold ndN; rw [if_pos c_1] <;> rfl), trivial⟩, hS.F ht⟩) hS.2.2 dX1_needs_41
set_option maxHeartbeats 4000000 in
set_option maxRecDepth 100000 in
theorem c_X1_needsSigned (l : Launch) (dC : Nat → ClassId) (dI : Nat → Nat → Nat) (tk tw : Nat) (sz : Nat) (x9 : Int64) : Met l yX1_needsSigned wsX1_needsSigned ({ frames := 0, cells := 0, slots := 0, locals := 0 }) (va_Pc [.long x9] (p0 sz tk tw)) (va_Qi (fun (r : Int32) (_ : Unit) => r = nI (nsN x9)) (fun _ _ => True) (va_A [] sz)) 0 0 (va_A [] sz) := by
  refine Met.ofW (cc := cX1_needsSigned) (maxL := 2) (ret := (some .int)) (by decide) rfl ?_
  intro p e s m args below meth c s₁ Bd hml hv
  obtain ⟨rfl, hsz, hZ⟩ := hv
  have hx := Bd.exec
  have hb := Bd.bytes
  have hr := Bd.returns
  have hts := atoms_spec (ws := wsX1_needsSigned) Bd.pre
  have hown : s.vm.findClass RX1 = some m.cls := findClass_of_methodNamed Bd.named
  have hlocks := Bd.notSynchronized
  subst hsz
  generalize hAe : va_A [] s.heap.size = A at hZ ⊢
  have hA : ∀ q : Nat, s.heap.size ≤ q → A q := fun q h => by rw [← hAe]; exact Or.inr h
  have hS : va_S A s.heap s.heap [] := va_S.rf
  have hP : va_P (dC, dI) vwCl [] s.heap := fun k q h => by simp at h
  have hl := lv_entry ([.long x9]) (n := 2) (Nat.le_of_ble_eq_true rfl)
  rw [lg_entry_eq]
  generalize (lg_sl ([.long x9]) ++ List.replicate (2 - (lg_sl ([.long x9])).length) Slot.unset).toArray = ls at hl ⊢
  have hl : lv_has ls 2 [(0, .long x9)] := hl
  refine lv_lload_n hx hb dX1_needsSigned_0 rfl (lv_at hl 0 rfl) ?_
  refine lv_ldc2 (v := -128) hx hb hown (hts (.constantLong RX1 108 (-128)) (by decide +kernel)) dX1_needsSigned_1 ?_
  refine W.lcmp hx hb dX1_needsSigned_4 ?_
  refine lv_if_lt (tgt := 20) hx hb dX1_needsSigned_5 (by decide) (fun c_1 => ?_) (fun c_1 => ?_)
  · skip
    have c_1 := (lg_cmp_lt x9 (-128 : Int64)).mp c_1
    refine lv_lload_n hx hb dX1_needsSigned_20 rfl (lv_at hl 0 rfl) ?_
    refine lv_ldc2 (v := -32768) hx hb hown (hts (.constantLong RX1 112 (-32768)) (by decide +kernel)) dX1_needsSigned_21 ?_
    refine W.lcmp hx hb dX1_needsSigned_24 ?_
    refine lv_if_lt (tgt := 40) hx hb dX1_needsSigned_25 (by decide) (fun c_2 => ?_) (fun c_2 => ?_)
    · skip
      have c_2 := (lg_cmp_lt x9 (-32768 : Int64)).mp c_2
      refine lv_lload_n hx hb dX1_needsSigned_40 rfl (lv_at hl 0 rfl) ?_
      refine lv_ldc2 (v := -2147483648) hx hb hown (hts (.constantLong RX1 116 (-2147483648)) (by decide +kernel)) dX1_needsSigned_41 ?_
      refine W.lcmp hx hb dX1_needsSigned_44 ?_
      refine lv_if_lt (tgt := 60) hx hb dX1_needsSigned_45 (by decide) (fun c_3 => ?_) (fun c_3 => ?_)
      · skip
        have c_3 := (lg_cmp_lt x9 (-2147483648 : Int64)).mp c_3
        refine lv_bipush (v := 8) hx hb dX1_needsSigned_60 (by decide) ?_
        exact W.iret (v := 8) hx hb hr (fun t ht hW => ⟨⟨8, (), rfl, (by unfold nsN; rw [if_pos c_1, if_pos c_2, if_pos c_3] <;> rfl), trivial⟩, hS.F ht⟩) hS.2.2 dX1_needsSigned_62
      · skip
        have c_3 := (not_congr (lg_cmp_lt x9 (-2147483648 : Int64))).mp c_3
        refine lv_lload_n hx hb dX1_needsSigned_48 rfl (lv_at hl 0 rfl) ?_
        refine lv_ldc2 (v := 2147483647) hx hb hown (hts (.constantLong RX1 74 (2147483647)) (by decide +kernel)) dX1_needsSigned_49 ?_
        refine W.lcmp hx hb dX1_needsSigned_52 ?_
        refine lv_if_gt (tgt := 60) hx hb dX1_needsSigned_53 (by decide) (fun c_4 => ?_) (fun c_4 => ?_)
        · skip
          have c_4 := (lg_cmp_gt x9 (2147483647 : Int64)).mp c_4
          refine lv_bipush (v := 8) hx hb dX1_needsSigned_60 (by decide) ?_
          exact W.iret (v := 8) hx hb hr (fun t ht hW => ⟨⟨8, (), rfl, (by unfold nsN; rw [if_pos c_1, if_pos c_2, if_neg c_3, if_pos c_4] <;> rfl), trivial⟩, hS.F ht⟩) hS.2.2 dX1_needsSigned_62
        · skip
          have c_4 := (not_congr (lg_cmp_gt x9 (2147483647 : Int64))).mp c_4
          refine lv_iconst (v := 4) hx hb dX1_needsSigned_56 (by decide) ?_
          refine lv_goto (tgt := 62) hx hb dX1_needsSigned_57 (by decide) ?_
          exact W.iret (v := 4) hx hb hr (fun t ht hW => ⟨⟨4, (), rfl, (by unfold nsN; rw [if_pos c_1, if_pos c_2, if_neg c_3, if_neg c_4] <;> rfl), trivial⟩, hS.F ht⟩) hS.2.2 dX1_needsSigned_62
    · skip
      have c_2 := (not_congr (lg_cmp_lt x9 (-32768 : Int64))).mp c_2
      refine lv_lload_n hx hb dX1_needsSigned_28 rfl (lv_at hl 0 rfl) ?_
      refine lv_ldc2 (v := 32768) hx hb hown (hts (.constantLong RX1 114 (32768)) (by decide +kernel)) dX1_needsSigned_29 ?_
      refine W.lcmp hx hb dX1_needsSigned_32 ?_
      refine lv_if_ge (tgt := 40) hx hb dX1_needsSigned_33 (by decide) (fun c_5 => ?_) (fun c_5 => ?_)
      · skip
        have c_5 := (lg_cmp_ge x9 (32768 : Int64)).mp c_5
        refine lv_lload_n hx hb dX1_needsSigned_40 rfl (lv_at hl 0 rfl) ?_
        refine lv_ldc2 (v := -2147483648) hx hb hown (hts (.constantLong RX1 116 (-2147483648)) (by decide +kernel)) dX1_needsSigned_41 ?_
        refine W.lcmp hx hb dX1_needsSigned_44 ?_
        refine lv_if_lt (tgt := 60) hx hb dX1_needsSigned_45 (by decide) (fun c_6 => ?_) (fun c_6 => ?_)
        · skip
          have c_6 := (lg_cmp_lt x9 (-2147483648 : Int64)).mp c_6
          refine lv_bipush (v := 8) hx hb dX1_needsSigned_60 (by decide) ?_
          exact W.iret (v := 8) hx hb hr (fun t ht hW => ⟨⟨8, (), rfl, (by unfold nsN; rw [if_pos c_1, if_neg c_2, if_pos c_5, if_pos c_6] <;> rfl), trivial⟩, hS.F ht⟩) hS.2.2 dX1_needsSigned_62
        · skip
          have c_6 := (not_congr (lg_cmp_lt x9 (-2147483648 : Int64))).mp c_6
          refine lv_lload_n hx hb dX1_needsSigned_48 rfl (lv_at hl 0 rfl) ?_
          refine lv_ldc2 (v := 2147483647) hx hb hown (hts (.constantLong RX1 74 (2147483647)) (by decide +kernel)) dX1_needsSigned_49 ?_
          refine W.lcmp hx hb dX1_needsSigned_52 ?_
          refine lv_if_gt (tgt := 60) hx hb dX1_needsSigned_53 (by decide) (fun c_7 => ?_) (fun c_7 => ?_)
          · skip
            have c_7 := (lg_cmp_gt x9 (2147483647 : Int64)).mp c_7
            refine lv_bipush (v := 8) hx hb dX1_needsSigned_60 (by decide) ?_
            exact W.iret (v := 8) hx hb hr (fun t ht hW => ⟨⟨8, (), rfl, (by unfold nsN; rw [if_pos c_1, if_neg c_2, if_pos c_5, if_neg c_6, if_pos c_7] <;> rfl), trivial⟩, hS.F ht⟩) hS.2.2 dX1_needsSigned_62
          · skip
            have c_7 := (not_congr (lg_cmp_gt x9 (2147483647 : Int64))).mp c_7
            refine lv_iconst (v := 4) hx hb dX1_needsSigned_56 (by decide) ?_
            refine lv_goto (tgt := 62) hx hb dX1_needsSigned_57 (by decide) ?_
            exact W.iret (v := 4) hx hb hr (fun t ht hW => ⟨⟨4, (), rfl, (by unfold nsN; rw [if_pos c_1, if_neg c_2, if_pos c_5, if_neg c_6, if_neg c_7] <;> rfl), trivial⟩, hS.F ht⟩) hS.2.2 dX1_needsSigned_62
      · skip
        have c_5 := (not_congr (lg_cmp_ge x9 (32768 : Int64))).mp c_5
        refine lv_iconst (v := 2) hx hb dX1_needsSigned_36 (by decide) ?_
        refine lv_goto (tgt := 62) hx hb dX1_needsSigned_37 (by decide) ?_
        exact W.iret (v := 2) hx hb hr (fun t ht hW => ⟨⟨2, (), rfl, (by unfold nsN; rw [if_pos c_1, if_neg c_2, if_neg c_5] <;> rfl), trivial⟩, hS.F ht⟩) hS.2.2 dX1_needsSigned_62
  · skip
    have c_1 := (not_congr (lg_cmp_lt x9 (-128 : Int64))).mp c_1
    refine lv_lload_n hx hb dX1_needsSigned_8 rfl (lv_at hl 0 rfl) ?_
    refine lv_ldc2 (v := 128) hx hb hown (hts (.constantLong RX1 110 (128)) (by decide +kernel)) dX1_needsSigned_9 ?_
    refine W.lcmp hx hb dX1_needsSigned_12 ?_
    refine lv_if_ge (tgt := 20) hx hb dX1_needsSigned_13 (by decide) (fun c_8 => ?_) (fun c_8 => ?_)
    · skip
      have c_8 := (lg_cmp_ge x9 (128 : Int64)).mp c_8
      refine lv_lload_n hx hb dX1_needsSigned_20 rfl (lv_at hl 0 rfl) ?_
      refine lv_ldc2 (v := -32768) hx hb hown (hts (.constantLong RX1 112 (-32768)) (by decide +kernel)) dX1_needsSigned_21 ?_
      refine W.lcmp hx hb dX1_needsSigned_24 ?_
      refine lv_if_lt (tgt := 40) hx hb dX1_needsSigned_25 (by decide) (fun c_9 => ?_) (fun c_9 => ?_)
      · skip
        have c_9 := (lg_cmp_lt x9 (-32768 : Int64)).mp c_9
        refine lv_lload_n hx hb dX1_needsSigned_40 rfl (lv_at hl 0 rfl) ?_
        refine lv_ldc2 (v := -2147483648) hx hb hown (hts (.constantLong RX1 116 (-2147483648)) (by decide +kernel)) dX1_needsSigned_41 ?_
        refine W.lcmp hx hb dX1_needsSigned_44 ?_
        refine lv_if_lt (tgt := 60) hx hb dX1_needsSigned_45 (by decide) (fun c_10 => ?_) (fun c_10 => ?_)
        · skip
          have c_10 := (lg_cmp_lt x9 (-2147483648 : Int64)).mp c_10
          refine lv_bipush (v := 8) hx hb dX1_needsSigned_60 (by decide) ?_
          exact W.iret (v := 8) hx hb hr (fun t ht hW => ⟨⟨8, (), rfl, (by unfold nsN; rw [if_neg c_1, if_pos c_8, if_pos c_9, if_pos c_10] <;> rfl), trivial⟩, hS.F ht⟩) hS.2.2 dX1_needsSigned_62
        · skip
          have c_10 := (not_congr (lg_cmp_lt x9 (-2147483648 : Int64))).mp c_10
          refine lv_lload_n hx hb dX1_needsSigned_48 rfl (lv_at hl 0 rfl) ?_
          refine lv_ldc2 (v := 2147483647) hx hb hown (hts (.constantLong RX1 74 (2147483647)) (by decide +kernel)) dX1_needsSigned_49 ?_
          refine W.lcmp hx hb dX1_needsSigned_52 ?_
          refine lv_if_gt (tgt := 60) hx hb dX1_needsSigned_53 (by decide) (fun c_11 => ?_) (fun c_11 => ?_)
          · skip
            have c_11 := (lg_cmp_gt x9 (2147483647 : Int64)).mp c_11
            refine lv_bipush (v := 8) hx hb dX1_needsSigned_60 (by decide) ?_
            exact W.iret (v := 8) hx hb hr (fun t ht hW => ⟨⟨8, (), rfl, (by unfold nsN; rw [if_neg c_1, if_pos c_8, if_pos c_9, if_neg c_10, if_pos c_11] <;> rfl), trivial⟩, hS.F ht⟩) hS.2.2 dX1_needsSigned_62
          · skip
            have c_11 := (not_congr (lg_cmp_gt x9 (2147483647 : Int64))).mp c_11
            refine lv_iconst (v := 4) hx hb dX1_needsSigned_56 (by decide) ?_
            refine lv_goto (tgt := 62) hx hb dX1_needsSigned_57 (by decide) ?_
            exact W.iret (v := 4) hx hb hr (fun t ht hW => ⟨⟨4, (), rfl, (by unfold nsN; rw [if_neg c_1, if_pos c_8, if_pos c_9, if_neg c_10, if_neg c_11] <;> rfl), trivial⟩, hS.F ht⟩) hS.2.2 dX1_needsSigned_62
      · skip
        have c_9 := (not_congr (lg_cmp_lt x9 (-32768 : Int64))).mp c_9
        refine lv_lload_n hx hb dX1_needsSigned_28 rfl (lv_at hl 0 rfl) ?_
        refine lv_ldc2 (v := 32768) hx hb hown (hts (.constantLong RX1 114 (32768)) (by decide +kernel)) dX1_needsSigned_29 ?_
        refine W.lcmp hx hb dX1_needsSigned_32 ?_
        refine lv_if_ge (tgt := 40) hx hb dX1_needsSigned_33 (by decide) (fun c_12 => ?_) (fun c_12 => ?_)
        · skip
          have c_12 := (lg_cmp_ge x9 (32768 : Int64)).mp c_12
          refine lv_lload_n hx hb dX1_needsSigned_40 rfl (lv_at hl 0 rfl) ?_
          refine lv_ldc2 (v := -2147483648) hx hb hown (hts (.constantLong RX1 116 (-2147483648)) (by decide +kernel)) dX1_needsSigned_41 ?_
          refine W.lcmp hx hb dX1_needsSigned_44 ?_
          refine lv_if_lt (tgt := 60) hx hb dX1_needsSigned_45 (by decide) (fun c_13 => ?_) (fun c_13 => ?_)
          · skip
            have c_13 := (lg_cmp_lt x9 (-2147483648 : Int64)).mp c_13
            refine lv_bipush (v := 8) hx hb dX1_needsSigned_60 (by decide) ?_
            exact W.iret (v := 8) hx hb hr (fun t ht hW => ⟨⟨8, (), rfl, (by unfold nsN; rw [if_neg c_1, if_pos c_8, if_neg c_9, if_pos c_12, if_pos c_13] <;> rfl), trivial⟩, hS.F ht⟩) hS.2.2 dX1_needsSigned_62
          · skip
            have c_13 := (not_congr (lg_cmp_lt x9 (-2147483648 : Int64))).mp c_13
            refine lv_lload_n hx hb dX1_needsSigned_48 rfl (lv_at hl 0 rfl) ?_
            refine lv_ldc2 (v := 2147483647) hx hb hown (hts (.constantLong RX1 74 (2147483647)) (by decide +kernel)) dX1_needsSigned_49 ?_
            refine W.lcmp hx hb dX1_needsSigned_52 ?_
            refine lv_if_gt (tgt := 60) hx hb dX1_needsSigned_53 (by decide) (fun c_14 => ?_) (fun c_14 => ?_)
            · skip
              have c_14 := (lg_cmp_gt x9 (2147483647 : Int64)).mp c_14
              refine lv_bipush (v := 8) hx hb dX1_needsSigned_60 (by decide) ?_
              exact W.iret (v := 8) hx hb hr (fun t ht hW => ⟨⟨8, (), rfl, (by unfold nsN; rw [if_neg c_1, if_pos c_8, if_neg c_9, if_pos c_12, if_neg c_13, if_pos c_14] <;> rfl), trivial⟩, hS.F ht⟩) hS.2.2 dX1_needsSigned_62
            · skip
              have c_14 := (not_congr (lg_cmp_gt x9 (2147483647 : Int64))).mp c_14
              refine lv_iconst (v := 4) hx hb dX1_needsSigned_56 (by decide) ?_
              refine lv_goto (tgt := 62) hx hb dX1_needsSigned_57 (by decide) ?_
              exact W.iret (v := 4) hx hb hr (fun t ht hW => ⟨⟨4, (), rfl, (by unfold nsN; rw [if_neg c_1, if_pos c_8, if_neg c_9, if_pos c_12, if_neg c_13, if_neg c_14] <;> rfl), trivial⟩, hS.F ht⟩) hS.2.2 dX1_needsSigned_62
        · skip
          have c_12 := (not_congr (lg_cmp_ge x9 (32768 : Int64))).mp c_12
          refine lv_iconst (v := 2) hx hb dX1_needsSigned_36 (by decide) ?_
          refine lv_goto (tgt := 62) hx hb dX1_needsSigned_37 (by decide) ?_
          exact W.iret (v := 2) hx hb hr (fun t ht hW => ⟨⟨2, (), rfl, (by unfold nsN; rw [if_neg c_1, if_pos c_8, if_neg c_9, if_neg c_12] <;> rfl), trivial⟩, hS.F ht⟩) hS.2.2 dX1_needsSigned_62
    · skip
      have c_8 := (not_congr (lg_cmp_ge x9 (128 : Int64))).mp c_8
      refine lv_iconst (v := 1) hx hb dX1_needsSigned_16 (by decide) ?_
      refine lv_goto (tgt := 62) hx hb dX1_needsSigned_17 (by decide) ?_
      exact W.iret (v := 1) hx hb hr (fun t ht hW => ⟨⟨1, (), rfl, (by unfold nsN; rw [if_neg c_1, if_neg c_8] <;> rfl), trivial⟩, hS.F ht⟩) hS.2.2 dX1_needsSigned_62
set_option maxHeartbeats 4000000 in
set_option maxRecDepth 100000 in
theorem c_X1_packHead (l : Launch) (dC : Nat → ClassId) (dI : Nat → Nat → Nat) (tk tw : Nat) (h a b : Nat) (cI cJ : ClassId) (sz : Nat) (f : Nat → Int32) (g : Nat → Int64) (zc : Int32) (zso : Int32) (znu : Int64) (zty : Int32) (zhd : Int32) (zpa : Int64) (zch : Int64) (zlk : Int32) (zlo : Int32) (zhi : Int32) (zlp : Int32) (zll : Int32) (zlv : Int32) (n8 : Nat) (i9 : Int32) (w9 : Nat) (hw9 : w9 ≤ 8) (x9 : Int64) (hr9 : n8 + 1 + w9 ≤ 4096) : Met l yX1_packHead wsX1_packHead ({ frames := 1, cells := 0, slots := 0, locals := 24 }) (va_Pc [.ref h, .int i9, .int (nI w9), .long x9, .int (-1)] (pr dC dI (t1 cI cJ) (w1 h a b cI cJ f g 0 (nI n8) zc zso znu zty zhd zpa zch zlk zlo zhi zlp zll zlv) sz tk tw)) (va_Qi (fun (r : Int32) (_ : Unit) => r = nI (1 + w9)) (fun (_ : Unit) => po dC dI (t1 cI cJ) (va_A (w1 h a b cI cJ f g 0 (nI n8) zc zso znu zty zhd zpa zch zlk zlo zhi zlp zll zlv) sz) (w1 h a b cI cJ (apM (upd f n8 i9) (n8 + 1) x9 w9) g 0 (nI (n8 + (1 + w9))) zc zso znu zty zhd zpa zch zlk zlo zhi zlp zll zlv)) (va_A (w1 h a b cI cJ f g 0 (nI n8) zc zso znu zty zhd zpa zch zlk zlo zhi zlp zll zlv) sz)) 0 0 (va_A (w1 h a b cI cJ f g 0 (nI n8) zc zso znu zty zhd zpa zch zlk zlo zhi zlp zll zlv) sz) := by
  refine Met.ofW (cc := cX1_packHead) (maxL := 6) (ret := (some .int)) (by decide) rfl ?_
  intro p e s m args below meth c s₁ Bd hml hv
  obtain ⟨rfl, hsz, hP, hK, hD0, hZ⟩ := hv
  have hx := Bd.exec
  have hb := Bd.bytes
  have hr := Bd.returns
  have hts := atoms_spec (ws := wsX1_packHead) Bd.pre
  have hown : s.vm.findClass RX1 = some m.cls := findClass_of_methodNamed Bd.named
  have hlocks := Bd.notSynchronized
  subst hsz
  have hD := hD0.self (sz := s.heap.size)
  generalize hAe : va_A (w1 h a b cI cJ f g 0 (nI n8) zc zso znu zty zhd zpa zch zlk zlo zhi zlp zll zlv) s.heap.size = A at hD hZ ⊢
  have hA : ∀ q : Nat, s.heap.size ≤ q → A q := fun q h => by rw [← hAe]; exact Or.inr h
  have hS : va_S A s.heap s.heap [] := va_S.rf
  have hP : va_P (dC, dI) vwCl (w1 h a b cI cJ f g 0 (nI n8) zc zso znu zty zhd zpa zch zlk zlo zhi zlp zll zlv) s.heap := hP
  have hin0 : ∀ w ∈ wsX10, w ∈ wsX1_packHead := by decide +kernel
  have fl7 := hts (.fieldLink RX1 7 "MessageReaderModel" "bytes" "[I") (by decide +kernel)
  have fl28 := hts (.fieldLink RX1 28 "MessageReaderModel" "size" "I") (by decide +kernel)
  have hl := lv_entry ([.ref h, .int i9, .int (nI w9), .long x9, .int (-1)]) (n := 6) (Nat.le_of_ble_eq_true rfl)
  rw [lg_entry_eq]
  generalize (lg_sl ([.ref h, .int i9, .int (nI w9), .long x9, .int (-1)]) ++ List.replicate (6 - (lg_sl ([.ref h, .int i9, .int (nI w9), .long x9, .int (-1)])).length) Slot.unset).toArray = ls at hl ⊢
  have hl : lv_has ls 6 [(0, .ref h), (1, .int i9), (2, .int (nI w9)), (3, .long x9), (5, .int (-1))] := hl
  refine lv_aload_n hx hb dX1_packHead_0 rfl (lv_at hl 0 rfl) ?_
  refine lv_aload_n hx hb dX1_packHead_1 rfl (lv_at hl 0 rfl) ?_
  refine va_get (D := (dC, dI)) (ci := 1) (v := .int (nI n8)) (C := RX1) (T := TX1) (N := 17) hx hb hts hin0 hown hK hP 0 rfl rfl 2 (by decide) fl28 (fun _ h9 => h9) rfl dX1_packHead_2 ?_
  refine lv_iconst (v := 1) hx hb dX1_packHead_5 (by decide) ?_
  refine lv_iadd hx hb dX1_packHead_6 ?_
  have e_1 : ((nI n8) + 1 : Int32) = nI (n8 + 1) := nI_1 n8
  rw [e_1]
  refine lv_iload_n hx hb dX1_packHead_7 rfl (lv_at hl 2 rfl) ?_
  refine lv_iadd hx hb dX1_packHead_8 ?_
  have e_2 : ((nI (n8 + 1)) + (nI w9) : Int32) = nI (n8 + 1 + w9) := nI_add _ _
  rw [e_2]
  refine lv_iload hx hb dX1_packHead_9 (lv_at hl 4 rfl) ?_
  refine lv_iconst (v := -1) hx hb dX1_packHead_11 (by decide) ?_
  refine lv_icmp_le (tgt := 19) hx hb dX1_packHead_12 (by decide) (fun c_3 => ?_) (fun c_3 => ?_)
  · skip
    refine lv_iconst (v := 0) hx hb dX1_packHead_19 (by decide) ?_
    refine lv_iadd hx hb dX1_packHead_20 ?_
    have e_4 : ((nI (n8 + 1 + w9)) + 0 : Int32) = nI (n8 + 1 + w9) := (show nI (n8 + 1 + w9) + nI 0 = _ from nI_add _ 0)
    rw [e_4]
    refine lv_sipush (v := 4096) hx hb dX1_packHead_21 (by decide) ?_
    refine lv_icmp_le (tgt := 31) hx hb dX1_packHead_24 (by decide) (fun c_5 => ?_) (fun c_5 => ?_)
    · skip
      refine lv_iconst (v := 0) hx hb dX1_packHead_31 (by decide) ?_
      refine lv_iconst (v := 2) hx hb dX1_packHead_32 (by decide) ?_
      refine gvi (As := [.int 0, .int 2]) (rest := []) ⟨hx, hb, hml, hown, hts⟩ (c_X1_fails l dC dI tk tw h a b cI cJ _ f g 0 (nI n8) zc zso znu zty zhd zpa zch zlk zlo zhi zlp zll zlv 0 2) (cwV 2 hts gX1_packHead_X1_fails rfl rfl rfl (by decide +kernel) ⟨Nat.le_of_ble_eq_true rfl, Nat.le_of_ble_eq_true rfl⟩) hK hP hD hS hA hZ (q0 := 0) (ci := 1) rfl rfl rfl rfl hl.1 rfl (Nat.le_of_ble_eq_true rfl) dX1_packHead_33 ⟨Nat.le_of_ble_eq_true rfl, Nat.le_of_ble_eq_true rfl⟩ (fun r_7 u_8 H locs hw_6 hP hD hS => ?_)
      obtain rfl : u_8 = 0 := hw_6.1.trans (by decide)
      have hP : va_P (dC, dI) vwCl (w1 h a b cI cJ f g 0 (nI n8) zc zso znu zty zhd zpa zch zlk zlo zhi zlp zll zlv) H := hP
      have hD : va_D A (w1 h a b cI cJ f g 0 (nI n8) zc zso znu zty zhd zpa zch zlk zlo zhi zlp zll zlv) := hD
      obtain rfl : r_7 = 0 := hw_6.2.trans (by decide)
      refine lv_if_eq (tgt := 41) hx hb dX1_packHead_36 (by decide) (fun c_9 => ?_) (fun c_9 => ?_)
      · skip
        refine lv_aload_n hx hb dX1_packHead_41 rfl (lv_at hl 0 rfl) ?_
        refine va_get (D := (dC, dI)) (ci := 1) (v := .ref a) (C := RX1) (T := TX1) (N := 17) hx hb hts hin0 hown hK hP 0 rfl rfl 1 (by decide) fl7 (fun _ h9 => h9) rfl dX1_packHead_42 ?_
        refine lv_aload_n hx hb dX1_packHead_45 rfl (lv_at hl 0 rfl) ?_
        refine va_get (D := (dC, dI)) (ci := 1) (v := .int (nI n8)) (C := RX1) (T := TX1) (N := 17) hx hb hts hin0 hown hK hP 0 rfl rfl 2 (by decide) fl28 (fun _ h9 => h9) rfl dX1_packHead_46 ?_
        refine lv_iload_n hx hb dX1_packHead_49 rfl (lv_at hl 1 rfl) ?_
        refine va_iast hx hb hK hP hD hS 1 0 rfl rfl (vp_in_nI (by omega) (by decide)) dX1_packHead_50 (fun H locs hP hD hS => ?_)
        have hP : va_P (dC, dI) vwCl (w1 h a b cI cJ (upd f (nI n8).toNatClampNeg i9) g 0 (nI n8) zc zso znu zty zhd zpa zch zlk zlo zhi zlp zll zlv) H := hP
        have hD : va_D A (w1 h a b cI cJ (upd f (nI n8).toNatClampNeg i9) g 0 (nI n8) zc zso znu zty zhd zpa zch zlk zlo zhi zlp zll zlv) := hD
        refine lv_aload_n hx hb dX1_packHead_51 rfl (lv_at hl 0 rfl) ?_
        refine lv_dup hx hb dX1_packHead_52 rfl ?_
        refine va_get (D := (dC, dI)) (ci := 1) (v := .int (nI n8)) (C := RX1) (T := TX1) (N := 17) hx hb hts hin0 hown hK hP 0 rfl rfl 2 (by decide) fl28 (fun _ h9 => h9) rfl dX1_packHead_53 ?_
        refine lv_iconst (v := 1) hx hb dX1_packHead_56 (by decide) ?_
        refine lv_iadd hx hb dX1_packHead_57 ?_
        have e_10 : ((nI n8) + 1 : Int32) = nI (n8 + 1) := nI_1 n8
        rw [e_10]
        refine va_put (D := (dC, dI)) (ci := 1) (v := .int (nI (n8 + 1))) (ty := .int) (C := RX1) (T := TX1) (N := 17) hx hb hts hin0 tyX1 tyX1_ok nmX1 hown hK hP hD hS 0 rfl rfl 2 (by decide) fl28 (fun _ h9 => h9) rfl (by decide +kernel) rfl rfl (Nat.le_of_ble_eq_true rfl) dX1_packHead_58 (fun H locs hP hD hS => ?_)
        have hP : va_P (dC, dI) vwCl (w1 h a b cI cJ (upd f (nI n8).toNatClampNeg i9) g 0 (nI (n8 + 1)) zc zso znu zty zhd zpa zch zlk zlo zhi zlp zll zlv) H := hP
        have hD : va_D A (w1 h a b cI cJ (upd f (nI n8).toNatClampNeg i9) g 0 (nI (n8 + 1)) zc zso znu zty zhd zpa zch zlk zlo zhi zlp zll zlv) := hD
        have e_11 : (upd f (nI n8).toNatClampNeg i9 : Nat → Int32) = upd f n8 i9 := by rw [nI_clamp (by omega)]
        rw [e_11] at hP hD
        have hP : va_P (dC, dI) vwCl (w1 h a b cI cJ (upd f n8 i9) g 0 (nI (n8 + 1)) zc zso znu zty zhd zpa zch zlk zlo zhi zlp zll zlv) H := hP
        have hD : va_D A (w1 h a b cI cJ (upd f n8 i9) g 0 (nI (n8 + 1)) zc zso znu zty zhd zpa zch zlk zlo zhi zlp zll zlv) := hD
        refine lv_aload_n hx hb dX1_packHead_61 rfl (lv_at hl 0 rfl) ?_
        refine lv_lload_n hx hb dX1_packHead_62 rfl (lv_at hl 3 rfl) ?_
        refine lv_iload_n hx hb dX1_packHead_63 rfl (lv_at hl 2 rfl) ?_
        refine gvv (As := [.long x9, .int (nI w9)]) (rest := []) ⟨hx, hb, hml, hown, hts⟩ (c_X1_write l dC dI tk tw h a b cI cJ _ (upd f n8 i9) g 0 zc zso znu zty zhd zpa zch zlk zlo zhi zlp zll zlv (n8 + 1) w9 x9 (by omega)) (cwV 2 hts gX1_packHead_X1_write rfl rfl rfl (by decide +kernel) ⟨Nat.le_of_ble_eq_true rfl, Nat.le_of_ble_eq_true rfl⟩) hK hP hD hS hA hZ (q0 := 0) (ci := 1) rfl rfl rfl rfl hl.1 rfl (Nat.le_of_ble_eq_true rfl) dX1_packHead_64 ⟨Nat.le_of_ble_eq_true rfl, Nat.le_of_ble_eq_true rfl⟩ (fun u_14 H locs hw_12 hP hD hS => ?_)
        have hP : va_P (dC, dI) vwCl (w1 h a b cI cJ (apM (upd f n8 i9) (n8 + 1) x9 w9) g 0 (nI (n8 + 1 + w9)) zc zso znu zty zhd zpa zch zlk zlo zhi zlp zll zlv) H := hP
        have hD : va_D A (w1 h a b cI cJ (apM (upd f n8 i9) (n8 + 1) x9 w9) g 0 (nI (n8 + 1 + w9)) zc zso znu zty zhd zpa zch zlk zlo zhi zlp zll zlv) := hD
        refine lv_iload hx hb dX1_packHead_67 (lv_at hl 4 rfl) ?_
        refine lv_iconst (v := -1) hx hb dX1_packHead_69 (by decide) ?_
        refine lv_icmp_le (tgt := 81) hx hb dX1_packHead_70 (by decide) (fun c_15 => ?_) (fun c_15 => ?_)
        · skip
          refine lv_iconst (v := 1) hx hb dX1_packHead_81 (by decide) ?_
          refine lv_iload_n hx hb dX1_packHead_82 rfl (lv_at hl 2 rfl) ?_
          refine lv_iadd hx hb dX1_packHead_83 ?_
          have e_16 : (1 + (nI w9) : Int32) = nI (1 + w9) := (show nI 1 + nI w9 = _ from nI_add _ _)
          rw [e_16]
          refine lv_iload hx hb dX1_packHead_84 (lv_at hl 4 rfl) ?_
          refine lv_iconst (v := -1) hx hb dX1_packHead_86 (by decide) ?_
          refine lv_icmp_le (tgt := 94) hx hb dX1_packHead_87 (by decide) (fun c_17 => ?_) (fun c_17 => ?_)
          · skip
            refine lv_iconst (v := 0) hx hb dX1_packHead_94 (by decide) ?_
            refine lv_iadd hx hb dX1_packHead_95 ?_
            have e_18 : ((nI (1 + w9)) + 0 : Int32) = nI (1 + w9) := (show nI (1 + w9) + nI 0 = _ from nI_add _ 0)
            rw [e_18]
            have hP9 : va_P (dC, dI) vwCl ((fun (_ : Unit) => w1 h a b cI cJ (apM (upd f n8 i9) (n8 + 1) x9 w9) g 0 (nI (n8 + (1 + w9))) zc zso znu zty zhd zpa zch zlk zlo zhi zlp zll zlv) (())) H := by rw [show n8 + (1 + w9) = n8 + 1 + w9 by omega]; exact hP
            have hD9 : va_D A ((fun (_ : Unit) => w1 h a b cI cJ (apM (upd f n8 i9) (n8 + 1) x9 w9) g 0 (nI (n8 + (1 + w9))) zc zso znu zty zhd zpa zch zlk zlo zhi zlp zll zlv) (())) := by rw [show n8 + (1 + w9) = n8 + 1 + w9 by omega]; exact hD
            exact W.iret (v := nI (1 + w9)) hx hb hr (fun t ht hW => ⟨⟨nI (1 + w9), (), rfl, rfl, by rw [ht]; exact hP9, va_K.moved hW.alike hK, hD9⟩, hS.F ht⟩) hS.2.2 dX1_packHead_96
          · skip
            exact absurd (by decide) c_17
        · skip
          exact absurd (by decide) c_15
      · skip
        exact absurd (by decide) c_9
    · skip
      exact absurd (nI_le (b := 4096) hr9 (by decide)) c_5
  · skip
    exact absurd (by decide) c_3
set_option maxHeartbeats 4000000 in
set_option maxRecDepth 100000 in
theorem c_X1_packHead_m (l : Launch) (dC : Nat → ClassId) (dI : Nat → Nat → Nat) (tk tw : Nat) (h a b : Nat) (cI cJ : ClassId) (sz : Nat) (f : Nat → Int32) (g : Nat → Int64) (zc : Int32) (zso : Int32) (znu : Int64) (zty : Int32) (zhd : Int32) (zpa : Int64) (zch : Int64) (zlk : Int32) (zlo : Int32) (zhi : Int32) (zlp : Int32) (zll : Int32) (zlv : Int32) (n8 : Nat) (i9 : Int32) (w9 : Nat) (hw9 : w9 ≤ 8) (x9 : Int64) (m9 : Int32) (hm9 : -1 < m9) (hr9 : n8 + 1 + w9 + 1 ≤ 4096) : Met l yX1_packHead wsX1_packHead ({ frames := 1, cells := 0, slots := 0, locals := 24 }) (va_Pc [.ref h, .int i9, .int (nI w9), .long x9, .int m9] (pr dC dI (t1 cI cJ) (w1 h a b cI cJ f g 0 (nI n8) zc zso znu zty zhd zpa zch zlk zlo zhi zlp zll zlv) sz tk tw)) (va_Qi (fun (r : Int32) (_ : Unit) => r = nI (1 + w9 + 1)) (fun (_ : Unit) => po dC dI (t1 cI cJ) (va_A (w1 h a b cI cJ f g 0 (nI n8) zc zso znu zty zhd zpa zch zlk zlo zhi zlp zll zlv) sz) (w1 h a b cI cJ (apM (apM (upd f n8 i9) (n8 + 1) x9 w9) (n8 + 1 + w9) m9.toInt64 1) g 0 (nI (n8 + (1 + w9 + 1))) zc zso znu zty zhd zpa zch zlk zlo zhi zlp zll zlv)) (va_A (w1 h a b cI cJ f g 0 (nI n8) zc zso znu zty zhd zpa zch zlk zlo zhi zlp zll zlv) sz)) 0 0 (va_A (w1 h a b cI cJ f g 0 (nI n8) zc zso znu zty zhd zpa zch zlk zlo zhi zlp zll zlv) sz) := by
  refine Met.ofW (cc := cX1_packHead) (maxL := 6) (ret := (some .int)) (by decide) rfl ?_
  intro p e s m args below meth c s₁ Bd hml hv
  obtain ⟨rfl, hsz, hP, hK, hD0, hZ⟩ := hv
  have hx := Bd.exec
  have hb := Bd.bytes
  have hr := Bd.returns
  have hts := atoms_spec (ws := wsX1_packHead) Bd.pre
  have hown : s.vm.findClass RX1 = some m.cls := findClass_of_methodNamed Bd.named
  have hlocks := Bd.notSynchronized
  subst hsz
  have hD := hD0.self (sz := s.heap.size)
  generalize hAe : va_A (w1 h a b cI cJ f g 0 (nI n8) zc zso znu zty zhd zpa zch zlk zlo zhi zlp zll zlv) s.heap.size = A at hD hZ ⊢
  have hA : ∀ q : Nat, s.heap.size ≤ q → A q := fun q h => by rw [← hAe]; exact Or.inr h
  have hS : va_S A s.heap s.heap [] := va_S.rf
  have hP : va_P (dC, dI) vwCl (w1 h a b cI cJ f g 0 (nI n8) zc zso znu zty zhd zpa zch zlk zlo zhi zlp zll zlv) s.heap := hP
  have hin0 : ∀ w ∈ wsX10, w ∈ wsX1_packHead := by decide +kernel
  have fl7 := hts (.fieldLink RX1 7 "MessageReaderModel" "bytes" "[I") (by decide +kernel)
  have fl28 := hts (.fieldLink RX1 28 "MessageReaderModel" "size" "I") (by decide +kernel)
  have hl := lv_entry ([.ref h, .int i9, .int (nI w9), .long x9, .int m9]) (n := 6) (Nat.le_of_ble_eq_true rfl)
  rw [lg_entry_eq]
  generalize (lg_sl ([.ref h, .int i9, .int (nI w9), .long x9, .int m9]) ++ List.replicate (6 - (lg_sl ([.ref h, .int i9, .int (nI w9), .long x9, .int m9])).length) Slot.unset).toArray = ls at hl ⊢
  have hl : lv_has ls 6 [(0, .ref h), (1, .int i9), (2, .int (nI w9)), (3, .long x9), (5, .int m9)] := hl
  refine lv_aload_n hx hb dX1_packHead_0 rfl (lv_at hl 0 rfl) ?_
  refine lv_aload_n hx hb dX1_packHead_1 rfl (lv_at hl 0 rfl) ?_
  refine va_get (D := (dC, dI)) (ci := 1) (v := .int (nI n8)) (C := RX1) (T := TX1) (N := 17) hx hb hts hin0 hown hK hP 0 rfl rfl 2 (by decide) fl28 (fun _ h9 => h9) rfl dX1_packHead_2 ?_
  refine lv_iconst (v := 1) hx hb dX1_packHead_5 (by decide) ?_
  refine lv_iadd hx hb dX1_packHead_6 ?_
  have e_1 : ((nI n8) + 1 : Int32) = nI (n8 + 1) := nI_1 n8
  rw [e_1]
  refine lv_iload_n hx hb dX1_packHead_7 rfl (lv_at hl 2 rfl) ?_
  refine lv_iadd hx hb dX1_packHead_8 ?_
  have e_2 : ((nI (n8 + 1)) + (nI w9) : Int32) = nI (n8 + 1 + w9) := nI_add _ _
  rw [e_2]
  refine lv_iload hx hb dX1_packHead_9 (lv_at hl 4 rfl) ?_
  refine lv_iconst (v := -1) hx hb dX1_packHead_11 (by decide) ?_
  refine lv_icmp_le (tgt := 19) hx hb dX1_packHead_12 (by decide) (fun c_3 => ?_) (fun c_3 => ?_)
  · skip
    exact absurd c_3 (Int32.not_le.mpr hm9)
  · skip
    refine lv_iconst (v := 1) hx hb dX1_packHead_15 (by decide) ?_
    refine lv_goto (tgt := 20) hx hb dX1_packHead_16 (by decide) ?_
    refine lv_iadd hx hb dX1_packHead_20 ?_
    have e_4 : ((nI (n8 + 1 + w9)) + 1 : Int32) = nI (n8 + 1 + w9 + 1) := nI_1 _
    rw [e_4]
    refine lv_sipush (v := 4096) hx hb dX1_packHead_21 (by decide) ?_
    refine lv_icmp_le (tgt := 31) hx hb dX1_packHead_24 (by decide) (fun c_5 => ?_) (fun c_5 => ?_)
    · skip
      refine lv_iconst (v := 0) hx hb dX1_packHead_31 (by decide) ?_
      refine lv_iconst (v := 2) hx hb dX1_packHead_32 (by decide) ?_
      refine gvi (As := [.int 0, .int 2]) (rest := []) ⟨hx, hb, hml, hown, hts⟩ (c_X1_fails l dC dI tk tw h a b cI cJ _ f g 0 (nI n8) zc zso znu zty zhd zpa zch zlk zlo zhi zlp zll zlv 0 2) (cwV 2 hts gX1_packHead_X1_fails rfl rfl rfl (by decide +kernel) ⟨Nat.le_of_ble_eq_true rfl, Nat.le_of_ble_eq_true rfl⟩) hK hP hD hS hA hZ (q0 := 0) (ci := 1) rfl rfl rfl rfl hl.1 rfl (Nat.le_of_ble_eq_true rfl) dX1_packHead_33 ⟨Nat.le_of_ble_eq_true rfl, Nat.le_of_ble_eq_true rfl⟩ (fun r_7 u_8 H locs hw_6 hP hD hS => ?_)
      obtain rfl : u_8 = 0 := hw_6.1.trans (by decide)
      have hP : va_P (dC, dI) vwCl (w1 h a b cI cJ f g 0 (nI n8) zc zso znu zty zhd zpa zch zlk zlo zhi zlp zll zlv) H := hP
      have hD : va_D A (w1 h a b cI cJ f g 0 (nI n8) zc zso znu zty zhd zpa zch zlk zlo zhi zlp zll zlv) := hD
      obtain rfl : r_7 = 0 := hw_6.2.trans (by decide)
      refine lv_if_eq (tgt := 41) hx hb dX1_packHead_36 (by decide) (fun c_9 => ?_) (fun c_9 => ?_)
      · skip
        refine lv_aload_n hx hb dX1_packHead_41 rfl (lv_at hl 0 rfl) ?_
        refine va_get (D := (dC, dI)) (ci := 1) (v := .ref a) (C := RX1) (T := TX1) (N := 17) hx hb hts hin0 hown hK hP 0 rfl rfl 1 (by decide) fl7 (fun _ h9 => h9) rfl dX1_packHead_42 ?_
        refine lv_aload_n hx hb dX1_packHead_45 rfl (lv_at hl 0 rfl) ?_
        refine va_get (D := (dC, dI)) (ci := 1) (v := .int (nI n8)) (C := RX1) (T := TX1) (N := 17) hx hb hts hin0 hown hK hP 0 rfl rfl 2 (by decide) fl28 (fun _ h9 => h9) rfl dX1_packHead_46 ?_
        refine lv_iload_n hx hb dX1_packHead_49 rfl (lv_at hl 1 rfl) ?_
        refine va_iast hx hb hK hP hD hS 1 0 rfl rfl (vp_in_nI (by omega) (by decide)) dX1_packHead_50 (fun H locs hP hD hS => ?_)
        have hP : va_P (dC, dI) vwCl (w1 h a b cI cJ (upd f (nI n8).toNatClampNeg i9) g 0 (nI n8) zc zso znu zty zhd zpa zch zlk zlo zhi zlp zll zlv) H := hP
        have hD : va_D A (w1 h a b cI cJ (upd f (nI n8).toNatClampNeg i9) g 0 (nI n8) zc zso znu zty zhd zpa zch zlk zlo zhi zlp zll zlv) := hD
        refine lv_aload_n hx hb dX1_packHead_51 rfl (lv_at hl 0 rfl) ?_
        refine lv_dup hx hb dX1_packHead_52 rfl ?_
        refine va_get (D := (dC, dI)) (ci := 1) (v := .int (nI n8)) (C := RX1) (T := TX1) (N := 17) hx hb hts hin0 hown hK hP 0 rfl rfl 2 (by decide) fl28 (fun _ h9 => h9) rfl dX1_packHead_53 ?_
        refine lv_iconst (v := 1) hx hb dX1_packHead_56 (by decide) ?_
        refine lv_iadd hx hb dX1_packHead_57 ?_
        have e_10 : ((nI n8) + 1 : Int32) = nI (n8 + 1) := nI_1 n8
        rw [e_10]
        refine va_put (D := (dC, dI)) (ci := 1) (v := .int (nI (n8 + 1))) (ty := .int) (C := RX1) (T := TX1) (N := 17) hx hb hts hin0 tyX1 tyX1_ok nmX1 hown hK hP hD hS 0 rfl rfl 2 (by decide) fl28 (fun _ h9 => h9) rfl (by decide +kernel) rfl rfl (Nat.le_of_ble_eq_true rfl) dX1_packHead_58 (fun H locs hP hD hS => ?_)
        have hP : va_P (dC, dI) vwCl (w1 h a b cI cJ (upd f (nI n8).toNatClampNeg i9) g 0 (nI (n8 + 1)) zc zso znu zty zhd zpa zch zlk zlo zhi zlp zll zlv) H := hP
        have hD : va_D A (w1 h a b cI cJ (upd f (nI n8).toNatClampNeg i9) g 0 (nI (n8 + 1)) zc zso znu zty zhd zpa zch zlk zlo zhi zlp zll zlv) := hD
        have e_11 : (upd f (nI n8).toNatClampNeg i9 : Nat → Int32) = upd f n8 i9 := by rw [nI_clamp (by omega)]
        rw [e_11] at hP hD
        have hP : va_P (dC, dI) vwCl (w1 h a b cI cJ (upd f n8 i9) g 0 (nI (n8 + 1)) zc zso znu zty zhd zpa zch zlk zlo zhi zlp zll zlv) H := hP
        have hD : va_D A (w1 h a b cI cJ (upd f n8 i9) g 0 (nI (n8 + 1)) zc zso znu zty zhd zpa zch zlk zlo zhi zlp zll zlv) := hD
        refine lv_aload_n hx hb dX1_packHead_61 rfl (lv_at hl 0 rfl) ?_
        refine lv_lload_n hx hb dX1_packHead_62 rfl (lv_at hl 3 rfl) ?_
        refine lv_iload_n hx hb dX1_packHead_63 rfl (lv_at hl 2 rfl) ?_
        refine gvv (As := [.long x9, .int (nI w9)]) (rest := []) ⟨hx, hb, hml, hown, hts⟩ (c_X1_write l dC dI tk tw h a b cI cJ _ (upd f n8 i9) g 0 zc zso znu zty zhd zpa zch zlk zlo zhi zlp zll zlv (n8 + 1) w9 x9 (by omega)) (cwV 2 hts gX1_packHead_X1_write rfl rfl rfl (by decide +kernel) ⟨Nat.le_of_ble_eq_true rfl, Nat.le_of_ble_eq_true rfl⟩) hK hP hD hS hA hZ (q0 := 0) (ci := 1) rfl rfl rfl rfl hl.1 rfl (Nat.le_of_ble_eq_true rfl) dX1_packHead_64 ⟨Nat.le_of_ble_eq_true rfl, Nat.le_of_ble_eq_true rfl⟩ (fun u_14 H locs hw_12 hP hD hS => ?_)
        have hP : va_P (dC, dI) vwCl (w1 h a b cI cJ (apM (upd f n8 i9) (n8 + 1) x9 w9) g 0 (nI (n8 + 1 + w9)) zc zso znu zty zhd zpa zch zlk zlo zhi zlp zll zlv) H := hP
        have hD : va_D A (w1 h a b cI cJ (apM (upd f n8 i9) (n8 + 1) x9 w9) g 0 (nI (n8 + 1 + w9)) zc zso znu zty zhd zpa zch zlk zlo zhi zlp zll zlv) := hD
        refine lv_iload hx hb dX1_packHead_67 (lv_at hl 4 rfl) ?_
        refine lv_iconst (v := -1) hx hb dX1_packHead_69 (by decide) ?_
        refine lv_icmp_le (tgt := 81) hx hb dX1_packHead_70 (by decide) (fun c_15 => ?_) (fun c_15 => ?_)
        · skip
          exact absurd c_15 (Int32.not_le.mpr hm9)
        · skip
          refine lv_aload_n hx hb dX1_packHead_73 rfl (lv_at hl 0 rfl) ?_
          refine lv_iload hx hb dX1_packHead_74 (lv_at hl 4 rfl) ?_
          refine lv_i2l hx hb dX1_packHead_76 rfl ?_
          refine lv_iconst (v := 1) hx hb dX1_packHead_77 (by decide) ?_
          have e_18 : (1 : Int32) = nI 1 := rfl
          rw [e_18]
          refine gvv (As := [.long m9.toInt64, .int (nI 1)]) (rest := []) ⟨hx, hb, hml, hown, hts⟩ (c_X1_write l dC dI tk tw h a b cI cJ _ (apM (upd f n8 i9) (n8 + 1) x9 w9) g 0 zc zso znu zty zhd zpa zch zlk zlo zhi zlp zll zlv (n8 + 1 + w9) 1 m9.toInt64 (by omega)) (cwV 2 hts gX1_packHead_X1_write rfl rfl rfl (by decide +kernel) ⟨Nat.le_of_ble_eq_true rfl, Nat.le_of_ble_eq_true rfl⟩) hK hP hD hS hA hZ (q0 := 0) (ci := 1) rfl rfl rfl rfl hl.1 rfl (Nat.le_of_ble_eq_true rfl) dX1_packHead_78 ⟨Nat.le_of_ble_eq_true rfl, Nat.le_of_ble_eq_true rfl⟩ (fun u_19 H locs hw_16 hP hD hS => ?_)
          have hP : va_P (dC, dI) vwCl (w1 h a b cI cJ (apM (apM (upd f n8 i9) (n8 + 1) x9 w9) (n8 + 1 + w9) m9.toInt64 1) g 0 (nI (n8 + 1 + w9 + 1)) zc zso znu zty zhd zpa zch zlk zlo zhi zlp zll zlv) H := hP
          have hD : va_D A (w1 h a b cI cJ (apM (apM (upd f n8 i9) (n8 + 1) x9 w9) (n8 + 1 + w9) m9.toInt64 1) g 0 (nI (n8 + 1 + w9 + 1)) zc zso znu zty zhd zpa zch zlk zlo zhi zlp zll zlv) := hD
          refine lv_iconst (v := 1) hx hb dX1_packHead_81 (by decide) ?_
          refine lv_iload_n hx hb dX1_packHead_82 rfl (lv_at hl 2 rfl) ?_
          refine lv_iadd hx hb dX1_packHead_83 ?_
          have e_20 : (1 + (nI w9) : Int32) = nI (1 + w9) := (show nI 1 + nI w9 = _ from nI_add _ _)
          rw [e_20]
          refine lv_iload hx hb dX1_packHead_84 (lv_at hl 4 rfl) ?_
          refine lv_iconst (v := -1) hx hb dX1_packHead_86 (by decide) ?_
          refine lv_icmp_le (tgt := 94) hx hb dX1_packHead_87 (by decide) (fun c_21 => ?_) (fun c_21 => ?_)
          · skip
            exact absurd c_21 (Int32.not_le.mpr hm9)
          · skip
            refine lv_iconst (v := 1) hx hb dX1_packHead_90 (by decide) ?_
            refine lv_goto (tgt := 95) hx hb dX1_packHead_91 (by decide) ?_
            refine lv_iadd hx hb dX1_packHead_95 ?_
            have e_22 : ((nI (1 + w9)) + 1 : Int32) = nI (1 + w9 + 1) := nI_1 _
            rw [e_22]
            have hP9 : va_P (dC, dI) vwCl ((fun (_ : Unit) => w1 h a b cI cJ (apM (apM (upd f n8 i9) (n8 + 1) x9 w9) (n8 + 1 + w9) m9.toInt64 1) g 0 (nI (n8 + (1 + w9 + 1))) zc zso znu zty zhd zpa zch zlk zlo zhi zlp zll zlv) (())) H := by rw [show n8 + (1 + w9 + 1) = n8 + 1 + w9 + 1 by omega]; exact hP
            have hD9 : va_D A ((fun (_ : Unit) => w1 h a b cI cJ (apM (apM (upd f n8 i9) (n8 + 1) x9 w9) (n8 + 1 + w9) m9.toInt64 1) g 0 (nI (n8 + (1 + w9 + 1))) zc zso znu zty zhd zpa zch zlk zlo zhi zlp zll zlv) (())) := by rw [show n8 + (1 + w9 + 1) = n8 + 1 + w9 + 1 by omega]; exact hD
            exact W.iret (v := nI (1 + w9 + 1)) hx hb hr (fun t ht hW => ⟨⟨nI (1 + w9 + 1), (), rfl, rfl, by rw [ht]; exact hP9, va_K.moved hW.alike hK, hD9⟩, hS.F ht⟩) hS.2.2 dX1_packHead_96
      · skip
        exact absurd (by decide) c_9
    · skip
      exact absurd (nI_le (b := 4096) hr9 (by decide)) c_5
set_option maxHeartbeats 4000000 in
set_option maxRecDepth 100000 in
theorem c_X1_packHead_f (l : Launch) (dC : Nat → ClassId) (dI : Nat → Nat → Nat) (tk tw : Nat) (h a b : Nat) (cI cJ : ClassId) (sz : Nat) (f : Nat → Int32) (g : Nat → Int64) (zc : Int32) (zso : Int32) (znu : Int64) (zty : Int32) (zhd : Int32) (zpa : Int64) (zch : Int64) (zlk : Int32) (zlo : Int32) (zhi : Int32) (zlp : Int32) (zll : Int32) (zlv : Int32) (n8 : Nat) (hn8 : n8 ≤ 4096) (i9 : Int32) (w9 : Nat) (hw9 : w9 ≤ 8) (x9 : Int64) (hr9 : 4096 < n8 + 1 + w9) : Met l yX1_packHead wsX1_packHead ({ frames := 1, cells := 0, slots := 0, locals := 22 }) (va_Pc [.ref h, .int i9, .int (nI w9), .long x9, .int (-1)] (pr dC dI (t1 cI cJ) (w1 h a b cI cJ f g 0 (nI n8) zc zso znu zty zhd zpa zch zlk zlo zhi zlp zll zlv) sz tk tw)) (va_Qi (fun (r : Int32) (_ : Unit) => True) (fun (_ : Unit) => po dC dI (t1 cI cJ) (va_A (w1 h a b cI cJ f g 0 (nI n8) zc zso znu zty zhd zpa zch zlk zlo zhi zlp zll zlv) sz) (w1 h a b cI cJ f g 2 (nI n8) zc zso znu zty zhd zpa zch zlk zlo zhi zlp zll zlv)) (va_A (w1 h a b cI cJ f g 0 (nI n8) zc zso znu zty zhd zpa zch zlk zlo zhi zlp zll zlv) sz)) 0 0 (va_A (w1 h a b cI cJ f g 0 (nI n8) zc zso znu zty zhd zpa zch zlk zlo zhi zlp zll zlv) sz) := by
  refine Met.ofW (cc := cX1_packHead) (maxL := 6) (ret := (some .int)) (by decide) rfl ?_
  intro p e s m args below meth c s₁ Bd hml hv
  obtain ⟨rfl, hsz, hP, hK, hD0, hZ⟩ := hv
  have hx := Bd.exec
  have hb := Bd.bytes
  have hr := Bd.returns
  have hts := atoms_spec (ws := wsX1_packHead) Bd.pre
  have hown : s.vm.findClass RX1 = some m.cls := findClass_of_methodNamed Bd.named
  have hlocks := Bd.notSynchronized
  subst hsz
  have hD := hD0.self (sz := s.heap.size)
  generalize hAe : va_A (w1 h a b cI cJ f g 0 (nI n8) zc zso znu zty zhd zpa zch zlk zlo zhi zlp zll zlv) s.heap.size = A at hD hZ ⊢
  have hA : ∀ q : Nat, s.heap.size ≤ q → A q := fun q h => by rw [← hAe]; exact Or.inr h
  have hS : va_S A s.heap s.heap [] := va_S.rf
  have hP : va_P (dC, dI) vwCl (w1 h a b cI cJ f g 0 (nI n8) zc zso znu zty zhd zpa zch zlk zlo zhi zlp zll zlv) s.heap := hP
  have hin0 : ∀ w ∈ wsX10, w ∈ wsX1_packHead := by decide +kernel
  have fl28 := hts (.fieldLink RX1 28 "MessageReaderModel" "size" "I") (by decide +kernel)
  have hl := lv_entry ([.ref h, .int i9, .int (nI w9), .long x9, .int (-1)]) (n := 6) (Nat.le_of_ble_eq_true rfl)
  rw [lg_entry_eq]
  generalize (lg_sl ([.ref h, .int i9, .int (nI w9), .long x9, .int (-1)]) ++ List.replicate (6 - (lg_sl ([.ref h, .int i9, .int (nI w9), .long x9, .int (-1)])).length) Slot.unset).toArray = ls at hl ⊢
  have hl : lv_has ls 6 [(0, .ref h), (1, .int i9), (2, .int (nI w9)), (3, .long x9), (5, .int (-1))] := hl
  refine lv_aload_n hx hb dX1_packHead_0 rfl (lv_at hl 0 rfl) ?_
  refine lv_aload_n hx hb dX1_packHead_1 rfl (lv_at hl 0 rfl) ?_
  refine va_get (D := (dC, dI)) (ci := 1) (v := .int (nI n8)) (C := RX1) (T := TX1) (N := 17) hx hb hts hin0 hown hK hP 0 rfl rfl 2 (by decide) fl28 (fun _ h9 => h9) rfl dX1_packHead_2 ?_
  refine lv_iconst (v := 1) hx hb dX1_packHead_5 (by decide) ?_
  refine lv_iadd hx hb dX1_packHead_6 ?_
  have e_1 : ((nI n8) + 1 : Int32) = nI (n8 + 1) := nI_1 n8
  rw [e_1]
  refine lv_iload_n hx hb dX1_packHead_7 rfl (lv_at hl 2 rfl) ?_
  refine lv_iadd hx hb dX1_packHead_8 ?_
  have e_2 : ((nI (n8 + 1)) + (nI w9) : Int32) = nI (n8 + 1 + w9) := nI_add _ _
  rw [e_2]
  refine lv_iload hx hb dX1_packHead_9 (lv_at hl 4 rfl) ?_
  refine lv_iconst (v := -1) hx hb dX1_packHead_11 (by decide) ?_
  refine lv_icmp_le (tgt := 19) hx hb dX1_packHead_12 (by decide) (fun c_3 => ?_) (fun c_3 => ?_)
  · skip
    refine lv_iconst (v := 0) hx hb dX1_packHead_19 (by decide) ?_
    refine lv_iadd hx hb dX1_packHead_20 ?_
    have e_4 : ((nI (n8 + 1 + w9)) + 0 : Int32) = nI (n8 + 1 + w9) := (show nI (n8 + 1 + w9) + nI 0 = _ from nI_add _ 0)
    rw [e_4]
    refine lv_sipush (v := 4096) hx hb dX1_packHead_21 (by decide) ?_
    refine lv_icmp_le (tgt := 31) hx hb dX1_packHead_24 (by decide) (fun c_5 => ?_) (fun c_5 => ?_)
    · skip
      exact absurd c_5 (nI_ge (a := 4096) hr9 (by omega))
    · skip
      refine lv_iconst (v := 1) hx hb dX1_packHead_27 (by decide) ?_
      refine lv_goto (tgt := 32) hx hb dX1_packHead_28 (by decide) ?_
      refine lv_iconst (v := 2) hx hb dX1_packHead_32 (by decide) ?_
      refine gvi (As := [.int 1, .int 2]) (rest := []) ⟨hx, hb, hml, hown, hts⟩ (c_X1_fails l dC dI tk tw h a b cI cJ _ f g 0 (nI n8) zc zso znu zty zhd zpa zch zlk zlo zhi zlp zll zlv 1 2) (cwV 2 hts gX1_packHead_X1_fails rfl rfl rfl (by decide +kernel) ⟨Nat.le_of_ble_eq_true rfl, Nat.le_of_ble_eq_true rfl⟩) hK hP hD hS hA hZ (q0 := 0) (ci := 1) rfl rfl rfl rfl hl.1 rfl (Nat.le_of_ble_eq_true rfl) dX1_packHead_33 ⟨Nat.le_of_ble_eq_true rfl, Nat.le_of_ble_eq_true rfl⟩ (fun r_7 u_8 H locs hw_6 hP hD hS => ?_)
      obtain rfl : u_8 = 2 := hw_6.1.trans (by decide)
      have hP : va_P (dC, dI) vwCl (w1 h a b cI cJ f g 2 (nI n8) zc zso znu zty zhd zpa zch zlk zlo zhi zlp zll zlv) H := hP
      have hD : va_D A (w1 h a b cI cJ f g 2 (nI n8) zc zso znu zty zhd zpa zch zlk zlo zhi zlp zll zlv) := hD
      obtain rfl : r_7 = 1 := hw_6.2.trans (by decide)
      refine lv_if_eq (tgt := 41) hx hb dX1_packHead_36 (by decide) (fun c_9 => ?_) (fun c_9 => ?_)
      · skip
        exact absurd c_9 (by decide)
      · skip
        refine lv_iconst (v := 0) hx hb dX1_packHead_39 (by decide) ?_
        have hP9 : va_P (dC, dI) vwCl ((fun (_ : Unit) => w1 h a b cI cJ f g 2 (nI n8) zc zso znu zty zhd zpa zch zlk zlo zhi zlp zll zlv) (())) H := hP
        have hD9 : va_D A ((fun (_ : Unit) => w1 h a b cI cJ f g 2 (nI n8) zc zso znu zty zhd zpa zch zlk zlo zhi zlp zll zlv) (())) := hD
        exact W.iret (v := 0) hx hb hr (fun t ht hW => ⟨⟨0, (), rfl, trivial, by rw [ht]; exact hP9, va_K.moved hW.alike hK, hD9⟩, hS.F ht⟩) hS.2.2 dX1_packHead_40
  · skip
    exact absurd (by decide) c_3
set_option maxHeartbeats 4000000 in
set_option maxRecDepth 100000 in
theorem c_X1_packHead_mf (l : Launch) (dC : Nat → ClassId) (dI : Nat → Nat → Nat) (tk tw : Nat) (h a b : Nat) (cI cJ : ClassId) (sz : Nat) (f : Nat → Int32) (g : Nat → Int64) (zc : Int32) (zso : Int32) (znu : Int64) (zty : Int32) (zhd : Int32) (zpa : Int64) (zch : Int64) (zlk : Int32) (zlo : Int32) (zhi : Int32) (zlp : Int32) (zll : Int32) (zlv : Int32) (n8 : Nat) (hn8 : n8 ≤ 4096) (i9 : Int32) (w9 : Nat) (hw9 : w9 ≤ 8) (x9 : Int64) (m9 : Int32) (hm9 : -1 < m9) (hr9 : 4096 < n8 + 1 + w9 + 1) : Met l yX1_packHead wsX1_packHead ({ frames := 1, cells := 0, slots := 0, locals := 22 }) (va_Pc [.ref h, .int i9, .int (nI w9), .long x9, .int m9] (pr dC dI (t1 cI cJ) (w1 h a b cI cJ f g 0 (nI n8) zc zso znu zty zhd zpa zch zlk zlo zhi zlp zll zlv) sz tk tw)) (va_Qi (fun (r : Int32) (_ : Unit) => True) (fun (_ : Unit) => po dC dI (t1 cI cJ) (va_A (w1 h a b cI cJ f g 0 (nI n8) zc zso znu zty zhd zpa zch zlk zlo zhi zlp zll zlv) sz) (w1 h a b cI cJ f g 2 (nI n8) zc zso znu zty zhd zpa zch zlk zlo zhi zlp zll zlv)) (va_A (w1 h a b cI cJ f g 0 (nI n8) zc zso znu zty zhd zpa zch zlk zlo zhi zlp zll zlv) sz)) 0 0 (va_A (w1 h a b cI cJ f g 0 (nI n8) zc zso znu zty zhd zpa zch zlk zlo zhi zlp zll zlv) sz) := by
  refine Met.ofW (cc := cX1_packHead) (maxL := 6) (ret := (some .int)) (by decide) rfl ?_
  intro p e s m args below meth c s₁ Bd hml hv
  obtain ⟨rfl, hsz, hP, hK, hD0, hZ⟩ := hv
  have hx := Bd.exec
  have hb := Bd.bytes
  have hr := Bd.returns
  have hts := atoms_spec (ws := wsX1_packHead) Bd.pre
  have hown : s.vm.findClass RX1 = some m.cls := findClass_of_methodNamed Bd.named
  have hlocks := Bd.notSynchronized
  subst hsz
  have hD := hD0.self (sz := s.heap.size)
  generalize hAe : va_A (w1 h a b cI cJ f g 0 (nI n8) zc zso znu zty zhd zpa zch zlk zlo zhi zlp zll zlv) s.heap.size = A at hD hZ ⊢
  have hA : ∀ q : Nat, s.heap.size ≤ q → A q := fun q h => by rw [← hAe]; exact Or.inr h
  have hS : va_S A s.heap s.heap [] := va_S.rf
  have hP : va_P (dC, dI) vwCl (w1 h a b cI cJ f g 0 (nI n8) zc zso znu zty zhd zpa zch zlk zlo zhi zlp zll zlv) s.heap := hP
  have hin0 : ∀ w ∈ wsX10, w ∈ wsX1_packHead := by decide +kernel
  have fl28 := hts (.fieldLink RX1 28 "MessageReaderModel" "size" "I") (by decide +kernel)
  have hl := lv_entry ([.ref h, .int i9, .int (nI w9), .long x9, .int m9]) (n := 6) (Nat.le_of_ble_eq_true rfl)
  rw [lg_entry_eq]
  generalize (lg_sl ([.ref h, .int i9, .int (nI w9), .long x9, .int m9]) ++ List.replicate (6 - (lg_sl ([.ref h, .int i9, .int (nI w9), .long x9, .int m9])).length) Slot.unset).toArray = ls at hl ⊢
  have hl : lv_has ls 6 [(0, .ref h), (1, .int i9), (2, .int (nI w9)), (3, .long x9), (5, .int m9)] := hl
  refine lv_aload_n hx hb dX1_packHead_0 rfl (lv_at hl 0 rfl) ?_
  refine lv_aload_n hx hb dX1_packHead_1 rfl (lv_at hl 0 rfl) ?_
  refine va_get (D := (dC, dI)) (ci := 1) (v := .int (nI n8)) (C := RX1) (T := TX1) (N := 17) hx hb hts hin0 hown hK hP 0 rfl rfl 2 (by decide) fl28 (fun _ h9 => h9) rfl dX1_packHead_2 ?_
  refine lv_iconst (v := 1) hx hb dX1_packHead_5 (by decide) ?_
  refine lv_iadd hx hb dX1_packHead_6 ?_
  have e_1 : ((nI n8) + 1 : Int32) = nI (n8 + 1) := nI_1 n8
  rw [e_1]
  refine lv_iload_n hx hb dX1_packHead_7 rfl (lv_at hl 2 rfl) ?_
  refine lv_iadd hx hb dX1_packHead_8 ?_
  have e_2 : ((nI (n8 + 1)) + (nI w9) : Int32) = nI (n8 + 1 + w9) := nI_add _ _
  rw [e_2]
  refine lv_iload hx hb dX1_packHead_9 (lv_at hl 4 rfl) ?_
  refine lv_iconst (v := -1) hx hb dX1_packHead_11 (by decide) ?_
  refine lv_icmp_le (tgt := 19) hx hb dX1_packHead_12 (by decide) (fun c_3 => ?_) (fun c_3 => ?_)
  · skip
    exact absurd c_3 (Int32.not_le.mpr hm9)
  · skip
    refine lv_iconst (v := 1) hx hb dX1_packHead_15 (by decide) ?_
    refine lv_goto (tgt := 20) hx hb dX1_packHead_16 (by decide) ?_
    refine lv_iadd hx hb dX1_packHead_20 ?_
    have e_4 : ((nI (n8 + 1 + w9)) + 1 : Int32) = nI (n8 + 1 + w9 + 1) := nI_1 _
    rw [e_4]
    refine lv_sipush (v := 4096) hx hb dX1_packHead_21 (by decide) ?_
    refine lv_icmp_le (tgt := 31) hx hb dX1_packHead_24 (by decide) (fun c_5 => ?_) (fun c_5 => ?_)
    · skip
      exact absurd c_5 (nI_ge (a := 4096) hr9 (by omega))
    · skip
      refine lv_iconst (v := 1) hx hb dX1_packHead_27 (by decide) ?_
      refine lv_goto (tgt := 32) hx hb dX1_packHead_28 (by decide) ?_
      refine lv_iconst (v := 2) hx hb dX1_packHead_32 (by decide) ?_
      refine gvi (As := [.int 1, .int 2]) (rest := []) ⟨hx, hb, hml, hown, hts⟩ (c_X1_fails l dC dI tk tw h a b cI cJ _ f g 0 (nI n8) zc zso znu zty zhd zpa zch zlk zlo zhi zlp zll zlv 1 2) (cwV 2 hts gX1_packHead_X1_fails rfl rfl rfl (by decide +kernel) ⟨Nat.le_of_ble_eq_true rfl, Nat.le_of_ble_eq_true rfl⟩) hK hP hD hS hA hZ (q0 := 0) (ci := 1) rfl rfl rfl rfl hl.1 rfl (Nat.le_of_ble_eq_true rfl) dX1_packHead_33 ⟨Nat.le_of_ble_eq_true rfl, Nat.le_of_ble_eq_true rfl⟩ (fun r_7 u_8 H locs hw_6 hP hD hS => ?_)
      obtain rfl : u_8 = 2 := hw_6.1.trans (by decide)
      have hP : va_P (dC, dI) vwCl (w1 h a b cI cJ f g 2 (nI n8) zc zso znu zty zhd zpa zch zlk zlo zhi zlp zll zlv) H := hP
      have hD : va_D A (w1 h a b cI cJ f g 2 (nI n8) zc zso znu zty zhd zpa zch zlk zlo zhi zlp zll zlv) := hD
      obtain rfl : r_7 = 1 := hw_6.2.trans (by decide)
      refine lv_if_eq (tgt := 41) hx hb dX1_packHead_36 (by decide) (fun c_9 => ?_) (fun c_9 => ?_)
      · skip
        exact absurd c_9 (by decide)
      · skip
        refine lv_iconst (v := 0) hx hb dX1_packHead_39 (by decide) ?_
        have hP9 : va_P (dC, dI) vwCl ((fun (_ : Unit) => w1 h a b cI cJ f g 2 (nI n8) zc zso znu zty zhd zpa zch zlk zlo zhi zlp zll zlv) (())) H := hP
        have hD9 : va_D A ((fun (_ : Unit) => w1 h a b cI cJ f g 2 (nI n8) zc zso znu zty zhd zpa zch zlk zlo zhi zlp zll zlv) (())) := hD
        exact W.iret (v := 0) hx hb hr (fun t ht hW => ⟨⟨0, (), rfl, trivial, by rw [ht]; exact hP9, va_K.moved hW.alike hK, hD9⟩, hS.F ht⟩) hS.2.2 dX1_packHead_40
