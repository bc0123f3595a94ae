set_option maxHeartbeats 4000000 in
set_option maxRecDepth 100000 in
theorem c_X0_kindOf (l : Launch) (dC : Nat → ClassId) (dI : Nat → Nat → Nat) (tk tw : Nat) (sz : Nat) (b9 : Nat) (hb9 : b9 < 256) : Met l yX0_kindOf wsX0_kindOf ({ frames := 0, cells := 0, slots := 0, locals := 0 }) (va_Pc [.int (nI b9)] (p0 sz tk tw)) (va_Qi (fun (r : Int32) (_ : Unit) => r = nI (kd b9)) (fun _ _ => True) (va_A [] sz)) 0 0 (va_A [] sz) := by
  refine Met.ofW (cc := cX0_kindOf) (maxL := 1) (ret := (some .int)) (by decide) rfl ?_
  intro p e s m args below meth c s₁ Bd hml hv
  obtain ⟨rfl, hsz, hZ⟩ := hv
  have hx := Bd.exec
  have hb := Bd.bytes
  have hr := Bd.returns
  have hts := atoms_spec (ws := wsX0_kindOf) Bd.pre
  have hown : s.vm.findClass RX0 = some m.cls := findClass_of_methodNamed Bd.named
  have hlocks := Bd.notSynchronized
  subst hsz
  generalize hAe : va_A [] s.heap.size = A at hZ ⊢
  have hA : ∀ q : Nat, s.heap.size ≤ q → A q := fun q h => by rw [← hAe]; exact Or.inr h
  have hS : va_S A s.heap s.heap [] := va_S.rf
  have hP : va_P (dC, dI) vwCl [] s.heap := fun k q h => by simp at h
  have hl := lv_entry ([.int (nI b9)]) (n := 1) (Nat.le_of_ble_eq_true rfl)
  rw [lg_entry_eq]
  generalize (lg_sl ([.int (nI b9)]) ++ List.replicate (1 - (lg_sl ([.int (nI b9)])).length) Slot.unset).toArray = ls at hl ⊢
  have hl : lv_has ls 1 [(0, .int (nI b9))] := hl
  refine lv_iload_n hx hb dX0_kindOf_0 rfl (lv_at hl 0 rfl) ?_
  refine lv_sipush (v := 128) hx hb dX0_kindOf_1 (by decide) ?_
  refine lv_icmp_ge (tgt := 9) hx hb dX0_kindOf_4 (by decide) (fun c_1 => ?_) (fun c_1 => ?_)
  · skip
    refine lv_iload_n hx hb dX0_kindOf_9 rfl (lv_at hl 0 rfl) ?_
    refine lv_sipush (v := 144) hx hb dX0_kindOf_10 (by decide) ?_
    refine lv_icmp_ge (tgt := 19) hx hb dX0_kindOf_13 (by decide) (fun c_2 => ?_) (fun c_2 => ?_)
    · skip
      refine lv_iload_n hx hb dX0_kindOf_19 rfl (lv_at hl 0 rfl) ?_
      refine lv_sipush (v := 160) hx hb dX0_kindOf_20 (by decide) ?_
      refine lv_icmp_ge (tgt := 29) hx hb dX0_kindOf_23 (by decide) (fun c_3 => ?_) (fun c_3 => ?_)
      · skip
        refine lv_iload_n hx hb dX0_kindOf_29 rfl (lv_at hl 0 rfl) ?_
        refine lv_sipush (v := 192) hx hb dX0_kindOf_30 (by decide) ?_
        refine lv_icmp_ge (tgt := 39) hx hb dX0_kindOf_33 (by decide) (fun c_4 => ?_) (fun c_4 => ?_)
        · skip
          refine lv_iload_n hx hb dX0_kindOf_39 rfl (lv_at hl 0 rfl) ?_
          refine lv_sipush (v := 223) hx hb dX0_kindOf_40 (by decide) ?_
          refine lv_icmp_le (tgt := 50) hx hb dX0_kindOf_43 (by decide) (fun c_5 => ?_) (fun c_5 => ?_)
          · skip
            refine va_gets hx hb hZ.1 hS hown (hts (.fieldLink RX0 133 "MessageReader" "ROW_KIND" "[I") (by decide +kernel)) (fun _ h9 => h9) dX0_kindOf_50 ?_
            refine lv_iload_n hx hb dX0_kindOf_53 rfl (lv_at hl 0 rfl) ?_
            refine lv_sipush (v := 192) hx hb dX0_kindOf_54 (by decide) ?_
            refine lv_isub hx hb dX0_kindOf_57 ?_
            refine va_ti hx hb hZ.2.1 hS (row_in b9 hb9 (by assumption) (by assumption)) rfl dX0_kindOf_58 ?_
            exact W.iret (v := rK ((nI b9) - 192).toNatClampNeg) hx hb hr (fun t ht hW => ⟨⟨rK ((nI b9) - 192).toNatClampNeg, (), rfl, (by rw [← sK_kd b9 hb9]; unfold sK; rw [if_pos c_1, if_pos c_2, if_pos c_3, if_pos c_4, if_pos c_5]), trivial⟩, hS.F ht⟩) hS.2.2 dX0_kindOf_59
          · skip
            refine lv_iconst (v := 5) hx hb dX0_kindOf_46 (by decide) ?_
            refine lv_goto (tgt := 59) hx hb dX0_kindOf_47 (by decide) ?_
            exact W.iret (v := 5) hx hb hr (fun t ht hW => ⟨⟨5, (), rfl, (by rw [← sK_kd b9 hb9]; unfold sK; rw [if_pos c_1, if_pos c_2, if_pos c_3, if_pos c_4, if_neg c_5]), trivial⟩, hS.F ht⟩) hS.2.2 dX0_kindOf_59
        · skip
          refine lv_bipush (v := 8) hx hb dX0_kindOf_36 (by decide) ?_
          exact W.iret (v := 8) hx hb hr (fun t ht hW => ⟨⟨8, (), rfl, (by rw [← sK_kd b9 hb9]; unfold sK; rw [if_pos c_1, if_pos c_2, if_pos c_3, if_neg c_4]), trivial⟩, hS.F ht⟩) hS.2.2 dX0_kindOf_38
      · skip
        refine lv_bipush (v := 10) hx hb dX0_kindOf_26 (by decide) ?_
        exact W.iret (v := 10) hx hb hr (fun t ht hW => ⟨⟨10, (), rfl, (by rw [← sK_kd b9 hb9]; unfold sK; rw [if_pos c_1, if_pos c_2, if_neg c_3]), trivial⟩, hS.F ht⟩) hS.2.2 dX0_kindOf_28
    · skip
      refine lv_bipush (v := 11) hx hb dX0_kindOf_16 (by decide) ?_
      exact W.iret (v := 11) hx hb hr (fun t ht hW => ⟨⟨11, (), rfl, (by rw [← sK_kd b9 hb9]; unfold sK; rw [if_pos c_1, if_neg c_2]), trivial⟩, hS.F ht⟩) hS.2.2 dX0_kindOf_18
  · skip
    refine lv_iconst (v := 4) hx hb dX0_kindOf_7 (by decide) ?_
    exact W.iret (v := 4) hx hb hr (fun t ht hW => ⟨⟨4, (), rfl, (by rw [← sK_kd b9 hb9]; unfold sK; rw [if_neg c_1]), trivial⟩, hS.F ht⟩) hS.2.2 dX0_kindOf_8
set_option maxHeartbeats 4000000 in
set_option maxRecDepth 100000 in
theorem c_X0_width (l : Launch) (dC : Nat → ClassId) (dI : Nat → Nat → Nat) (tk tw : Nat) (sz : Nat) (b9 : Nat) (hb9 : b9 < 256) : Met l yX0_width wsX0_width ({ frames := 0, cells := 0, slots := 0, locals := 0 }) (va_Pc [.int (nI b9)] (p0 sz tk tw)) (va_Qi (fun (r : Int32) (_ : Unit) => r = nI (wd b9)) (fun _ _ => True) (va_A [] sz)) 0 0 (va_A [] sz) := by
  refine Met.ofW (cc := cX0_width) (maxL := 1) (ret := (some .int)) (by decide) rfl ?_
  intro p e s m args below meth c s₁ Bd hml hv
  obtain ⟨rfl, hsz, hZ⟩ := hv
  have hx := Bd.exec
  have hb := Bd.bytes
  have hr := Bd.returns
  have hts := atoms_spec (ws := wsX0_width) Bd.pre
  have hown : s.vm.findClass RX0 = some m.cls := findClass_of_methodNamed Bd.named
  have hlocks := Bd.notSynchronized
  subst hsz
  generalize hAe : va_A [] s.heap.size = A at hZ ⊢
  have hA : ∀ q : Nat, s.heap.size ≤ q → A q := fun q h => by rw [← hAe]; exact Or.inr h
  have hS : va_S A s.heap s.heap [] := va_S.rf
  have hP : va_P (dC, dI) vwCl [] s.heap := fun k q h => by simp at h
  have hl := lv_entry ([.int (nI b9)]) (n := 1) (Nat.le_of_ble_eq_true rfl)
  rw [lg_entry_eq]
  generalize (lg_sl ([.int (nI b9)]) ++ List.replicate (1 - (lg_sl ([.int (nI b9)])).length) Slot.unset).toArray = ls at hl ⊢
  have hl : lv_has ls 1 [(0, .int (nI b9))] := hl
  refine lv_iload_n hx hb dX0_width_0 rfl (lv_at hl 0 rfl) ?_
  refine lv_sipush (v := 192) hx hb dX0_width_1 (by decide) ?_
  refine lv_icmp_lt (tgt := 14) hx hb dX0_width_4 (by decide) (fun c_1 => ?_) (fun c_1 => ?_)
  · skip
    refine lv_iconst (v := 0) hx hb dX0_width_14 (by decide) ?_
    refine lv_goto (tgt := 27) hx hb dX0_width_15 (by decide) ?_
    exact W.iret (v := 0) hx hb hr (fun t ht hW => ⟨⟨0, (), rfl, (by rw [← sW_wd b9 hb9]; unfold sW; rw [if_pos c_1]), trivial⟩, hS.F ht⟩) hS.2.2 dX0_width_27
  · skip
    refine lv_iload_n hx hb dX0_width_7 rfl (lv_at hl 0 rfl) ?_
    refine lv_sipush (v := 223) hx hb dX0_width_8 (by decide) ?_
    refine lv_icmp_le (tgt := 18) hx hb dX0_width_11 (by decide) (fun c_2 => ?_) (fun c_2 => ?_)
    · skip
      refine va_gets hx hb hZ.2.2.1 hS hown (hts (.fieldLink RX0 137 "MessageReader" "ROW_WIDTH" "[I") (by decide +kernel)) (fun _ h9 => h9) dX0_width_18 ?_
      refine lv_iload_n hx hb dX0_width_21 rfl (lv_at hl 0 rfl) ?_
      refine lv_sipush (v := 192) hx hb dX0_width_22 (by decide) ?_
      refine lv_isub hx hb dX0_width_25 ?_
      refine va_ti hx hb hZ.2.2.2 hS (row_in2 b9 hb9 (by assumption) (by assumption)) rfl dX0_width_26 ?_
      exact W.iret (v := rW ((nI b9) - 192).toNatClampNeg) hx hb hr (fun t ht hW => ⟨⟨rW ((nI b9) - 192).toNatClampNeg, (), rfl, (by rw [← sW_wd b9 hb9]; unfold sW; rw [if_neg c_1, if_pos c_2]), trivial⟩, hS.F ht⟩) hS.2.2 dX0_width_27
    · skip
      refine lv_iconst (v := 0) hx hb dX0_width_14 (by decide) ?_
      refine lv_goto (tgt := 27) hx hb dX0_width_15 (by decide) ?_
      exact W.iret (v := 0) hx hb hr (fun t ht hW => ⟨⟨0, (), rfl, (by rw [← sW_wd b9 hb9]; unfold sW; rw [if_neg c_1, if_neg c_2]), trivial⟩, hS.F ht⟩) hS.2.2 dX0_width_27
set_option maxHeartbeats 4000000 in
set_option maxRecDepth 100000 in
theorem c_X0_typeWidth (l : Launch) (dC : Nat → ClassId) (dI : Nat → Nat → Nat) (tk tw : Nat) (sz : Nat) (b9 : Nat) (hb9 : b9 < 256) : Met l yX0_typeWidth wsX0_typeWidth ({ frames := 1, cells := 0, slots := 0, locals := 20 }) (va_Pc [.int (nI b9)] (p0 sz tk tw)) (va_Qi (fun (r : Int32) (_ : Unit) => r = nI (tW b9)) (fun _ _ => True) (va_A [] sz)) 0 0 (va_A [] sz) := by
  refine Met.ofW (cc := cX0_typeWidth) (maxL := 1) (ret := (some .int)) (by decide) rfl ?_
  intro p e s m args below meth c s₁ Bd hml hv
  obtain ⟨rfl, hsz, hZ⟩ := hv
  have hx := Bd.exec
  have hb := Bd.bytes
  have hr := Bd.returns
  have hts := atoms_spec (ws := wsX0_typeWidth) Bd.pre
  have hown : s.vm.findClass RX0 = some m.cls := findClass_of_methodNamed Bd.named
  have hlocks := Bd.notSynchronized
  subst hsz
  generalize hAe : va_A [] s.heap.size = A at hZ ⊢
  have hA : ∀ q : Nat, s.heap.size ≤ q → A q := fun q h => by rw [← hAe]; exact Or.inr h
  have hS : va_S A s.heap s.heap [] := va_S.rf
  have hP : va_P (dC, dI) vwCl [] s.heap := fun k q h => by simp at h
  have hl := lv_entry ([.int (nI b9)]) (n := 1) (Nat.le_of_ble_eq_true rfl)
  rw [lg_entry_eq]
  generalize (lg_sl ([.int (nI b9)]) ++ List.replicate (1 - (lg_sl ([.int (nI b9)])).length) Slot.unset).toArray = ls at hl ⊢
  have hl : lv_has ls 1 [(0, .int (nI b9))] := hl
  refine lv_iload_n hx hb dX0_typeWidth_0 rfl (lv_at hl 0 rfl) ?_
  refine gsi (As := [.int (nI b9)]) (rest := []) ⟨hx, hb, hml, hown, hts⟩ (c_X0_kindOf l dC dI tk tw _ b9 hb9) (va_cwS 1 hts gX0_typeWidth_X0_kindOf rfl rfl rfl (by decide +kernel) ⟨Nat.le_of_ble_eq_true rfl, Nat.le_of_ble_eq_true rfl⟩) hP hS hA hZ rfl hl.1 rfl (Nat.le_of_ble_eq_true rfl) dX0_typeWidth_1 ⟨Nat.le_of_ble_eq_true rfl, Nat.le_of_ble_eq_true rfl⟩ (fun r_2 H locs hw_1 hP hS => ?_)
  obtain rfl : r_2 = nI (kd b9) := hw_1
  refine lv_bipush (v := 12) hx hb dX0_typeWidth_4 (by decide) ?_
  refine lv_icmp_ne (tgt := 13) hx hb dX0_typeWidth_6 (by decide) (fun c_3 => ?_) (fun c_3 => ?_)
  · skip
    refine lv_iconst (v := 0) hx hb dX0_typeWidth_13 (by decide) ?_
    exact W.iret (v := 0) hx hb hr (fun t ht hW => ⟨⟨0, (), rfl, (by unfold tW; have q9 := nI_e12 (kd b9) (kd_le b9 hb9) 12 (by decide); have q8 : (12 : Int32) = nI 12 := rfl; rw [q8] at c_3; rw [if_neg (fun z => c_3 (q9.mpr z))]; rfl), trivial⟩, hS.F ht⟩) hS.2.2 dX0_typeWidth_14
  · skip
    refine lv_iconst (v := 1) hx hb dX0_typeWidth_9 (by decide) ?_
    refine lv_goto (tgt := 14) hx hb dX0_typeWidth_10 (by decide) ?_
    exact W.iret (v := 1) hx hb hr (fun t ht hW => ⟨⟨1, (), rfl, (by unfold tW; have q9 := nI_e12 (kd b9) (kd_le b9 hb9) 12 (by decide); have q8 : (12 : Int32) = nI 12 := rfl; rw [q8] at c_3; rw [if_pos (q9.mp c_3)]; rfl), trivial⟩, hS.F ht⟩) hS.2.2 dX0_typeWidth_14
set_option maxHeartbeats 4000000 in
set_option maxRecDepth 100000 in
theorem c_X0_headLength (l : Launch) (dC : Nat → ClassId) (dI : Nat → Nat → Nat) (tk tw : Nat) (sz : Nat) (b9 : Nat) (hb9 : b9 < 256) : Met l yX0_headLength wsX0_headLength ({ frames := 2, cells := 0, slots := 0, locals := 40 }) (va_Pc [.int (nI b9)] (p0 sz tk tw)) (va_Qi (fun (r : Int32) (_ : Unit) => r = nI (hd b9)) (fun _ _ => True) (va_A [] sz)) 0 0 (va_A [] sz) := by
  refine Met.ofW (cc := cX0_headLength) (maxL := 1) (ret := (some .int)) (by decide) rfl ?_
  intro p e s m args below meth c s₁ Bd hml hv
  obtain ⟨rfl, hsz, hZ⟩ := hv
  have hx := Bd.exec
  have hb := Bd.bytes
  have hr := Bd.returns
  have hts := atoms_spec (ws := wsX0_headLength) Bd.pre
  have hown : s.vm.findClass RX0 = some m.cls := findClass_of_methodNamed Bd.named
  have hlocks := Bd.notSynchronized
  subst hsz
  generalize hAe : va_A [] s.heap.size = A at hZ ⊢
  have hA : ∀ q : Nat, s.heap.size ≤ q → A q := fun q h => by rw [← hAe]; exact Or.inr h
  have hS : va_S A s.heap s.heap [] := va_S.rf
  have hP : va_P (dC, dI) vwCl [] s.heap := fun k q h => by simp at h
  have hl := lv_entry ([.int (nI b9)]) (n := 1) (Nat.le_of_ble_eq_true rfl)
  rw [lg_entry_eq]
  generalize (lg_sl ([.int (nI b9)]) ++ List.replicate (1 - (lg_sl ([.int (nI b9)])).length) Slot.unset).toArray = ls at hl ⊢
  have hl : lv_has ls 1 [(0, .int (nI b9))] := hl
  refine lv_iconst (v := 1) hx hb dX0_headLength_0 (by decide) ?_
  refine lv_iload_n hx hb dX0_headLength_1 rfl (lv_at hl 0 rfl) ?_
  refine gsi (As := [.int (nI b9)]) (rest := [.int 1]) ⟨hx, hb, hml, hown, hts⟩ (c_X0_width l dC dI tk tw _ b9 hb9) (va_cwS 1 hts gX0_headLength_X0_width rfl rfl rfl (by decide +kernel) ⟨Nat.le_of_ble_eq_true rfl, Nat.le_of_ble_eq_true rfl⟩) hP hS hA hZ rfl hl.1 rfl (Nat.le_of_ble_eq_true rfl) dX0_headLength_2 ⟨Nat.le_of_ble_eq_true rfl, Nat.le_of_ble_eq_true rfl⟩ (fun r_2 H locs hw_1 hP hS => ?_)
  obtain rfl : r_2 = nI (wd b9) := hw_1
  refine lv_iadd hx hb dX0_headLength_5 ?_
  refine lv_iload_n hx hb dX0_headLength_6 rfl (lv_at hl 0 rfl) ?_
  refine gsi (As := [.int (nI b9)]) (rest := [.int (1 + (nI (wd b9)))]) ⟨hx, hb, hml, hown, hts⟩ (c_X0_typeWidth l dC dI tk tw _ b9 hb9) (va_cwS 1 hts gX0_headLength_X0_typeWidth rfl rfl rfl (by decide +kernel) ⟨Nat.le_of_ble_eq_true rfl, Nat.le_of_ble_eq_true rfl⟩) hP hS hA hZ rfl hl.1 rfl (Nat.le_of_ble_eq_true rfl) dX0_headLength_7 ⟨Nat.le_of_ble_eq_true rfl, Nat.le_of_ble_eq_true rfl⟩ (fun r_4 H locs hw_3 hP hS => ?_)
  obtain rfl : r_4 = nI (tW b9) := hw_3
  refine lv_iadd hx hb dX0_headLength_10 ?_
  exact W.iret (v := (1 + (nI (wd b9))) + (nI (tW b9))) hx hb hr (fun t ht hW => ⟨⟨(1 + (nI (wd b9))) + (nI (tW b9)), (), rfl, (by rw [show (1 : Int32) = nI 1 from rfl, nI_add, nI_add]; rfl), trivial⟩, hS.F ht⟩) hS.2.2 dX0_headLength_11
set_option maxHeartbeats 4000000 in
set_option maxRecDepth 100000 in
theorem c_X0_numberInside (l : Launch) (dC : Nat → ClassId) (dI : Nat → Nat → Nat) (tk tw : Nat) (sz : Nat) (b9 : Nat) (hb9 : b9 < 256) : Met l yX0_numberInside wsX0_numberInside ({ frames := 1, cells := 0, slots := 0, locals := 20 }) (va_Pc [.int (nI b9)] (p0 sz tk tw)) (va_Ql (fun (r : Int64) (_ : Unit) => r = sI b9) (fun _ _ => True) (va_A [] sz)) 0 0 (va_A [] sz) := by
  refine Met.ofW (cc := cX0_numberInside) (maxL := 1) (ret := (some .long)) (by decide) rfl ?_
  intro p e s m args below meth c s₁ Bd hml hv
  obtain ⟨rfl, hsz, hZ⟩ := hv
  have hx := Bd.exec
  have hb := Bd.bytes
  have hr := Bd.returns
  have hts := atoms_spec (ws := wsX0_numberInside) Bd.pre
  have hown : s.vm.findClass RX0 = some m.cls := findClass_of_methodNamed Bd.named
  have hlocks := Bd.notSynchronized
  subst hsz
  generalize hAe : va_A [] s.heap.size = A at hZ ⊢
  have hA : ∀ q : Nat, s.heap.size ≤ q → A q := fun q h => by rw [← hAe]; exact Or.inr h
  have hS : va_S A s.heap s.heap [] := va_S.rf
  have hP : va_P (dC, dI) vwCl [] s.heap := fun k q h => by simp at h
  have hl := lv_entry ([.int (nI b9)]) (n := 1) (Nat.le_of_ble_eq_true rfl)
  rw [lg_entry_eq]
  generalize (lg_sl ([.int (nI b9)]) ++ List.replicate (1 - (lg_sl ([.int (nI b9)])).length) Slot.unset).toArray = ls at hl ⊢
  have hl : lv_has ls 1 [(0, .int (nI b9))] := hl
  refine lv_iload_n hx hb dX0_numberInside_0 rfl (lv_at hl 0 rfl) ?_
  refine gsi (As := [.int (nI b9)]) (rest := []) ⟨hx, hb, hml, hown, hts⟩ (c_X0_kindOf l dC dI tk tw _ b9 hb9) (va_cwS 1 hts gX0_numberInside_X0_kindOf rfl rfl rfl (by decide +kernel) ⟨Nat.le_of_ble_eq_true rfl, Nat.le_of_ble_eq_true rfl⟩) hP hS hA hZ rfl hl.1 rfl (Nat.le_of_ble_eq_true rfl) dX0_numberInside_1 ⟨Nat.le_of_ble_eq_true rfl, Nat.le_of_ble_eq_true rfl⟩ (fun r_2 H locs hw_1 hP hS => ?_)
  obtain rfl : r_2 = nI (kd b9) := hw_1
  by_cases c_3 : (nI (kd b9)) = 4
  · skip
    refine lv_tableIn (tgt := 56) hx hb dX0_numberInside_4 (by rw [c_3]; decide) (by rw [c_3]; decide) (by rw [c_3] <;> rfl) (by decide) ?_
    refine lv_iload_n hx hb dX0_numberInside_56 rfl (lv_at hl 0 rfl) ?_
    refine lv_i2l hx hb dX0_numberInside_57 rfl ?_
    exact W.lret (v := (nI b9).toInt64) hx hb hr (fun t ht hW => ⟨⟨(nI b9).toInt64, (), rfl, (by have qc_3 :  kd b9 = 4 := (nI_e12 _ (kd_le b9 hb9) 4 (by decide)).mp c_3; simp [sI, qc_3]), trivial⟩, hS.F ht⟩) hS.2.2 dX0_numberInside_58
  by_cases c_4 : (nI (kd b9)) = 5
  · skip
    refine lv_tableIn (tgt := 59) hx hb dX0_numberInside_4 (by rw [c_4]; decide) (by rw [c_4]; decide) (by rw [c_4] <;> rfl) (by decide) ?_
    refine lv_iload_n hx hb dX0_numberInside_59 rfl (lv_at hl 0 rfl) ?_
    refine lv_sipush (v := 256) hx hb dX0_numberInside_60 (by decide) ?_
    refine lv_isub hx hb dX0_numberInside_63 ?_
    refine lv_i2l hx hb dX0_numberInside_64 rfl ?_
    exact W.lret (v := ((nI b9) - 256).toInt64) hx hb hr (fun t ht hW => ⟨⟨((nI b9) - 256).toInt64, (), rfl, (by have qc_3 : ¬ kd b9 = 4 := fun z => c_3 ((nI_e12 _ (kd_le b9 hb9) 4 (by decide)).mpr z); have qc_4 :  kd b9 = 5 := (nI_e12 _ (kd_le b9 hb9) 5 (by decide)).mp c_4; simp [sI, qc_3, qc_4]), trivial⟩, hS.F ht⟩) hS.2.2 dX0_numberInside_65
  by_cases c_5 : (nI (kd b9)) = 6
  · skip
    refine lv_tableIn (tgt := 95) hx hb dX0_numberInside_4 (by rw [c_5]; decide) (by rw [c_5]; decide) (by rw [c_5] <;> rfl) (by decide) ?_
    refine lv_lconst (v := 0) hx hb dX0_numberInside_95 (by decide) ?_
    exact W.lret (v := 0) hx hb hr (fun t ht hW => ⟨⟨0, (), rfl, (by have qc_3 : ¬ kd b9 = 4 := fun z => c_3 ((nI_e12 _ (kd_le b9 hb9) 4 (by decide)).mpr z); have qc_4 : ¬ kd b9 = 5 := fun z => c_4 ((nI_e12 _ (kd_le b9 hb9) 5 (by decide)).mpr z); have qc_5 :  kd b9 = 6 := (nI_e12 _ (kd_le b9 hb9) 6 (by decide)).mp c_5; simp [sI, qc_3, qc_4, qc_5]), trivial⟩, hS.F ht⟩) hS.2.2 dX0_numberInside_96
  by_cases c_6 : (nI (kd b9)) = 7
  · skip
    refine lv_tableIn (tgt := 95) hx hb dX0_numberInside_4 (by rw [c_6]; decide) (by rw [c_6]; decide) (by rw [c_6] <;> rfl) (by decide) ?_
    refine lv_lconst (v := 0) hx hb dX0_numberInside_95 (by decide) ?_
    exact W.lret (v := 0) hx hb hr (fun t ht hW => ⟨⟨0, (), rfl, (by have qc_3 : ¬ kd b9 = 4 := fun z => c_3 ((nI_e12 _ (kd_le b9 hb9) 4 (by decide)).mpr z); have qc_4 : ¬ kd b9 = 5 := fun z => c_4 ((nI_e12 _ (kd_le b9 hb9) 5 (by decide)).mpr z); have qc_5 : ¬ kd b9 = 6 := fun z => c_5 ((nI_e12 _ (kd_le b9 hb9) 6 (by decide)).mpr z); have qc_6 :  kd b9 = 7 := (nI_e12 _ (kd_le b9 hb9) 7 (by decide)).mp c_6; simp [sI, qc_3, qc_4, qc_5, qc_6]), trivial⟩, hS.F ht⟩) hS.2.2 dX0_numberInside_96
  by_cases c_7 : (nI (kd b9)) = 8
  · skip
    refine lv_tableIn (tgt := 80) hx hb dX0_numberInside_4 (by rw [c_7]; decide) (by rw [c_7]; decide) (by rw [c_7] <;> rfl) (by decide) ?_
    refine lv_iload_n hx hb dX0_numberInside_80 rfl (lv_at hl 0 rfl) ?_
    refine lv_sipush (v := 160) hx hb dX0_numberInside_81 (by decide) ?_
    refine lv_isub hx hb dX0_numberInside_84 ?_
    refine lv_i2l hx hb dX0_numberInside_85 rfl ?_
    exact W.lret (v := ((nI b9) - 160).toInt64) hx hb hr (fun t ht hW => ⟨⟨((nI b9) - 160).toInt64, (), rfl, (by have qc_3 : ¬ kd b9 = 4 := fun z => c_3 ((nI_e12 _ (kd_le b9 hb9) 4 (by decide)).mpr z); have qc_4 : ¬ kd b9 = 5 := fun z => c_4 ((nI_e12 _ (kd_le b9 hb9) 5 (by decide)).mpr z); have qc_5 : ¬ kd b9 = 6 := fun z => c_5 ((nI_e12 _ (kd_le b9 hb9) 6 (by decide)).mpr z); have qc_6 : ¬ kd b9 = 7 := fun z => c_6 ((nI_e12 _ (kd_le b9 hb9) 7 (by decide)).mpr z); have qc_7 :  kd b9 = 8 := (nI_e12 _ (kd_le b9 hb9) 8 (by decide)).mp c_7; simp [sI, qc_3, qc_4, qc_5, qc_6, qc_7]), trivial⟩, hS.F ht⟩) hS.2.2 dX0_numberInside_86
  by_cases c_8 : (nI (kd b9)) = 9
  · skip
    refine lv_tableIn (tgt := 95) hx hb dX0_numberInside_4 (by rw [c_8]; decide) (by rw [c_8]; decide) (by rw [c_8] <;> rfl) (by decide) ?_
    refine lv_lconst (v := 0) hx hb dX0_numberInside_95 (by decide) ?_
    exact W.lret (v := 0) hx hb hr (fun t ht hW => ⟨⟨0, (), rfl, (by have qc_3 : ¬ kd b9 = 4 := fun z => c_3 ((nI_e12 _ (kd_le b9 hb9) 4 (by decide)).mpr z); have qc_4 : ¬ kd b9 = 5 := fun z => c_4 ((nI_e12 _ (kd_le b9 hb9) 5 (by decide)).mpr z); have qc_5 : ¬ kd b9 = 6 := fun z => c_5 ((nI_e12 _ (kd_le b9 hb9) 6 (by decide)).mpr z); have qc_6 : ¬ kd b9 = 7 := fun z => c_6 ((nI_e12 _ (kd_le b9 hb9) 7 (by decide)).mpr z); have qc_7 : ¬ kd b9 = 8 := fun z => c_7 ((nI_e12 _ (kd_le b9 hb9) 8 (by decide)).mpr z); have qc_8 :  kd b9 = 9 := (nI_e12 _ (kd_le b9 hb9) 9 (by decide)).mp c_8; simp [sI, qc_3, qc_4, qc_5, qc_6, qc_7, qc_8]), trivial⟩, hS.F ht⟩) hS.2.2 dX0_numberInside_96
  by_cases c_9 : (nI (kd b9)) = 10
  · skip
    refine lv_tableIn (tgt := 73) hx hb dX0_numberInside_4 (by rw [c_9]; decide) (by rw [c_9]; decide) (by rw [c_9] <;> rfl) (by decide) ?_
    refine lv_iload_n hx hb dX0_numberInside_73 rfl (lv_at hl 0 rfl) ?_
    refine lv_sipush (v := 144) hx hb dX0_numberInside_74 (by decide) ?_
    refine lv_isub hx hb dX0_numberInside_77 ?_
    refine lv_i2l hx hb dX0_numberInside_78 rfl ?_
    exact W.lret (v := ((nI b9) - 144).toInt64) hx hb hr (fun t ht hW => ⟨⟨((nI b9) - 144).toInt64, (), rfl, (by have qc_3 : ¬ kd b9 = 4 := fun z => c_3 ((nI_e12 _ (kd_le b9 hb9) 4 (by decide)).mpr z); have qc_4 : ¬ kd b9 = 5 := fun z => c_4 ((nI_e12 _ (kd_le b9 hb9) 5 (by decide)).mpr z); have qc_5 : ¬ kd b9 = 6 := fun z => c_5 ((nI_e12 _ (kd_le b9 hb9) 6 (by decide)).mpr z); have qc_6 : ¬ kd b9 = 7 := fun z => c_6 ((nI_e12 _ (kd_le b9 hb9) 7 (by decide)).mpr z); have qc_7 : ¬ kd b9 = 8 := fun z => c_7 ((nI_e12 _ (kd_le b9 hb9) 8 (by decide)).mpr z); have qc_8 : ¬ kd b9 = 9 := fun z => c_8 ((nI_e12 _ (kd_le b9 hb9) 9 (by decide)).mpr z); have qc_9 :  kd b9 = 10 := (nI_e12 _ (kd_le b9 hb9) 10 (by decide)).mp c_9; simp [sI, qc_3, qc_4, qc_5, qc_6, qc_7, qc_8, qc_9]), trivial⟩, hS.F ht⟩) hS.2.2 dX0_numberInside_79
  by_cases c_10 : (nI (kd b9)) = 11
  · skip
    refine lv_tableIn (tgt := 66) hx hb dX0_numberInside_4 (by rw [c_10]; decide) (by rw [c_10]; decide) (by rw [c_10] <;> rfl) (by decide) ?_
    refine lv_iload_n hx hb dX0_numberInside_66 rfl (lv_at hl 0 rfl) ?_
    refine lv_sipush (v := 128) hx hb dX0_numberInside_67 (by decide) ?_
    refine lv_isub hx hb dX0_numberInside_70 ?_
    refine lv_i2l hx hb dX0_numberInside_71 rfl ?_
    exact W.lret (v := ((nI b9) - 128).toInt64) hx hb hr (fun t ht hW => ⟨⟨((nI b9) - 128).toInt64, (), rfl, (by have qc_3 : ¬ kd b9 = 4 := fun z => c_3 ((nI_e12 _ (kd_le b9 hb9) 4 (by decide)).mpr z); have qc_4 : ¬ kd b9 = 5 := fun z => c_4 ((nI_e12 _ (kd_le b9 hb9) 5 (by decide)).mpr z); have qc_5 : ¬ kd b9 = 6 := fun z => c_5 ((nI_e12 _ (kd_le b9 hb9) 6 (by decide)).mpr z); have qc_6 : ¬ kd b9 = 7 := fun z => c_6 ((nI_e12 _ (kd_le b9 hb9) 7 (by decide)).mpr z); have qc_7 : ¬ kd b9 = 8 := fun z => c_7 ((nI_e12 _ (kd_le b9 hb9) 8 (by decide)).mpr z); have qc_8 : ¬ kd b9 = 9 := fun z => c_8 ((nI_e12 _ (kd_le b9 hb9) 9 (by decide)).mpr z); have qc_9 : ¬ kd b9 = 10 := fun z => c_9 ((nI_e12 _ (kd_le b9 hb9) 10 (by decide)).mpr z); have qc_10 :  kd b9 = 11 := (nI_e12 _ (kd_le b9 hb9) 11 (by decide)).mp c_10; simp [sI, qc_3, qc_4, qc_5, qc_6, qc_7, qc_8, qc_9, qc_10]), trivial⟩, hS.F ht⟩) hS.2.2 dX0_numberInside_72
  by_cases c_11 : (nI (kd b9)) = 12
  · skip
    refine lv_tableIn (tgt := 87) hx hb dX0_numberInside_4 (by rw [c_11]; decide) (by rw [c_11]; decide) (by rw [c_11] <;> rfl) (by decide) ?_
    refine lv_lconst (v := 1) hx hb dX0_numberInside_87 (by decide) ?_
    refine lv_iload_n hx hb dX0_numberInside_88 rfl (lv_at hl 0 rfl) ?_
    refine lv_sipush (v := 212) hx hb dX0_numberInside_89 (by decide) ?_
    refine lv_isub hx hb dX0_numberInside_92 ?_
    refine lv_lshl hx hb dX0_numberInside_93 rfl ?_
    exact W.lret (v := 1 <<< (((nI b9) - 212).toInt64 &&& 63)) hx hb hr (fun t ht hW => ⟨⟨1 <<< (((nI b9) - 212).toInt64 &&& 63), (), rfl, (by have qc_3 : ¬ kd b9 = 4 := fun z => c_3 ((nI_e12 _ (kd_le b9 hb9) 4 (by decide)).mpr z); have qc_4 : ¬ kd b9 = 5 := fun z => c_4 ((nI_e12 _ (kd_le b9 hb9) 5 (by decide)).mpr z); have qc_5 : ¬ kd b9 = 6 := fun z => c_5 ((nI_e12 _ (kd_le b9 hb9) 6 (by decide)).mpr z); have qc_6 : ¬ kd b9 = 7 := fun z => c_6 ((nI_e12 _ (kd_le b9 hb9) 7 (by decide)).mpr z); have qc_7 : ¬ kd b9 = 8 := fun z => c_7 ((nI_e12 _ (kd_le b9 hb9) 8 (by decide)).mpr z); have qc_8 : ¬ kd b9 = 9 := fun z => c_8 ((nI_e12 _ (kd_le b9 hb9) 9 (by decide)).mpr z); have qc_9 : ¬ kd b9 = 10 := fun z => c_9 ((nI_e12 _ (kd_le b9 hb9) 10 (by decide)).mpr z); have qc_10 : ¬ kd b9 = 11 := fun z => c_10 ((nI_e12 _ (kd_le b9 hb9) 11 (by decide)).mpr z); have qc_11 :  kd b9 = 12 := (nI_e12 _ (kd_le b9 hb9) 12 (by decide)).mp c_11; simp [sI, qc_3, qc_4, qc_5, qc_6, qc_7, qc_8, qc_9, qc_10, qc_11]), trivial⟩, hS.F ht⟩) hS.2.2 dX0_numberInside_94
  refine lv_tableOut (tgt := 95) hx hb dX0_numberInside_4 (by have := lv_neT (a := 4) c_3 (by decide); have := lv_neT (a := 5) c_4 (by decide); have := lv_neT (a := 6) c_5 (by decide); have := lv_neT (a := 7) c_6 (by decide); have := lv_neT (a := 8) c_7 (by decide); have := lv_neT (a := 9) c_8 (by decide); have := lv_neT (a := 10) c_9 (by decide); have := lv_neT (a := 11) c_10 (by decide); have := lv_neT (a := 12) c_11 (by decide); omega) (by decide) ?_
  refine lv_lconst (v := 0) hx hb dX0_numberInside_95 (by decide) ?_
  exact W.lret (v := 0) hx hb hr (fun t ht hW => ⟨⟨0, (), rfl, (by have qc_3 : ¬ kd b9 = 4 := fun z => c_3 ((nI_e12 _ (kd_le b9 hb9) 4 (by decide)).mpr z); have qc_4 : ¬ kd b9 = 5 := fun z => c_4 ((nI_e12 _ (kd_le b9 hb9) 5 (by decide)).mpr z); have qc_5 : ¬ kd b9 = 6 := fun z => c_5 ((nI_e12 _ (kd_le b9 hb9) 6 (by decide)).mpr z); have qc_6 : ¬ kd b9 = 7 := fun z => c_6 ((nI_e12 _ (kd_le b9 hb9) 7 (by decide)).mpr z); have qc_7 : ¬ kd b9 = 8 := fun z => c_7 ((nI_e12 _ (kd_le b9 hb9) 8 (by decide)).mpr z); have qc_8 : ¬ kd b9 = 9 := fun z => c_8 ((nI_e12 _ (kd_le b9 hb9) 9 (by decide)).mpr z); have qc_9 : ¬ kd b9 = 10 := fun z => c_9 ((nI_e12 _ (kd_le b9 hb9) 10 (by decide)).mpr z); have qc_10 : ¬ kd b9 = 11 := fun z => c_10 ((nI_e12 _ (kd_le b9 hb9) 11 (by decide)).mpr z); have qc_11 : ¬ kd b9 = 12 := fun z => c_11 ((nI_e12 _ (kd_le b9 hb9) 12 (by decide)).mpr z); simp [sI, qc_3, qc_4, qc_5, qc_6, qc_7, qc_8, qc_9, qc_10, qc_11]), trivial⟩, hS.F ht⟩) hS.2.2 dX0_numberInside_96
set_option maxHeartbeats 4000000 in
set_option maxRecDepth 100000 in
theorem c_X0_withSign (l : Launch) (dC : Nat → ClassId) (dI : Nat → Nat → Nat) (tk tw : Nat) (sz : Nat) (x9 : Int64) (w9 : Nat) : Met l yX0_withSign wsX0_withSign ({ frames := 0, cells := 0, slots := 0, locals := 0 }) (va_Pc [.long x9, .int (nI w9)] (p0 sz tk tw)) (va_Ql (fun (r : Int64) (_ : Unit) => r = sg x9 w9) (fun _ _ => True) (va_A [] sz)) 0 0 (va_A [] sz) := by
  refine Met.ofW (cc := cX0_withSign) (maxL := 4) (ret := (some .long)) (by decide) rfl ?_
  intro p e s m args below meth c s₁ Bd hml hv
  obtain ⟨rfl, hsz, hZ⟩ := hv
  have hx := Bd.exec
  have hb := Bd.bytes
  have hr := Bd.returns
  have hts := atoms_spec (ws := wsX0_withSign) Bd.pre
  have hown : s.vm.findClass RX0 = some m.cls := findClass_of_methodNamed Bd.named
  have hlocks := Bd.notSynchronized
  subst hsz
  generalize hAe : va_A [] s.heap.size = A at hZ ⊢
  have hA : ∀ q : Nat, s.heap.size ≤ q → A q := fun q h => by rw [← hAe]; exact Or.inr h
  have hS : va_S A s.heap s.heap [] := va_S.rf
  have hP : va_P (dC, dI) vwCl [] s.heap := fun k q h => by simp at h
  have hl := lv_entry ([.long x9, .int (nI w9)]) (n := 4) (Nat.le_of_ble_eq_true rfl)
  rw [lg_entry_eq]
  generalize (lg_sl ([.long x9, .int (nI w9)]) ++ List.replicate (4 - (lg_sl ([.long x9, .int (nI w9)])).length) Slot.unset).toArray = ls at hl ⊢
  have hl : lv_has ls 4 [(0, .long x9), (2, .int (nI w9))] := hl
  refine lv_bipush (v := 64) hx hb dX0_withSign_0 (by decide) ?_
  refine lv_bipush (v := 8) hx hb dX0_withSign_2 (by decide) ?_
  refine lv_iload_n hx hb dX0_withSign_4 rfl (lv_at hl 1 rfl) ?_
  refine lv_imul hx hb dX0_withSign_5 ?_
  refine lv_isub hx hb dX0_withSign_6 ?_
  refine lv_istore_n (lv' := [(3, .int (64 - (8 * (nI w9)))), (0, .long x9), (2, .int (nI w9))]) hx hb dX0_withSign_7 rfl hl (by decide) rfl (fun ls hl => ?_)
  refine lv_lload_n hx hb dX0_withSign_8 rfl (lv_at hl 1 rfl) ?_
  refine lv_iload_n hx hb dX0_withSign_9 rfl (lv_at hl 0 rfl) ?_
  refine lv_lshl hx hb dX0_withSign_10 rfl ?_
  refine lv_iload_n hx hb dX0_withSign_11 rfl (lv_at hl 0 rfl) ?_
  refine lv_lshr hx hb dX0_withSign_12 rfl ?_
  exact W.lret (v := (x9 <<< ((64 - (8 * (nI w9))).toInt64 &&& 63)) >>> ((64 - (8 * (nI w9))).toInt64 &&& 63)) hx hb hr (fun t ht hW => ⟨⟨(x9 <<< ((64 - (8 * (nI w9))).toInt64 &&& 63)) >>> ((64 - (8 * (nI w9))).toInt64 &&& 63), (), rfl, rfl, trivial⟩, hS.F ht⟩) hS.2.2 dX0_withSign_13
set_option maxHeartbeats 4000000 in
set_option maxRecDepth 100000 in
theorem c_X0_hasPayload (l : Launch) (dC : Nat → ClassId) (dI : Nat → Nat → Nat) (tk tw : Nat) (sz : Nat) (k9 : Nat) (hk9 : k9 ≤ 12) : Met l yX0_hasPayload wsX0_hasPayload ({ frames := 0, cells := 0, slots := 0, locals := 0 }) (va_Pc [.int (nI k9)] (p0 sz tk tw)) (va_Qi (fun (r : Int32) (_ : Unit) => r = (if hp k9 = true then 1 else 0)) (fun _ _ => True) (va_A [] sz)) 0 0 (va_A [] sz) := by
  refine Met.ofW (cc := cX0_hasPayload) (maxL := 1) (ret := (some .boolean)) (by decide) rfl ?_
  intro p e s m args below meth c s₁ Bd hml hv
  obtain ⟨rfl, hsz, hZ⟩ := hv
  have hx := Bd.exec
  have hb := Bd.bytes
  have hr := Bd.returns
  have hts := atoms_spec (ws := wsX0_hasPayload) Bd.pre
  have hown : s.vm.findClass RX0 = some m.cls := findClass_of_methodNamed Bd.named
  have hlocks := Bd.notSynchronized
  subst hsz
  generalize hAe : va_A [] s.heap.size = A at hZ ⊢
  have hA : ∀ q : Nat, s.heap.size ≤ q → A q := fun q h => by rw [← hAe]; exact Or.inr h
  have hS : va_S A s.heap s.heap [] := va_S.rf
  have hP : va_P (dC, dI) vwCl [] s.heap := fun k q h => by simp at h
  have hl := lv_entry ([.int (nI k9)]) (n := 1) (Nat.le_of_ble_eq_true rfl)
  rw [lg_entry_eq]
  generalize (lg_sl ([.int (nI k9)]) ++ List.replicate (1 - (lg_sl ([.int (nI k9)])).length) Slot.unset).toArray = ls at hl ⊢
  have hl : lv_has ls 1 [(0, .int (nI k9))] := hl
  refine lv_iload_n hx hb dX0_hasPayload_0 rfl (lv_at hl 0 rfl) ?_
  refine lv_bipush (v := 8) hx hb dX0_hasPayload_1 (by decide) ?_
  refine lv_icmp_eq (tgt := 18) hx hb dX0_hasPayload_3 (by decide) (fun c_1 => ?_) (fun c_1 => ?_)
  · skip
    refine lv_iconst (v := 1) hx hb dX0_hasPayload_18 (by decide) ?_
    refine lv_goto (tgt := 23) hx hb dX0_hasPayload_19 (by decide) ?_
    exact W.zret (v := 1) hx hb hr (by decide) (fun t ht hW => ⟨⟨1, (), rfl, (by have qc_1 :  k9 = 8 := (nI_e12 k9 hk9 8 (by decide)).mp c_1; simp [hp, qc_1]), trivial⟩, hS.F ht⟩) hS.2.2 dX0_hasPayload_23
  · skip
    refine lv_iload_n hx hb dX0_hasPayload_6 rfl (lv_at hl 0 rfl) ?_
    refine lv_bipush (v := 9) hx hb dX0_hasPayload_7 (by decide) ?_
    refine lv_icmp_eq (tgt := 18) hx hb dX0_hasPayload_9 (by decide) (fun c_2 => ?_) (fun c_2 => ?_)
    · skip
      refine lv_iconst (v := 1) hx hb dX0_hasPayload_18 (by decide) ?_
      refine lv_goto (tgt := 23) hx hb dX0_hasPayload_19 (by decide) ?_
      exact W.zret (v := 1) hx hb hr (by decide) (fun t ht hW => ⟨⟨1, (), rfl, (by have qc_1 : ¬ k9 = 8 := fun z => c_1 ((nI_e12 k9 hk9 8 (by decide)).mpr z); have qc_2 :  k9 = 9 := (nI_e12 k9 hk9 9 (by decide)).mp c_2; simp [hp, qc_1, qc_2]), trivial⟩, hS.F ht⟩) hS.2.2 dX0_hasPayload_23
    · skip
      refine lv_iload_n hx hb dX0_hasPayload_12 rfl (lv_at hl 0 rfl) ?_
      refine lv_bipush (v := 12) hx hb dX0_hasPayload_13 (by decide) ?_
      refine lv_icmp_ne (tgt := 22) hx hb dX0_hasPayload_15 (by decide) (fun c_3 => ?_) (fun c_3 => ?_)
      · skip
        refine lv_iconst (v := 0) hx hb dX0_hasPayload_22 (by decide) ?_
        exact W.zret (v := 0) hx hb hr (by decide) (fun t ht hW => ⟨⟨0, (), rfl, (by have qc_1 : ¬ k9 = 8 := fun z => c_1 ((nI_e12 k9 hk9 8 (by decide)).mpr z); have qc_2 : ¬ k9 = 9 := fun z => c_2 ((nI_e12 k9 hk9 9 (by decide)).mpr z); have qc_3 : ¬ k9 = 12 := fun z => c_3 ((nI_e12 k9 hk9 12 (by decide)).mpr z); simp [hp, qc_1, qc_2, qc_3]), trivial⟩, hS.F ht⟩) hS.2.2 dX0_hasPayload_23
      · skip
        refine lv_iconst (v := 1) hx hb dX0_hasPayload_18 (by decide) ?_
        refine lv_goto (tgt := 23) hx hb dX0_hasPayload_19 (by decide) ?_
        exact W.zret (v := 1) hx hb hr (by decide) (fun t ht hW => ⟨⟨1, (), rfl, (by have qc_1 : ¬ k9 = 8 := fun z => c_1 ((nI_e12 k9 hk9 8 (by decide)).mpr z); have qc_2 : ¬ k9 = 9 := fun z => c_2 ((nI_e12 k9 hk9 9 (by decide)).mpr z); have qc_3 :  k9 = 12 := (nI_e12 k9 hk9 12 (by decide)).mp c_3; simp [hp, qc_1, qc_2, qc_3]), trivial⟩, hS.F ht⟩) hS.2.2 dX0_hasPayload_23
