set_option maxHeartbeats 4000000 in
set_option maxRecDepth 100000 in
theorem c_X0_typeAt (l : Launch) (dC : Nat → ClassId) (dI : Nat → Nat → Nat) (tk tw : Nat) (h a b : Nat) (cB cJ : ClassId) (sz : Nat) (f : Nat → Int32) (g : Nat → Int64) (zs : Int32) (zc : Int32) (zg : Int32) (zo : Int32) (a9 : Nat) (h9 : a9 + hd (bY f a9) ≤ 4096) : Met l yX0_typeAt wsX0_typeAt ({ frames := 4, cells := 0, slots := 0, locals := 81 }) (va_Pc [.ref h, .int (nI a9)] (pr dC dI (t0 cB cJ) (w0 h a b cB cJ f g zs zc zg zo) sz tk tw)) (va_Qi (fun (r : Int32) (_ : Unit) => r = f (a9 + hd (bY f a9) - 1)) (fun (_ : Unit) => po dC dI (t0 cB cJ) (va_A (w0 h a b cB cJ f g zs zc zg zo) sz) (w0 h a b cB cJ f g zs zc zg zo)) (va_A (w0 h a b cB cJ f g zs zc zg zo) sz)) 0 0 (va_A (w0 h a b cB cJ f g zs zc zg zo) sz) := by
  refine Met.ofW (cc := cX0_typeAt) (maxL := 2) (ret := (some .int)) (by decide) rfl ?_
  intro p e s m args below meth c s₁ Bd hml hv
  obtain ⟨rfl, hsz, hP, hK, hD0, hZ⟩ := hv
  have hx := Bd.exec
  have hb := Bd.bytes
  have hr := Bd.returns
  have hts := atoms_spec (ws := wsX0_typeAt) Bd.pre
  have hown : s.vm.findClass RX0 = some m.cls := findClass_of_methodNamed Bd.named
  have hlocks := Bd.notSynchronized
  subst hsz
  have hD := hD0.self (sz := s.heap.size)
  generalize hAe : va_A (w0 h a b cB cJ f g zs zc zg zo) s.heap.size = A at hD hZ ⊢
  have hA : ∀ q : Nat, s.heap.size ≤ q → A q := fun q h => by rw [← hAe]; exact Or.inr h
  have hS : va_S A s.heap s.heap [] := va_S.rf
  have hP : va_P (dC, dI) vwCl (w0 h a b cB cJ f g zs zc zg zo) s.heap := hP
  have hin0 : ∀ w ∈ wsX00, w ∈ wsX0_typeAt := by decide +kernel
  have fl9 := hts (.fieldLink RX0 9 "MessageReader" "store" "[B") (by decide +kernel)
  have hl := lv_entry ([.ref h, .int (nI a9)]) (n := 2) (Nat.le_of_ble_eq_true rfl)
  rw [lg_entry_eq]
  generalize (lg_sl ([.ref h, .int (nI a9)]) ++ List.replicate (2 - (lg_sl ([.ref h, .int (nI a9)])).length) Slot.unset).toArray = ls at hl ⊢
  have hl : lv_has ls 2 [(0, .ref h), (1, .int (nI a9))] := hl
  refine lv_aload_n hx hb dX0_typeAt_0 rfl (lv_at hl 0 rfl) ?_
  refine va_get (D := (dC, dI)) (ci := 0) (v := .ref a) (C := RX0) (T := TX0) (N := 6) hx hb hts hin0 hown hK hP 0 rfl rfl 0 (by decide) fl9 (fun _ h9 => h9) rfl dX0_typeAt_1 ?_
  refine lv_iload_n hx hb dX0_typeAt_4 rfl (lv_at hl 1 rfl) ?_
  refine lv_aload_n hx hb dX0_typeAt_5 rfl (lv_at hl 0 rfl) ?_
  refine lv_iload_n hx hb dX0_typeAt_6 rfl (lv_at hl 1 rfl) ?_
  refine gvi (As := [.int (nI a9)]) (rest := [.int (nI a9), .ref a]) ⟨hx, hb, hml, hown, hts⟩ (c_X0_headLengthAt l dC dI tk tw h a b cB cJ _ f g zs zc zg zo a9 (by have q7 := hd_le _ (bY_lt f a9); omega)) (cwV 1 hts gX0_typeAt_X0_headLengthAt rfl rfl rfl (by decide +kernel) ⟨Nat.le_of_ble_eq_true rfl, Nat.le_of_ble_eq_true rfl⟩) hK hP hD hS hA hZ (q0 := 0) (ci := 0) rfl rfl rfl rfl hl.1 rfl (Nat.le_of_ble_eq_true rfl) dX0_typeAt_7 ⟨Nat.le_of_ble_eq_true rfl, Nat.le_of_ble_eq_true rfl⟩ (fun r_2 u_3 H locs hw_1 hP hD hS => ?_)
  obtain rfl : r_2 = nI (hd (bY f a9)) := hw_1
  refine lv_iadd hx hb dX0_typeAt_10 ?_
  refine lv_iconst (v := 1) hx hb dX0_typeAt_11 (by decide) ?_
  refine lv_isub hx hb dX0_typeAt_12 ?_
  have e_4 : (((nI a9) + (nI (hd (bY f a9)))) - 1 : Int32) = nI (a9 + hd (bY f a9) - 1) := nI_am1 (by have q7 := hd_le _ (bY_lt f a9); omega)
  rw [e_4]
  refine va_bald hx hb hK hP 1 0 rfl rfl (vp_in_nI (by have q7 := hd_le _ (bY_lt f a9); omega) (by decide)) dX0_typeAt_13 ?_
  exact W.iret (v := f (nI (a9 + hd (bY f a9) - 1)).toNatClampNeg) hx hb hr (fun t ht hW => ⟨⟨f (nI (a9 + hd (bY f a9) - 1)).toNatClampNeg, (), rfl, (by rw [nI_clamp (by omega)]), by rw [ht]; exact hP, va_K.moved hW.alike hK, hD⟩, hS.F ht⟩) hS.2.2 dX0_typeAt_14
set_option maxHeartbeats 4000000 in
set_option maxRecDepth 100000 in
theorem c_X0_payloadLengthAt (l : Launch) (dC : Nat → ClassId) (dI : Nat → Nat → Nat) (tk tw : Nat) (h a b : Nat) (cB cJ : ClassId) (sz : Nat) (f : Nat → Int32) (g : Nat → Int64) (zs : Int32) (zc : Int32) (zg : Int32) (zo : Int32) (a9 : Nat) (h9 : a9 + 1 + wd (bY f a9) ≤ 4096) : Met l yX0_payloadLengthAt wsX0_payloadLengthAt ({ frames := 3, cells := 0, slots := 0, locals := 71 }) (va_Pc [.ref h, .int (nI a9)] (pr dC dI (t0 cB cJ) (w0 h a b cB cJ f g zs zc zg zo) sz tk tw)) (va_Qi (fun (r : Int32) (_ : Unit) => r = pl (bY f) a9) (fun (_ : Unit) => po dC dI (t0 cB cJ) (va_A (w0 h a b cB cJ f g zs zc zg zo) sz) (w0 h a b cB cJ f g zs zc zg zo)) (va_A (w0 h a b cB cJ f g zs zc zg zo) sz)) 0 0 (va_A (w0 h a b cB cJ f g zs zc zg zo) sz) := by
  refine Met.ofW (cc := cX0_payloadLengthAt) (maxL := 2) (ret := (some .int)) (by decide) rfl ?_
  intro p e s m args below meth c s₁ Bd hml hv
  obtain ⟨rfl, hsz, hP, hK, hD0, hZ⟩ := hv
  have hx := Bd.exec
  have hb := Bd.bytes
  have hr := Bd.returns
  have hts := atoms_spec (ws := wsX0_payloadLengthAt) Bd.pre
  have hown : s.vm.findClass RX0 = some m.cls := findClass_of_methodNamed Bd.named
  have hlocks := Bd.notSynchronized
  subst hsz
  have hD := hD0.self (sz := s.heap.size)
  generalize hAe : va_A (w0 h a b cB cJ f g zs zc zg zo) s.heap.size = A at hD hZ ⊢
  have hA : ∀ q : Nat, s.heap.size ≤ q → A q := fun q h => by rw [← hAe]; exact Or.inr h
  have hS : va_S A s.heap s.heap [] := va_S.rf
  have hP : va_P (dC, dI) vwCl (w0 h a b cB cJ f g zs zc zg zo) s.heap := hP
  have hl := lv_entry ([.ref h, .int (nI a9)]) (n := 2) (Nat.le_of_ble_eq_true rfl)
  rw [lg_entry_eq]
  generalize (lg_sl ([.ref h, .int (nI a9)]) ++ List.replicate (2 - (lg_sl ([.ref h, .int (nI a9)])).length) Slot.unset).toArray = ls at hl ⊢
  have hl : lv_has ls 2 [(0, .ref h), (1, .int (nI a9))] := hl
  refine lv_aload_n hx hb dX0_payloadLengthAt_0 rfl (lv_at hl 0 rfl) ?_
  refine lv_iload_n hx hb dX0_payloadLengthAt_1 rfl (lv_at hl 1 rfl) ?_
  refine gvi (As := [.int (nI a9)]) (rest := []) ⟨hx, hb, hml, hown, hts⟩ (c_X0_kindAt l dC dI tk tw h a b cB cJ _ f g zs zc zg zo a9 (by omega)) (cwV 1 hts gX0_payloadLengthAt_X0_kindAt rfl rfl rfl (by decide +kernel) ⟨Nat.le_of_ble_eq_true rfl, Nat.le_of_ble_eq_true rfl⟩) hK hP hD hS hA hZ (q0 := 0) (ci := 0) rfl rfl rfl rfl hl.1 rfl (Nat.le_of_ble_eq_true rfl) dX0_payloadLengthAt_2 ⟨Nat.le_of_ble_eq_true rfl, Nat.le_of_ble_eq_true rfl⟩ (fun r_2 u_3 H locs hw_1 hP hD hS => ?_)
  obtain rfl : r_2 = nI (kd (bY f a9)) := hw_1
  refine gsi (As := [.int (nI (kd (bY f a9)))]) (rest := []) ⟨hx, hb, hml, hown, hts⟩ (c_X0_hasPayload l dC dI tk tw _ (kd (bY f a9)) (kd_le _ (bY_lt f a9))) (va_cwS 1 hts gX0_payloadLengthAt_X0_hasPayload rfl rfl rfl (by decide +kernel) ⟨Nat.le_of_ble_eq_true rfl, Nat.le_of_ble_eq_true rfl⟩) hP hS hA hZ rfl hl.1 rfl (Nat.le_of_ble_eq_true rfl) dX0_payloadLengthAt_5 ⟨Nat.le_of_ble_eq_true rfl, Nat.le_of_ble_eq_true rfl⟩ (fun r_5 H locs hw_4 hP hS => ?_)
  obtain rfl : r_5 = (if hp (kd (bY f a9)) = true then 1 else 0) := hw_4
  refine lv_if_eq (tgt := 20) hx hb dX0_payloadLengthAt_8 (by decide) (fun c_6 => ?_) (fun c_6 => ?_)
  · skip
    refine lv_iconst (v := 0) hx hb dX0_payloadLengthAt_20 (by decide) ?_
    exact W.iret (v := 0) hx hb hr (fun t ht hW => ⟨⟨0, (), rfl, (by unfold pl; by_cases q : hp (kd (bY f a9)) = true <;> simp [q] at c_6 ⊢), by rw [ht]; exact hP, va_K.moved hW.alike hK, hD⟩, hS.F ht⟩) hS.2.2 dX0_payloadLengthAt_21
  · skip
    refine lv_aload_n hx hb dX0_payloadLengthAt_11 rfl (lv_at hl 0 rfl) ?_
    refine lv_iload_n hx hb dX0_payloadLengthAt_12 rfl (lv_at hl 1 rfl) ?_
    refine gvl (As := [.int (nI a9)]) (rest := []) ⟨hx, hb, hml, hown, hts⟩ (c_X0_numberAt l dC dI tk tw h a b cB cJ _ f g zs zc zg zo a9 h9) (cwV 1 hts gX0_payloadLengthAt_X0_numberAt rfl rfl rfl (by decide +kernel) ⟨Nat.le_of_ble_eq_true rfl, Nat.le_of_ble_eq_true rfl⟩) hK hP hD hS hA hZ (q0 := 0) (ci := 0) rfl rfl rfl rfl hl.1 rfl (Nat.le_of_ble_eq_true rfl) dX0_payloadLengthAt_13 ⟨Nat.le_of_ble_eq_true rfl, Nat.le_of_ble_eq_true rfl⟩ (fun r_8 u_9 H locs hw_7 hP hD hS => ?_)
    obtain rfl : r_8 = nv (bY f) a9 := hw_7
    refine lv_l2i hx hb dX0_payloadLengthAt_16 rfl ?_
    refine lv_goto (tgt := 21) hx hb dX0_payloadLengthAt_17 (by decide) ?_
    exact W.iret (v := (nv (bY f) a9).toInt32) hx hb hr (fun t ht hW => ⟨⟨(nv (bY f) a9).toInt32, (), rfl, (by unfold pl; by_cases q : hp (kd (bY f a9)) = true <;> simp [q] at c_6 ⊢), by rw [ht]; exact hP, va_K.moved hW.alike hK, hD⟩, hS.F ht⟩) hS.2.2 dX0_payloadLengthAt_21
set_option maxHeartbeats 4000000 in
set_option maxRecDepth 100000 in
theorem c_X0_childrenAt (l : Launch) (dC : Nat → ClassId) (dI : Nat → Nat → Nat) (tk tw : Nat) (h a b : Nat) (cB cJ : ClassId) (sz : Nat) (f : Nat → Int32) (g : Nat → Int64) (zs : Int32) (zc : Int32) (zg : Int32) (zo : Int32) (a9 : Nat) (h9 : a9 + 1 + wd (bY f a9) ≤ 4096) : Met l yX0_childrenAt wsX0_childrenAt ({ frames := 3, cells := 0, slots := 0, locals := 71 }) (va_Pc [.ref h, .int (nI a9)] (pr dC dI (t0 cB cJ) (w0 h a b cB cJ f g zs zc zg zo) sz tk tw)) (va_Ql (fun (r : Int64) (_ : Unit) => r = ch (bY f) a9) (fun (_ : Unit) => po dC dI (t0 cB cJ) (va_A (w0 h a b cB cJ f g zs zc zg zo) sz) (w0 h a b cB cJ f g zs zc zg zo)) (va_A (w0 h a b cB cJ f g zs zc zg zo) sz)) 0 0 (va_A (w0 h a b cB cJ f g zs zc zg zo) sz) := by
  refine Met.ofW (cc := cX0_childrenAt) (maxL := 2) (ret := (some .long)) (by decide) rfl ?_
  intro p e s m args below meth c s₁ Bd hml hv
  obtain ⟨rfl, hsz, hP, hK, hD0, hZ⟩ := hv
  have hx := Bd.exec
  have hb := Bd.bytes
  have hr := Bd.returns
  have hts := atoms_spec (ws := wsX0_childrenAt) Bd.pre
  have hown : s.vm.findClass RX0 = some m.cls := findClass_of_methodNamed Bd.named
  have hlocks := Bd.notSynchronized
  subst hsz
  have hD := hD0.self (sz := s.heap.size)
  generalize hAe : va_A (w0 h a b cB cJ f g zs zc zg zo) s.heap.size = A at hD hZ ⊢
  have hA : ∀ q : Nat, s.heap.size ≤ q → A q := fun q h => by rw [← hAe]; exact Or.inr h
  have hS : va_S A s.heap s.heap [] := va_S.rf
  have hP : va_P (dC, dI) vwCl (w0 h a b cB cJ f g zs zc zg zo) s.heap := hP
  have hl := lv_entry ([.ref h, .int (nI a9)]) (n := 2) (Nat.le_of_ble_eq_true rfl)
  rw [lg_entry_eq]
  generalize (lg_sl ([.ref h, .int (nI a9)]) ++ List.replicate (2 - (lg_sl ([.ref h, .int (nI a9)])).length) Slot.unset).toArray = ls at hl ⊢
  have hl : lv_has ls 2 [(0, .ref h), (1, .int (nI a9))] := hl
  refine lv_aload_n hx hb dX0_childrenAt_0 rfl (lv_at hl 0 rfl) ?_
  refine lv_iload_n hx hb dX0_childrenAt_1 rfl (lv_at hl 1 rfl) ?_
  refine gvi (As := [.int (nI a9)]) (rest := []) ⟨hx, hb, hml, hown, hts⟩ (c_X0_kindAt l dC dI tk tw h a b cB cJ _ f g zs zc zg zo a9 (by omega)) (cwV 1 hts gX0_childrenAt_X0_kindAt rfl rfl rfl (by decide +kernel) ⟨Nat.le_of_ble_eq_true rfl, Nat.le_of_ble_eq_true rfl⟩) hK hP hD hS hA hZ (q0 := 0) (ci := 0) rfl rfl rfl rfl hl.1 rfl (Nat.le_of_ble_eq_true rfl) dX0_childrenAt_2 ⟨Nat.le_of_ble_eq_true rfl, Nat.le_of_ble_eq_true rfl⟩ (fun r_2 u_3 H locs hw_1 hP hD hS => ?_)
  obtain rfl : r_2 = nI (kd (bY f a9)) := hw_1
  by_cases c_4 : (nI (kd (bY f a9))) = 10
  · skip
    refine lv_lookup (off := 27) (tgt := 32) hx hb dX0_childrenAt_5 (by decide) (by rw [c_4] <;> rfl) (by decide) ?_
    refine lv_aload_n hx hb dX0_childrenAt_32 rfl (lv_at hl 0 rfl) ?_
    refine lv_iload_n hx hb dX0_childrenAt_33 rfl (lv_at hl 1 rfl) ?_
    refine gvl (As := [.int (nI a9)]) (rest := []) ⟨hx, hb, hml, hown, hts⟩ (c_X0_numberAt l dC dI tk tw h a b cB cJ _ f g zs zc zg zo a9 h9) (cwV 1 hts gX0_childrenAt_X0_numberAt rfl rfl rfl (by decide +kernel) ⟨Nat.le_of_ble_eq_true rfl, Nat.le_of_ble_eq_true rfl⟩) hK hP hD hS hA hZ (q0 := 0) (ci := 0) rfl rfl rfl rfl hl.1 rfl (Nat.le_of_ble_eq_true rfl) dX0_childrenAt_34 ⟨Nat.le_of_ble_eq_true rfl, Nat.le_of_ble_eq_true rfl⟩ (fun r_6 u_7 H locs hw_5 hP hD hS => ?_)
    obtain rfl : r_6 = nv (bY f) a9 := hw_5
    exact W.lret (v := nv (bY f) a9) hx hb hr (fun t ht hW => ⟨⟨nv (bY f) a9, (), rfl, (by have qc_4 :  kd (bY f a9) = 10 := (nI_e12 _ (kd_le _ (bY_lt f a9)) 10 (by decide)).mp c_4; simp [ch, qc_4]), by rw [ht]; exact hP, va_K.moved hW.alike hK, hD⟩, hS.F ht⟩) hS.2.2 dX0_childrenAt_37
  by_cases c_8 : (nI (kd (bY f a9))) = 11
  · skip
    refine lv_lookup (off := 33) (tgt := 38) hx hb dX0_childrenAt_5 (by decide) (by rw [c_8] <;> rfl) (by decide) ?_
    refine lv_ldc2 (v := 2) hx hb hown (hts (.constantLong RX0 157 (2)) (by decide +kernel)) dX0_childrenAt_38 ?_
    refine lv_aload_n hx hb dX0_childrenAt_41 rfl (lv_at hl 0 rfl) ?_
    refine lv_iload_n hx hb dX0_childrenAt_42 rfl (lv_at hl 1 rfl) ?_
    refine gvl (As := [.int (nI a9)]) (rest := [.long 2]) ⟨hx, hb, hml, hown, hts⟩ (c_X0_numberAt l dC dI tk tw h a b cB cJ _ f g zs zc zg zo a9 h9) (cwV 1 hts gX0_childrenAt_X0_numberAt rfl rfl rfl (by decide +kernel) ⟨Nat.le_of_ble_eq_true rfl, Nat.le_of_ble_eq_true rfl⟩) hK hP hD hS hA hZ (q0 := 0) (ci := 0) rfl rfl rfl rfl hl.1 rfl (Nat.le_of_ble_eq_true rfl) dX0_childrenAt_43 ⟨Nat.le_of_ble_eq_true rfl, Nat.le_of_ble_eq_true rfl⟩ (fun r_10 u_11 H locs hw_9 hP hD hS => ?_)
    obtain rfl : r_10 = nv (bY f) a9 := hw_9
    refine lv_lmul hx hb dX0_childrenAt_46 ?_
    exact W.lret (v := 2 * (nv (bY f) a9)) hx hb hr (fun t ht hW => ⟨⟨2 * (nv (bY f) a9), (), rfl, (by have qc_4 : ¬ kd (bY f a9) = 10 := fun z => c_4 ((nI_e12 _ (kd_le _ (bY_lt f a9)) 10 (by decide)).mpr z); have qc_8 :  kd (bY f a9) = 11 := (nI_e12 _ (kd_le _ (bY_lt f a9)) 11 (by decide)).mp c_8; simp [ch, qc_4, qc_8]), by rw [ht]; exact hP, va_K.moved hW.alike hK, hD⟩, hS.F ht⟩) hS.2.2 dX0_childrenAt_47
  refine lv_lookup (off := 43) (tgt := 48) hx hb dX0_childrenAt_5 (by decide) (by show Op.lookupswitch.offset [(10, 27), (11, 33)] _ _ = _; rw [lv_osw c_4 (by decide), lv_osw c_8 (by decide)] <;> rfl) (by decide) ?_
  refine lv_lconst (v := 0) hx hb dX0_childrenAt_48 (by decide) ?_
  exact W.lret (v := 0) hx hb hr (fun t ht hW => ⟨⟨0, (), rfl, (by have qc_4 : ¬ kd (bY f a9) = 10 := fun z => c_4 ((nI_e12 _ (kd_le _ (bY_lt f a9)) 10 (by decide)).mpr z); have qc_8 : ¬ kd (bY f a9) = 11 := fun z => c_8 ((nI_e12 _ (kd_le _ (bY_lt f a9)) 11 (by decide)).mpr z); simp [ch, qc_4, qc_8]), by rw [ht]; exact hP, va_K.moved hW.alike hK, hD⟩, hS.F ht⟩) hS.2.2 dX0_childrenAt_49
set_option maxHeartbeats 4000000 in
set_option maxRecDepth 100000 in
theorem c_X0_endAt (l : Launch) (dC : Nat → ClassId) (dI : Nat → Nat → Nat) (tk tw : Nat) (h a b : Nat) (cB cJ : ClassId) (sz : Nat) (f : Nat → Int32) (g : Nat → Int64) (zs : Int32) (zc : Int32) (zg : Int32) (zo : Int32) (a9 : Nat) (h9 : a9 + 1 + wd (bY f a9) ≤ 4096) : Met l yX0_endAt wsX0_endAt ({ frames := 4, cells := 0, slots := 0, locals := 92 }) (va_Pc [.ref h, .int (nI a9)] (pr dC dI (t0 cB cJ) (w0 h a b cB cJ f g zs zc zg zo) sz tk tw)) (va_Qi (fun (r : Int32) (_ : Unit) => r = nI a9 + nI (hd (bY f a9)) + pl (bY f) a9) (fun (_ : Unit) => po dC dI (t0 cB cJ) (va_A (w0 h a b cB cJ f g zs zc zg zo) sz) (w0 h a b cB cJ f g zs zc zg zo)) (va_A (w0 h a b cB cJ f g zs zc zg zo) sz)) 0 0 (va_A (w0 h a b cB cJ f g zs zc zg zo) sz) := by
  refine Met.ofW (cc := cX0_endAt) (maxL := 2) (ret := (some .int)) (by decide) rfl ?_
  intro p e s m args below meth c s₁ Bd hml hv
  obtain ⟨rfl, hsz, hP, hK, hD0, hZ⟩ := hv
  have hx := Bd.exec
  have hb := Bd.bytes
  have hr := Bd.returns
  have hts := atoms_spec (ws := wsX0_endAt) Bd.pre
  have hown : s.vm.findClass RX0 = some m.cls := findClass_of_methodNamed Bd.named
  have hlocks := Bd.notSynchronized
  subst hsz
  have hD := hD0.self (sz := s.heap.size)
  generalize hAe : va_A (w0 h a b cB cJ f g zs zc zg zo) s.heap.size = A at hD hZ ⊢
  have hA : ∀ q : Nat, s.heap.size ≤ q → A q := fun q h => by rw [← hAe]; exact Or.inr h
  have hS : va_S A s.heap s.heap [] := va_S.rf
  have hP : va_P (dC, dI) vwCl (w0 h a b cB cJ f g zs zc zg zo) s.heap := hP
  have hl := lv_entry ([.ref h, .int (nI a9)]) (n := 2) (Nat.le_of_ble_eq_true rfl)
  rw [lg_entry_eq]
  generalize (lg_sl ([.ref h, .int (nI a9)]) ++ List.replicate (2 - (lg_sl ([.ref h, .int (nI a9)])).length) Slot.unset).toArray = ls at hl ⊢
  have hl : lv_has ls 2 [(0, .ref h), (1, .int (nI a9))] := hl
  refine lv_iload_n hx hb dX0_endAt_0 rfl (lv_at hl 1 rfl) ?_
  refine lv_aload_n hx hb dX0_endAt_1 rfl (lv_at hl 0 rfl) ?_
  refine lv_iload_n hx hb dX0_endAt_2 rfl (lv_at hl 1 rfl) ?_
  refine gvi (As := [.int (nI a9)]) (rest := [.int (nI a9)]) ⟨hx, hb, hml, hown, hts⟩ (c_X0_headLengthAt l dC dI tk tw h a b cB cJ _ f g zs zc zg zo a9 (by omega)) (cwV 1 hts gX0_endAt_X0_headLengthAt rfl rfl rfl (by decide +kernel) ⟨Nat.le_of_ble_eq_true rfl, Nat.le_of_ble_eq_true rfl⟩) hK hP hD hS hA hZ (q0 := 0) (ci := 0) rfl rfl rfl rfl hl.1 rfl (Nat.le_of_ble_eq_true rfl) dX0_endAt_3 ⟨Nat.le_of_ble_eq_true rfl, Nat.le_of_ble_eq_true rfl⟩ (fun r_2 u_3 H locs hw_1 hP hD hS => ?_)
  obtain rfl : r_2 = nI (hd (bY f a9)) := hw_1
  refine lv_iadd hx hb dX0_endAt_6 ?_
  refine lv_aload_n hx hb dX0_endAt_7 rfl (lv_at hl 0 rfl) ?_
  refine lv_iload_n hx hb dX0_endAt_8 rfl (lv_at hl 1 rfl) ?_
  refine gvi (As := [.int (nI a9)]) (rest := [.int ((nI a9) + (nI (hd (bY f a9))))]) ⟨hx, hb, hml, hown, hts⟩ (c_X0_payloadLengthAt l dC dI tk tw h a b cB cJ _ f g zs zc zg zo a9 h9) (cwV 1 hts gX0_endAt_X0_payloadLengthAt rfl rfl rfl (by decide +kernel) ⟨Nat.le_of_ble_eq_true rfl, Nat.le_of_ble_eq_true rfl⟩) hK hP hD hS hA hZ (q0 := 0) (ci := 0) rfl rfl rfl rfl hl.1 rfl (Nat.le_of_ble_eq_true rfl) dX0_endAt_9 ⟨Nat.le_of_ble_eq_true rfl, Nat.le_of_ble_eq_true rfl⟩ (fun r_5 u_6 H locs hw_4 hP hD hS => ?_)
  obtain rfl : r_5 = pl (bY f) a9 := hw_4
  refine lv_iadd hx hb dX0_endAt_12 ?_
  exact W.iret (v := ((nI a9) + (nI (hd (bY f a9)))) + (pl (bY f) a9)) hx hb hr (fun t ht hW => ⟨⟨((nI a9) + (nI (hd (bY f a9)))) + (pl (bY f) a9), (), rfl, rfl, by rw [ht]; exact hP, va_K.moved hW.alike hK, hD⟩, hS.F ht⟩) hS.2.2 dX0_endAt_13
set_option maxHeartbeats 4000000 in
set_option maxRecDepth 100000 in
theorem c_X0_lookAt (l : Launch) (dC : Nat → ClassId) (dI : Nat → Nat → Nat) (tk tw : Nat) (h a b : Nat) (cB cJ : ClassId) (sz : Nat) (f : Nat → Int32) (g : Nat → Int64) (zc : Int32) (zg : Int32) (zo : Int32) (n9 a9 : Nat) (hn9 : n9 ≤ 4096) (h9 : a9 ≤ 4096) : Met l yX0_lookAt wsX0_lookAt ({ frames := 4, cells := 0, slots := 0, locals := 92 }) (va_Pc [.ref h, .int (nI a9)] (pr dC dI (t0 cB cJ) (w0 h a b cB cJ f g (nI n9) zc zg zo) sz tk tw)) (va_Qi (fun (r : Int32) (_ : Unit) => r = lkS (bY f) n9 a9) (fun (_ : Unit) => po dC dI (t0 cB cJ) (va_A (w0 h a b cB cJ f g (nI n9) zc zg zo) sz) (w0 h a b cB cJ f g (nI n9) zc zg zo)) (va_A (w0 h a b cB cJ f g (nI n9) zc zg zo) sz)) 0 0 (va_A (w0 h a b cB cJ f g (nI n9) zc zg zo) sz) := by
  refine Met.ofW (cc := cX0_lookAt) (maxL := 5) (ret := (some .int)) (by decide) rfl ?_
  intro p e s m args below meth c s₁ Bd hml hv
  obtain ⟨rfl, hsz, hP, hK, hD0, hZ⟩ := hv
  have hx := Bd.exec
  have hb := Bd.bytes
  have hr := Bd.returns
  have hts := atoms_spec (ws := wsX0_lookAt) Bd.pre
  have hown : s.vm.findClass RX0 = some m.cls := findClass_of_methodNamed Bd.named
  have hlocks := Bd.notSynchronized
  subst hsz
  have hD := hD0.self (sz := s.heap.size)
  generalize hAe : va_A (w0 h a b cB cJ f g (nI n9) zc zg zo) s.heap.size = A at hD hZ ⊢
  have hA : ∀ q : Nat, s.heap.size ≤ q → A q := fun q h => by rw [← hAe]; exact Or.inr h
  have hS : va_S A s.heap s.heap [] := va_S.rf
  have hP : va_P (dC, dI) vwCl (w0 h a b cB cJ f g (nI n9) zc zg zo) s.heap := hP
  have hin0 : ∀ w ∈ wsX00, w ∈ wsX0_lookAt := by decide +kernel
  have fl13 := hts (.fieldLink RX0 13 "MessageReader" "size" "I") (by decide +kernel)
  have hl := lv_entry ([.ref h, .int (nI a9)]) (n := 5) (Nat.le_of_ble_eq_true rfl)
  rw [lg_entry_eq]
  generalize (lg_sl ([.ref h, .int (nI a9)]) ++ List.replicate (5 - (lg_sl ([.ref h, .int (nI a9)])).length) Slot.unset).toArray = ls at hl ⊢
  have hl : lv_has ls 5 [(0, .ref h), (1, .int (nI a9))] := hl
  refine lv_iload_n hx hb dX0_lookAt_0 rfl (lv_at hl 1 rfl) ?_
  refine lv_aload_n hx hb dX0_lookAt_1 rfl (lv_at hl 0 rfl) ?_
  refine va_get (D := (dC, dI)) (ci := 0) (v := .int (nI n9)) (C := RX0) (T := TX0) (N := 6) hx hb hts hin0 hown hK hP 0 rfl rfl 1 (by decide) fl13 (fun _ h9 => h9) rfl dX0_lookAt_2 ?_
  refine lv_icmp_lt (tgt := 11) hx hb dX0_lookAt_5 (by decide) (fun c_1 => ?_) (fun c_1 => ?_)
  · skip
    have q1 : a9 < n9 := (nI_ltI (by omega) (by omega)).mp c_1
    refine lv_aload_n hx hb dX0_lookAt_11 rfl (lv_at hl 0 rfl) ?_
    refine lv_iload_n hx hb dX0_lookAt_12 rfl (lv_at hl 1 rfl) ?_
    refine gvi (As := [.int (nI a9)]) (rest := []) ⟨hx, hb, hml, hown, hts⟩ (c_X0_storedByte l dC dI tk tw h a b cB cJ _ f g (nI n9) zc zg zo a9 (by omega)) (cwV 1 hts gX0_lookAt_X0_storedByte rfl rfl rfl (by decide +kernel) ⟨Nat.le_of_ble_eq_true rfl, Nat.le_of_ble_eq_true rfl⟩) hK hP hD hS hA hZ (q0 := 0) (ci := 0) rfl rfl rfl rfl hl.1 rfl (Nat.le_of_ble_eq_true rfl) dX0_lookAt_13 ⟨Nat.le_of_ble_eq_true rfl, Nat.le_of_ble_eq_true rfl⟩ (fun r_3 u_4 H locs hw_2 hP hD hS => ?_)
    obtain rfl : r_3 = nI (bY f a9) := hw_2
    refine lv_istore_n (lv' := [(2, .int (nI (bY f a9))), (0, .ref h), (1, .int (nI a9))]) hx hb dX0_lookAt_16 rfl hl (by decide) rfl (fun ls hl => ?_)
    refine lv_iload_n hx hb dX0_lookAt_17 rfl (lv_at hl 0 rfl) ?_
    refine lv_sipush (v := 193) hx hb dX0_lookAt_18 (by decide) ?_
    refine lv_icmp_ne (tgt := 27) hx hb dX0_lookAt_21 (by decide) (fun c_5 => ?_) (fun c_5 => ?_)
    · skip
      refine lv_aload_n hx hb dX0_lookAt_27 rfl (lv_at hl 1 rfl) ?_
      refine va_get (D := (dC, dI)) (ci := 0) (v := .int (nI n9)) (C := RX0) (T := TX0) (N := 6) hx hb hts hin0 hown hK hP 0 rfl rfl 1 (by decide) fl13 (fun _ h9 => h9) rfl dX0_lookAt_28 ?_
      refine lv_iload_n hx hb dX0_lookAt_31 rfl (lv_at hl 2 rfl) ?_
      refine lv_isub hx hb dX0_lookAt_32 ?_
      refine lv_iload_n hx hb dX0_lookAt_33 rfl (lv_at hl 0 rfl) ?_
      refine gsi (As := [.int (nI (bY f a9))]) (rest := [.int ((nI n9) - (nI a9))]) ⟨hx, hb, hml, hown, hts⟩ (c_X0_headLength l dC dI tk tw _ (bY f a9) (bY_lt f a9)) (va_cwS 1 hts gX0_lookAt_X0_headLength rfl rfl rfl (by decide +kernel) ⟨Nat.le_of_ble_eq_true rfl, Nat.le_of_ble_eq_true rfl⟩) hP hS hA hZ rfl hl.1 rfl (Nat.le_of_ble_eq_true rfl) dX0_lookAt_34 ⟨Nat.le_of_ble_eq_true rfl, Nat.le_of_ble_eq_true rfl⟩ (fun r_7 H locs hw_6 hP hS => ?_)
      obtain rfl : r_7 = nI (hd (bY f a9)) := hw_6
      refine lv_isub hx hb dX0_lookAt_37 ?_
      refine lv_istore_n (lv' := [(3, .int (((nI n9) - (nI a9)) - (nI (hd (bY f a9))))), (2, .int (nI (bY f a9))), (0, .ref h), (1, .int (nI a9))]) hx hb dX0_lookAt_38 rfl hl (by decide) rfl (fun ls hl => ?_)
      refine lv_iload_n hx hb dX0_lookAt_39 rfl (lv_at hl 0 rfl) ?_
      refine lv_if_ge (tgt := 46) hx hb dX0_lookAt_40 (by decide) (fun c_8 => ?_) (fun c_8 => ?_)
      · skip
        have q3 := nI_room hn9 q1 (hd_le _ (bY_lt f a9)).2.1 c_8
        have q4 := hd_le _ (bY_lt f a9)
        refine lv_iload_n hx hb dX0_lookAt_46 rfl (lv_at hl 1 rfl) ?_
        refine gsi (As := [.int (nI (bY f a9))]) (rest := []) ⟨hx, hb, hml, hown, hts⟩ (c_X0_kindOf l dC dI tk tw _ (bY f a9) (bY_lt f a9)) (va_cwS 1 hts gX0_lookAt_X0_kindOf rfl rfl rfl (by decide +kernel) ⟨Nat.le_of_ble_eq_true rfl, Nat.le_of_ble_eq_true rfl⟩) hP hS hA hZ rfl hl.1 rfl (Nat.le_of_ble_eq_true rfl) dX0_lookAt_47 ⟨Nat.le_of_ble_eq_true rfl, Nat.le_of_ble_eq_true rfl⟩ (fun r_10 H locs hw_9 hP hS => ?_)
        obtain rfl : r_10 = nI (kd (bY f a9)) := hw_9
        refine lv_istore (lv' := [(4, .int (nI (kd (bY f a9)))), (3, .int (((nI n9) - (nI a9)) - (nI (hd (bY f a9))))), (2, .int (nI (bY f a9))), (0, .ref h), (1, .int (nI a9))]) hx hb dX0_lookAt_50 hl (by decide) rfl (fun ls hl => ?_)
        refine lv_iload hx hb dX0_lookAt_52 (lv_at hl 0 rfl) ?_
        refine lv_bipush (v := 8) hx hb dX0_lookAt_54 (by decide) ?_
        refine lv_icmp_lt (tgt := 74) hx hb dX0_lookAt_56 (by decide) (fun c_11 => ?_) (fun c_11 => ?_)
        · skip
          refine lv_aload_n hx hb dX0_lookAt_74 rfl (lv_at hl 3 rfl) ?_
          refine lv_iload_n hx hb dX0_lookAt_75 rfl (lv_at hl 4 rfl) ?_
          refine gvi (As := [.int (nI a9)]) (rest := []) ⟨hx, hb, hml, hown, hts⟩ (c_X0_payloadLengthAt l dC dI tk tw h a b cB cJ _ f g (nI n9) zc zg zo a9 (by omega)) (cwV 1 hts gX0_lookAt_X0_payloadLengthAt rfl rfl rfl (by decide +kernel) ⟨Nat.le_of_ble_eq_true rfl, Nat.le_of_ble_eq_true rfl⟩) hK hP hD hS hA hZ (q0 := 0) (ci := 0) rfl rfl rfl rfl hl.1 rfl (Nat.le_of_ble_eq_true rfl) dX0_lookAt_76 ⟨Nat.le_of_ble_eq_true rfl, Nat.le_of_ble_eq_true rfl⟩ (fun r_13 u_14 H locs hw_12 hP hD hS => ?_)
          obtain rfl : r_13 = pl (bY f) a9 := hw_12
          refine lv_iload_n hx hb dX0_lookAt_79 rfl (lv_at hl 1 rfl) ?_
          refine lv_icmp_le (tgt := 88) hx hb dX0_lookAt_80 (by decide) (fun c_15 => ?_) (fun c_15 => ?_)
          · skip
            refine lv_iload hx hb dX0_lookAt_88 (lv_at hl 0 rfl) ?_
            exact W.iret (v := nI (kd (bY f a9))) hx hb hr (fun t ht hW => ⟨⟨nI (kd (bY f a9)), (), rfl, (by unfold lkS; rw [if_pos c_1, if_neg c_5, if_pos c_8, if_pos c_11, if_pos c_15]), by rw [ht]; exact hP, va_K.moved hW.alike hK, hD⟩, hS.F ht⟩) hS.2.2 dX0_lookAt_90
          · skip
            refine lv_bipush (v := -2) hx hb dX0_lookAt_83 (by decide) ?_
            refine lv_goto (tgt := 90) hx hb dX0_lookAt_85 (by decide) ?_
            exact W.iret (v := -2) hx hb hr (fun t ht hW => ⟨⟨-2, (), rfl, (by unfold lkS; rw [if_pos c_1, if_neg c_5, if_pos c_8, if_pos c_11, if_neg c_15]), by rw [ht]; exact hP, va_K.moved hW.alike hK, hD⟩, hS.F ht⟩) hS.2.2 dX0_lookAt_90
        · skip
          refine lv_aload_n hx hb dX0_lookAt_59 rfl (lv_at hl 3 rfl) ?_
          refine lv_iload_n hx hb dX0_lookAt_60 rfl (lv_at hl 4 rfl) ?_
          refine gvl (As := [.int (nI a9)]) (rest := []) ⟨hx, hb, hml, hown, hts⟩ (c_X0_numberAt l dC dI tk tw h a b cB cJ _ f g (nI n9) zc zg zo a9 (by omega)) (cwV 1 hts gX0_lookAt_X0_numberAt rfl rfl rfl (by decide +kernel) ⟨Nat.le_of_ble_eq_true rfl, Nat.le_of_ble_eq_true rfl⟩) hK hP hD hS hA hZ (q0 := 0) (ci := 0) rfl rfl rfl rfl hl.1 rfl (Nat.le_of_ble_eq_true rfl) dX0_lookAt_61 ⟨Nat.le_of_ble_eq_true rfl, Nat.le_of_ble_eq_true rfl⟩ (fun r_17 u_18 H locs hw_16 hP hD hS => ?_)
          obtain rfl : r_17 = nv (bY f) a9 := hw_16
          refine lv_ldc2 (v := 2147483647) hx hb hown (hts (.constantLong RX0 159 (2147483647)) (by decide +kernel)) dX0_lookAt_64 ?_
          refine W.lcmp hx hb dX0_lookAt_67 ?_
          refine lv_if_le (tgt := 74) hx hb dX0_lookAt_68 (by decide) (fun c_19 => ?_) (fun c_19 => ?_)
          · skip
            have c_19 := (lg_cmp_le (nv (bY f) a9) (2147483647 : Int64)).mp c_19
            refine lv_aload_n hx hb dX0_lookAt_74 rfl (lv_at hl 3 rfl) ?_
            refine lv_iload_n hx hb dX0_lookAt_75 rfl (lv_at hl 4 rfl) ?_
            refine gvi (As := [.int (nI a9)]) (rest := []) ⟨hx, hb, hml, hown, hts⟩ (c_X0_payloadLengthAt l dC dI tk tw h a b cB cJ _ f g (nI n9) zc zg zo a9 (by omega)) (cwV 1 hts gX0_lookAt_X0_payloadLengthAt rfl rfl rfl (by decide +kernel) ⟨Nat.le_of_ble_eq_true rfl, Nat.le_of_ble_eq_true rfl⟩) hK hP hD hS hA hZ (q0 := 0) (ci := 0) rfl rfl rfl rfl hl.1 rfl (Nat.le_of_ble_eq_true rfl) dX0_lookAt_76 ⟨Nat.le_of_ble_eq_true rfl, Nat.le_of_ble_eq_true rfl⟩ (fun r_21 u_22 H locs hw_20 hP hD hS => ?_)
            obtain rfl : r_21 = pl (bY f) a9 := hw_20
            refine lv_iload_n hx hb dX0_lookAt_79 rfl (lv_at hl 1 rfl) ?_
            refine lv_icmp_le (tgt := 88) hx hb dX0_lookAt_80 (by decide) (fun c_23 => ?_) (fun c_23 => ?_)
            · skip
              refine lv_iload hx hb dX0_lookAt_88 (lv_at hl 0 rfl) ?_
              exact W.iret (v := nI (kd (bY f a9))) hx hb hr (fun t ht hW => ⟨⟨nI (kd (bY f a9)), (), rfl, (by unfold lkS; rw [if_pos c_1, if_neg c_5, if_pos c_8, if_neg c_11, if_pos c_19, if_pos c_23]), by rw [ht]; exact hP, va_K.moved hW.alike hK, hD⟩, hS.F ht⟩) hS.2.2 dX0_lookAt_90
            · skip
              refine lv_bipush (v := -2) hx hb dX0_lookAt_83 (by decide) ?_
              refine lv_goto (tgt := 90) hx hb dX0_lookAt_85 (by decide) ?_
              exact W.iret (v := -2) hx hb hr (fun t ht hW => ⟨⟨-2, (), rfl, (by unfold lkS; rw [if_pos c_1, if_neg c_5, if_pos c_8, if_neg c_11, if_pos c_19, if_neg c_23]), by rw [ht]; exact hP, va_K.moved hW.alike hK, hD⟩, hS.F ht⟩) hS.2.2 dX0_lookAt_90
          · skip
            have c_19 := (not_congr (lg_cmp_le (nv (bY f) a9) (2147483647 : Int64))).mp c_19
            refine lv_bipush (v := -4) hx hb dX0_lookAt_71 (by decide) ?_
            exact W.iret (v := -4) hx hb hr (fun t ht hW => ⟨⟨-4, (), rfl, (by unfold lkS; rw [if_pos c_1, if_neg c_5, if_pos c_8, if_neg c_11, if_neg c_19]), by rw [ht]; exact hP, va_K.moved hW.alike hK, hD⟩, hS.F ht⟩) hS.2.2 dX0_lookAt_73
      · skip
        refine lv_bipush (v := -2) hx hb dX0_lookAt_43 (by decide) ?_
        exact W.iret (v := -2) hx hb hr (fun t ht hW => ⟨⟨-2, (), rfl, (by unfold lkS; rw [if_pos c_1, if_neg c_5, if_neg c_8]), by rw [ht]; exact hP, va_K.moved hW.alike hK, hD⟩, hS.F ht⟩) hS.2.2 dX0_lookAt_45
    · skip
      refine lv_bipush (v := -3) hx hb dX0_lookAt_24 (by decide) ?_
      exact W.iret (v := -3) hx hb hr (fun t ht hW => ⟨⟨-3, (), rfl, (by unfold lkS; rw [if_pos c_1, if_pos c_5]), by rw [ht]; exact hP, va_K.moved hW.alike hK, hD⟩, hS.F ht⟩) hS.2.2 dX0_lookAt_26
  · skip
    refine lv_bipush (v := -2) hx hb dX0_lookAt_8 (by decide) ?_
    exact W.iret (v := -2) hx hb hr (fun t ht hW => ⟨⟨-2, (), rfl, (by unfold lkS; rw [if_neg c_1]), by rw [ht]; exact hP, va_K.moved hW.alike hK, hD⟩, hS.F ht⟩) hS.2.2 dX0_lookAt_10
