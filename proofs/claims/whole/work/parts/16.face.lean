set_option maxHeartbeats 4000000 in
set_option maxRecDepth 100000 in
theorem c_X0_kind (l : Launch) (dC : Nat → ClassId) (dI : Nat → Nat → Nat) (tk tw : Nat) (h a b : Nat) (cB cJ : ClassId) (sz : Nat) (f : Nat → Int32) (g : Nat → Int64) (zs : Int32) (zc : Int32) (zo : Int32) (a9 : Nat) (h9 : a9 + hd (bY f a9) ≤ 4096) : Met l yX0_kind wsX0_kind ({ frames := 2, cells := 0, slots := 0, locals := 42 }) (va_Pc [.ref h] (pr dC dI (t0 cB cJ) (w0 h a b cB cJ f g zs zc (nI a9) zo) sz tk tw)) (va_Qi (fun (r : Int32) (_ : Unit) => r = nI (kd (bY f a9))) (fun (_ : Unit) => po dC dI (t0 cB cJ) (va_A (w0 h a b cB cJ f g zs zc (nI a9) zo) sz) (w0 h a b cB cJ f g zs zc (nI a9) zo)) (va_A (w0 h a b cB cJ f g zs zc (nI a9) zo) sz)) 0 0 (va_A (w0 h a b cB cJ f g zs zc (nI a9) zo) sz) := by
  refine Met.ofW (cc := cX0_kind) (maxL := 1) (ret := (some .int)) (by decide) rfl ?_
  intro p e s m args below meth c s₁ Bd hml hv
  obtain ⟨rfl, hsz, hP, hK, hD0, hZ⟩ := hv
  have hx := Bd.exec
  have hb := Bd.bytes
  have hr := Bd.returns
  have hts := atoms_spec (ws := wsX0_kind) Bd.pre
  have hown : s.vm.findClass RX0 = some m.cls := findClass_of_methodNamed Bd.named
  have hlocks := Bd.notSynchronized
  subst hsz
  have hD := hD0.self (sz := s.heap.size)
  generalize hAe : va_A (w0 h a b cB cJ f g zs zc (nI a9) zo) s.heap.size = A at hD hZ ⊢
  have hA : ∀ q : Nat, s.heap.size ≤ q → A q := fun q h => by rw [← hAe]; exact Or.inr h
  have hS : va_S A s.heap s.heap [] := va_S.rf
  have hP : va_P (dC, dI) vwCl (w0 h a b cB cJ f g zs zc (nI a9) zo) s.heap := hP
  have hin0 : ∀ w ∈ wsX00, w ∈ wsX0_kind := by decide +kernel
  have fl20 := hts (.fieldLink RX0 20 "MessageReader" "given" "I") (by decide +kernel)
  have hl := lv_entry ([.ref h]) (n := 1) (Nat.le_of_ble_eq_true rfl)
  rw [lg_entry_eq]
  generalize (lg_sl ([.ref h]) ++ List.replicate (1 - (lg_sl ([.ref h])).length) Slot.unset).toArray = ls at hl ⊢
  have hl : lv_has ls 1 [(0, .ref h)] := hl
  refine lv_aload_n hx hb dX0_kind_0 rfl (lv_at hl 0 rfl) ?_
  refine va_get (D := (dC, dI)) (ci := 0) (v := .int (nI a9)) (C := RX0) (T := TX0) (N := 6) hx hb hts hin0 hown hK hP 0 rfl rfl 3 (by decide) fl20 (fun _ h9 => h9) rfl dX0_kind_1 ?_
  refine lv_if_ge (tgt := 11) hx hb dX0_kind_4 (by decide) (fun c_1 => ?_) (fun c_1 => ?_)
  · skip
    refine lv_aload_n hx hb dX0_kind_11 rfl (lv_at hl 0 rfl) ?_
    refine lv_aload_n hx hb dX0_kind_12 rfl (lv_at hl 0 rfl) ?_
    refine va_get (D := (dC, dI)) (ci := 0) (v := .int (nI a9)) (C := RX0) (T := TX0) (N := 6) hx hb hts hin0 hown hK hP 0 rfl rfl 3 (by decide) fl20 (fun _ h9 => h9) rfl dX0_kind_13 ?_
    refine gvi (As := [.int (nI a9)]) (rest := []) ⟨hx, hb, hml, hown, hts⟩ (c_X0_kindAt l dC dI tk tw h a b cB cJ _ f g zs zc (nI a9) zo a9 (by have q7 := hd_le _ (bY_lt f a9); omega)) (cwV 1 hts gX0_kind_X0_kindAt rfl rfl rfl (by decide +kernel) ⟨Nat.le_of_ble_eq_true rfl, Nat.le_of_ble_eq_true rfl⟩) hK hP hD hS hA hZ (q0 := 0) (ci := 0) rfl rfl rfl rfl hl.1 rfl (Nat.le_of_ble_eq_true rfl) dX0_kind_16 ⟨Nat.le_of_ble_eq_true rfl, Nat.le_of_ble_eq_true rfl⟩ (fun r_3 u_4 H locs hw_2 hP hD hS => ?_)
    obtain rfl : r_3 = nI (kd (bY f a9)) := hw_2
    exact W.iret (v := nI (kd (bY f a9))) hx hb hr (fun t ht hW => ⟨⟨nI (kd (bY f a9)), (), rfl, rfl, by rw [ht]; exact hP, va_K.moved hW.alike hK, hD⟩, hS.F ht⟩) hS.2.2 dX0_kind_19
  · skip
    exact absurd (nI_pos' (by omega)) c_1
set_option maxHeartbeats 4000000 in
set_option maxRecDepth 100000 in
theorem c_X0_kind_n (l : Launch) (dC : Nat → ClassId) (dI : Nat → Nat → Nat) (tk tw : Nat) (h a b : Nat) (cB cJ : ClassId) (sz : Nat) (f : Nat → Int32) (g : Nat → Int64) (zs : Int32) (zc : Int32) (zo : Int32)  : Met l yX0_kind wsX0_kind ({ frames := 0, cells := 0, slots := 0, locals := 0 }) (va_Pc [.ref h] (pr dC dI (t0 cB cJ) (w0 h a b cB cJ f g zs zc (-1) zo) sz tk tw)) (va_Qi (fun (r : Int32) (_ : Unit) => r = -1) (fun (_ : Unit) => po dC dI (t0 cB cJ) (va_A (w0 h a b cB cJ f g zs zc (-1) zo) sz) (w0 h a b cB cJ f g zs zc (-1) zo)) (va_A (w0 h a b cB cJ f g zs zc (-1) zo) sz)) 0 0 (va_A (w0 h a b cB cJ f g zs zc (-1) zo) sz) := by
  refine Met.ofW (cc := cX0_kind) (maxL := 1) (ret := (some .int)) (by decide) rfl ?_
  intro p e s m args below meth c s₁ Bd hml hv
  obtain ⟨rfl, hsz, hP, hK, hD0, hZ⟩ := hv
  have hx := Bd.exec
  have hb := Bd.bytes
  have hr := Bd.returns
  have hts := atoms_spec (ws := wsX0_kind) Bd.pre
  have hown : s.vm.findClass RX0 = some m.cls := findClass_of_methodNamed Bd.named
  have hlocks := Bd.notSynchronized
  subst hsz
  have hD := hD0.self (sz := s.heap.size)
  generalize hAe : va_A (w0 h a b cB cJ f g zs zc (-1) zo) s.heap.size = A at hD hZ ⊢
  have hA : ∀ q : Nat, s.heap.size ≤ q → A q := fun q h => by rw [← hAe]; exact Or.inr h
  have hS : va_S A s.heap s.heap [] := va_S.rf
  have hP : va_P (dC, dI) vwCl (w0 h a b cB cJ f g zs zc (-1) zo) s.heap := hP
  have hin0 : ∀ w ∈ wsX00, w ∈ wsX0_kind := by decide +kernel
  have fl20 := hts (.fieldLink RX0 20 "MessageReader" "given" "I") (by decide +kernel)
  have hl := lv_entry ([.ref h]) (n := 1) (Nat.le_of_ble_eq_true rfl)
  rw [lg_entry_eq]
  generalize (lg_sl ([.ref h]) ++ List.replicate (1 - (lg_sl ([.ref h])).length) Slot.unset).toArray = ls at hl ⊢
  have hl : lv_has ls 1 [(0, .ref h)] := hl
  refine lv_aload_n hx hb dX0_kind_0 rfl (lv_at hl 0 rfl) ?_
  refine va_get (D := (dC, dI)) (ci := 0) (v := .int (-1)) (C := RX0) (T := TX0) (N := 6) hx hb hts hin0 hown hK hP 0 rfl rfl 3 (by decide) fl20 (fun _ h9 => h9) rfl dX0_kind_1 ?_
  refine lv_if_ge (tgt := 11) hx hb dX0_kind_4 (by decide) (fun c_1 => ?_) (fun c_1 => ?_)
  · skip
    exact absurd c_1 (by decide)
  · skip
    refine lv_iconst (v := -1) hx hb dX0_kind_7 (by decide) ?_
    refine lv_goto (tgt := 19) hx hb dX0_kind_8 (by decide) ?_
    exact W.iret (v := -1) hx hb hr (fun t ht hW => ⟨⟨-1, (), rfl, rfl, by rw [ht]; exact hP, va_K.moved hW.alike hK, hD⟩, hS.F ht⟩) hS.2.2 dX0_kind_19
set_option maxHeartbeats 4000000 in
set_option maxRecDepth 100000 in
theorem c_X0_valueLow (l : Launch) (dC : Nat → ClassId) (dI : Nat → Nat → Nat) (tk tw : Nat) (h a b : Nat) (cB cJ : ClassId) (sz : Nat) (f : Nat → Int32) (g : Nat → Int64) (zs : Int32) (zc : Int32) (zo : Int32) (a9 : Nat) (h9 : a9 + hd (bY f a9) ≤ 4096) : Met l yX0_valueLow wsX0_valueLow ({ frames := 3, cells := 0, slots := 0, locals := 71 }) (va_Pc [.ref h] (pr dC dI (t0 cB cJ) (w0 h a b cB cJ f g zs zc (nI a9) zo) sz tk tw)) (va_Qi (fun (r : Int32) (_ : Unit) => r = (nv (bY f) a9).toInt32) (fun (_ : Unit) => po dC dI (t0 cB cJ) (va_A (w0 h a b cB cJ f g zs zc (nI a9) zo) sz) (w0 h a b cB cJ f g zs zc (nI a9) zo)) (va_A (w0 h a b cB cJ f g zs zc (nI a9) zo) sz)) 0 0 (va_A (w0 h a b cB cJ f g zs zc (nI a9) zo) sz) := by
  refine Met.ofW (cc := cX0_valueLow) (maxL := 1) (ret := (some .int)) (by decide) rfl ?_
  intro p e s m args below meth c s₁ Bd hml hv
  obtain ⟨rfl, hsz, hP, hK, hD0, hZ⟩ := hv
  have hx := Bd.exec
  have hb := Bd.bytes
  have hr := Bd.returns
  have hts := atoms_spec (ws := wsX0_valueLow) Bd.pre
  have hown : s.vm.findClass RX0 = some m.cls := findClass_of_methodNamed Bd.named
  have hlocks := Bd.notSynchronized
  subst hsz
  have hD := hD0.self (sz := s.heap.size)
  generalize hAe : va_A (w0 h a b cB cJ f g zs zc (nI a9) zo) s.heap.size = A at hD hZ ⊢
  have hA : ∀ q : Nat, s.heap.size ≤ q → A q := fun q h => by rw [← hAe]; exact Or.inr h
  have hS : va_S A s.heap s.heap [] := va_S.rf
  have hP : va_P (dC, dI) vwCl (w0 h a b cB cJ f g zs zc (nI a9) zo) s.heap := hP
  have hin0 : ∀ w ∈ wsX00, w ∈ wsX0_valueLow := by decide +kernel
  have fl20 := hts (.fieldLink RX0 20 "MessageReader" "given" "I") (by decide +kernel)
  have hl := lv_entry ([.ref h]) (n := 1) (Nat.le_of_ble_eq_true rfl)
  rw [lg_entry_eq]
  generalize (lg_sl ([.ref h]) ++ List.replicate (1 - (lg_sl ([.ref h])).length) Slot.unset).toArray = ls at hl ⊢
  have hl : lv_has ls 1 [(0, .ref h)] := hl
  refine lv_aload_n hx hb dX0_valueLow_0 rfl (lv_at hl 0 rfl) ?_
  refine va_get (D := (dC, dI)) (ci := 0) (v := .int (nI a9)) (C := RX0) (T := TX0) (N := 6) hx hb hts hin0 hown hK hP 0 rfl rfl 3 (by decide) fl20 (fun _ h9 => h9) rfl dX0_valueLow_1 ?_
  refine lv_if_ge (tgt := 11) hx hb dX0_valueLow_4 (by decide) (fun c_1 => ?_) (fun c_1 => ?_)
  · skip
    refine lv_aload_n hx hb dX0_valueLow_11 rfl (lv_at hl 0 rfl) ?_
    refine lv_aload_n hx hb dX0_valueLow_12 rfl (lv_at hl 0 rfl) ?_
    refine va_get (D := (dC, dI)) (ci := 0) (v := .int (nI a9)) (C := RX0) (T := TX0) (N := 6) hx hb hts hin0 hown hK hP 0 rfl rfl 3 (by decide) fl20 (fun _ h9 => h9) rfl dX0_valueLow_13 ?_
    refine gvl (As := [.int (nI a9)]) (rest := []) ⟨hx, hb, hml, hown, hts⟩ (c_X0_numberAt l dC dI tk tw h a b cB cJ _ f g zs zc (nI a9) zo a9 (by have q7 := hd_le _ (bY_lt f a9); omega)) (cwV 1 hts gX0_valueLow_X0_numberAt rfl rfl rfl (by decide +kernel) ⟨Nat.le_of_ble_eq_true rfl, Nat.le_of_ble_eq_true rfl⟩) hK hP hD hS hA hZ (q0 := 0) (ci := 0) rfl rfl rfl rfl hl.1 rfl (Nat.le_of_ble_eq_true rfl) dX0_valueLow_16 ⟨Nat.le_of_ble_eq_true rfl, Nat.le_of_ble_eq_true rfl⟩ (fun r_3 u_4 H locs hw_2 hP hD hS => ?_)
    obtain rfl : r_3 = nv (bY f) a9 := hw_2
    refine lv_l2i hx hb dX0_valueLow_19 rfl ?_
    exact W.iret (v := (nv (bY f) a9).toInt32) hx hb hr (fun t ht hW => ⟨⟨(nv (bY f) a9).toInt32, (), rfl, rfl, by rw [ht]; exact hP, va_K.moved hW.alike hK, hD⟩, hS.F ht⟩) hS.2.2 dX0_valueLow_20
  · skip
    exact absurd (nI_pos' (by omega)) c_1
set_option maxHeartbeats 4000000 in
set_option maxRecDepth 100000 in
theorem c_X0_valueLow_n (l : Launch) (dC : Nat → ClassId) (dI : Nat → Nat → Nat) (tk tw : Nat) (h a b : Nat) (cB cJ : ClassId) (sz : Nat) (f : Nat → Int32) (g : Nat → Int64) (zs : Int32) (zc : Int32) (zo : Int32)  : Met l yX0_valueLow wsX0_valueLow ({ frames := 0, cells := 0, slots := 0, locals := 0 }) (va_Pc [.ref h] (pr dC dI (t0 cB cJ) (w0 h a b cB cJ f g zs zc (-1) zo) sz tk tw)) (va_Qi (fun (r : Int32) (_ : Unit) => r = 0) (fun (_ : Unit) => po dC dI (t0 cB cJ) (va_A (w0 h a b cB cJ f g zs zc (-1) zo) sz) (w0 h a b cB cJ f g zs zc (-1) zo)) (va_A (w0 h a b cB cJ f g zs zc (-1) zo) sz)) 0 0 (va_A (w0 h a b cB cJ f g zs zc (-1) zo) sz) := by
  refine Met.ofW (cc := cX0_valueLow) (maxL := 1) (ret := (some .int)) (by decide) rfl ?_
  intro p e s m args below meth c s₁ Bd hml hv
  obtain ⟨rfl, hsz, hP, hK, hD0, hZ⟩ := hv
  have hx := Bd.exec
  have hb := Bd.bytes
  have hr := Bd.returns
  have hts := atoms_spec (ws := wsX0_valueLow) Bd.pre
  have hown : s.vm.findClass RX0 = some m.cls := findClass_of_methodNamed Bd.named
  have hlocks := Bd.notSynchronized
  subst hsz
  have hD := hD0.self (sz := s.heap.size)
  generalize hAe : va_A (w0 h a b cB cJ f g zs zc (-1) zo) s.heap.size = A at hD hZ ⊢
  have hA : ∀ q : Nat, s.heap.size ≤ q → A q := fun q h => by rw [← hAe]; exact Or.inr h
  have hS : va_S A s.heap s.heap [] := va_S.rf
  have hP : va_P (dC, dI) vwCl (w0 h a b cB cJ f g zs zc (-1) zo) s.heap := hP
  have hin0 : ∀ w ∈ wsX00, w ∈ wsX0_valueLow := by decide +kernel
  have fl20 := hts (.fieldLink RX0 20 "MessageReader" "given" "I") (by decide +kernel)
  have hl := lv_entry ([.ref h]) (n := 1) (Nat.le_of_ble_eq_true rfl)
  rw [lg_entry_eq]
  generalize (lg_sl ([.ref h]) ++ List.replicate (1 - (lg_sl ([.ref h])).length) Slot.unset).toArray = ls at hl ⊢
  have hl : lv_has ls 1 [(0, .ref h)] := hl
  refine lv_aload_n hx hb dX0_valueLow_0 rfl (lv_at hl 0 rfl) ?_
  refine va_get (D := (dC, dI)) (ci := 0) (v := .int (-1)) (C := RX0) (T := TX0) (N := 6) hx hb hts hin0 hown hK hP 0 rfl rfl 3 (by decide) fl20 (fun _ h9 => h9) rfl dX0_valueLow_1 ?_
  refine lv_if_ge (tgt := 11) hx hb dX0_valueLow_4 (by decide) (fun c_1 => ?_) (fun c_1 => ?_)
  · skip
    exact absurd c_1 (by decide)
  · skip
    refine lv_iconst (v := 0) hx hb dX0_valueLow_7 (by decide) ?_
    refine lv_goto (tgt := 20) hx hb dX0_valueLow_8 (by decide) ?_
    exact W.iret (v := 0) hx hb hr (fun t ht hW => ⟨⟨0, (), rfl, rfl, by rw [ht]; exact hP, va_K.moved hW.alike hK, hD⟩, hS.F ht⟩) hS.2.2 dX0_valueLow_20
set_option maxHeartbeats 4000000 in
set_option maxRecDepth 100000 in
theorem c_X0_valueHigh (l : Launch) (dC : Nat → ClassId) (dI : Nat → Nat → Nat) (tk tw : Nat) (h a b : Nat) (cB cJ : ClassId) (sz : Nat) (f : Nat → Int32) (g : Nat → Int64) (zs : Int32) (zc : Int32) (zo : Int32) (a9 : Nat) (h9 : a9 + hd (bY f a9) ≤ 4096) : Met l yX0_valueHigh wsX0_valueHigh ({ frames := 5, cells := 0, slots := 0, locals := 102 }) (va_Pc [.ref h] (pr dC dI (t0 cB cJ) (w0 h a b cB cJ f g zs zc (nI a9) zo) sz tk tw)) (va_Qi (fun (r : Int32) (_ : Unit) => r = vh f a9) (fun (_ : Unit) => po dC dI (t0 cB cJ) (va_A (w0 h a b cB cJ f g zs zc (nI a9) zo) sz) (w0 h a b cB cJ f g zs zc (nI a9) zo)) (va_A (w0 h a b cB cJ f g zs zc (nI a9) zo) sz)) 0 0 (va_A (w0 h a b cB cJ f g zs zc (nI a9) zo) sz) := by
  refine Met.ofW (cc := cX0_valueHigh) (maxL := 1) (ret := (some .int)) (by decide) rfl ?_
  intro p e s m args below meth c s₁ Bd hml hv
  obtain ⟨rfl, hsz, hP, hK, hD0, hZ⟩ := hv
  have hx := Bd.exec
  have hb := Bd.bytes
  have hr := Bd.returns
  have hts := atoms_spec (ws := wsX0_valueHigh) Bd.pre
  have hown : s.vm.findClass RX0 = some m.cls := findClass_of_methodNamed Bd.named
  have hlocks := Bd.notSynchronized
  subst hsz
  have hD := hD0.self (sz := s.heap.size)
  generalize hAe : va_A (w0 h a b cB cJ f g zs zc (nI a9) zo) s.heap.size = A at hD hZ ⊢
  have hA : ∀ q : Nat, s.heap.size ≤ q → A q := fun q h => by rw [← hAe]; exact Or.inr h
  have hS : va_S A s.heap s.heap [] := va_S.rf
  have hP : va_P (dC, dI) vwCl (w0 h a b cB cJ f g zs zc (nI a9) zo) s.heap := hP
  have hin0 : ∀ w ∈ wsX00, w ∈ wsX0_valueHigh := by decide +kernel
  have fl20 := hts (.fieldLink RX0 20 "MessageReader" "given" "I") (by decide +kernel)
  have hl := lv_entry ([.ref h]) (n := 1) (Nat.le_of_ble_eq_true rfl)
  rw [lg_entry_eq]
  generalize (lg_sl ([.ref h]) ++ List.replicate (1 - (lg_sl ([.ref h])).length) Slot.unset).toArray = ls at hl ⊢
  have hl : lv_has ls 1 [(0, .ref h)] := hl
  refine lv_aload_n hx hb dX0_valueHigh_0 rfl (lv_at hl 0 rfl) ?_
  refine va_get (D := (dC, dI)) (ci := 0) (v := .int (nI a9)) (C := RX0) (T := TX0) (N := 6) hx hb hts hin0 hown hK hP 0 rfl rfl 3 (by decide) fl20 (fun _ h9 => h9) rfl dX0_valueHigh_1 ?_
  refine lv_if_ge (tgt := 9) hx hb dX0_valueHigh_4 (by decide) (fun c_1 => ?_) (fun c_1 => ?_)
  · skip
    refine lv_aload_n hx hb dX0_valueHigh_9 rfl (lv_at hl 0 rfl) ?_
    refine lv_aload_n hx hb dX0_valueHigh_10 rfl (lv_at hl 0 rfl) ?_
    refine va_get (D := (dC, dI)) (ci := 0) (v := .int (nI a9)) (C := RX0) (T := TX0) (N := 6) hx hb hts hin0 hown hK hP 0 rfl rfl 3 (by decide) fl20 (fun _ h9 => h9) rfl dX0_valueHigh_11 ?_
    refine gvi (As := [.int (nI a9)]) (rest := []) ⟨hx, hb, hml, hown, hts⟩ (c_X0_kindAt l dC dI tk tw h a b cB cJ _ f g zs zc (nI a9) zo a9 (by have q7 := hd_le _ (bY_lt f a9); omega)) (cwV 1 hts gX0_valueHigh_X0_kindAt rfl rfl rfl (by decide +kernel) ⟨Nat.le_of_ble_eq_true rfl, Nat.le_of_ble_eq_true rfl⟩) hK hP hD hS hA hZ (q0 := 0) (ci := 0) rfl rfl rfl rfl hl.1 rfl (Nat.le_of_ble_eq_true rfl) dX0_valueHigh_14 ⟨Nat.le_of_ble_eq_true rfl, Nat.le_of_ble_eq_true rfl⟩ (fun r_3 u_4 H locs hw_2 hP hD hS => ?_)
    obtain rfl : r_3 = nI (kd (bY f a9)) := hw_2
    refine lv_bipush (v := 12) hx hb dX0_valueHigh_17 (by decide) ?_
    refine lv_icmp_ne (tgt := 31) hx hb dX0_valueHigh_19 (by decide) (fun c_5 => ?_) (fun c_5 => ?_)
    · skip
      refine lv_aload_n hx hb dX0_valueHigh_31 rfl (lv_at hl 0 rfl) ?_
      refine lv_aload_n hx hb dX0_valueHigh_32 rfl (lv_at hl 0 rfl) ?_
      refine va_get (D := (dC, dI)) (ci := 0) (v := .int (nI a9)) (C := RX0) (T := TX0) (N := 6) hx hb hts hin0 hown hK hP 0 rfl rfl 3 (by decide) fl20 (fun _ h9 => h9) rfl dX0_valueHigh_33 ?_
      refine gvl (As := [.int (nI a9)]) (rest := []) ⟨hx, hb, hml, hown, hts⟩ (c_X0_numberAt l dC dI tk tw h a b cB cJ _ f g zs zc (nI a9) zo a9 (by have q7 := hd_le _ (bY_lt f a9); omega)) (cwV 1 hts gX0_valueHigh_X0_numberAt rfl rfl rfl (by decide +kernel) ⟨Nat.le_of_ble_eq_true rfl, Nat.le_of_ble_eq_true rfl⟩) hK hP hD hS hA hZ (q0 := 0) (ci := 0) rfl rfl rfl rfl hl.1 rfl (Nat.le_of_ble_eq_true rfl) dX0_valueHigh_36 ⟨Nat.le_of_ble_eq_true rfl, Nat.le_of_ble_eq_true rfl⟩ (fun r_7 u_8 H locs hw_6 hP hD hS => ?_)
      obtain rfl : r_7 = nv (bY f) a9 := hw_6
      refine lv_bipush (v := 32) hx hb dX0_valueHigh_39 (by decide) ?_
      refine lv_lushr hx hb dX0_valueHigh_41 rfl ?_
      refine lv_l2i hx hb dX0_valueHigh_42 rfl ?_
      exact W.iret (v := (((nv (bY f) a9).toUInt64 >>> ((32 : Int32).toInt64.toUInt64 &&& Int64.toUInt64 63)).toInt64).toInt32) hx hb hr (fun t ht hW => ⟨⟨(((nv (bY f) a9).toUInt64 >>> ((32 : Int32).toInt64.toUInt64 &&& Int64.toUInt64 63)).toInt64).toInt32, (), rfl, (by have q8 := nI_e12 (kd (bY f a9)) (kd_le _ (bY_lt f a9)) 12 (by decide); unfold vh; rw [if_neg (fun z => c_5 (q8.mpr z))]), by rw [ht]; exact hP, va_K.moved hW.alike hK, hD⟩, hS.F ht⟩) hS.2.2 dX0_valueHigh_43
    · skip
      refine lv_aload_n hx hb dX0_valueHigh_22 rfl (lv_at hl 0 rfl) ?_
      refine lv_aload_n hx hb dX0_valueHigh_23 rfl (lv_at hl 0 rfl) ?_
      refine va_get (D := (dC, dI)) (ci := 0) (v := .int (nI a9)) (C := RX0) (T := TX0) (N := 6) hx hb hts hin0 hown hK hP 0 rfl rfl 3 (by decide) fl20 (fun _ h9 => h9) rfl dX0_valueHigh_24 ?_
      refine gvi (As := [.int (nI a9)]) (rest := []) ⟨hx, hb, hml, hown, hts⟩ (c_X0_typeAt l dC dI tk tw h a b cB cJ _ f g zs zc (nI a9) zo a9 h9) (cwV 1 hts gX0_valueHigh_X0_typeAt rfl rfl rfl (by decide +kernel) ⟨Nat.le_of_ble_eq_true rfl, Nat.le_of_ble_eq_true rfl⟩) hK hP hD hS hA hZ (q0 := 0) (ci := 0) rfl rfl rfl rfl hl.1 rfl (Nat.le_of_ble_eq_true rfl) dX0_valueHigh_27 ⟨Nat.le_of_ble_eq_true rfl, Nat.le_of_ble_eq_true rfl⟩ (fun r_10 u_11 H locs hw_9 hP hD hS => ?_)
      obtain rfl : r_10 = f (a9 + hd (bY f a9) - 1) := hw_9
      exact W.iret (v := f (a9 + hd (bY f a9) - 1)) hx hb hr (fun t ht hW => ⟨⟨f (a9 + hd (bY f a9) - 1), (), rfl, (by have q8 := nI_e12 (kd (bY f a9)) (kd_le _ (bY_lt f a9)) 12 (by decide); unfold vh; rw [if_pos (q8.mp c_5)]), by rw [ht]; exact hP, va_K.moved hW.alike hK, hD⟩, hS.F ht⟩) hS.2.2 dX0_valueHigh_30
  · skip
    exact absurd (nI_pos' (by omega)) c_1
set_option maxHeartbeats 4000000 in
set_option maxRecDepth 100000 in
theorem c_X0_valueHigh_n (l : Launch) (dC : Nat → ClassId) (dI : Nat → Nat → Nat) (tk tw : Nat) (h a b : Nat) (cB cJ : ClassId) (sz : Nat) (f : Nat → Int32) (g : Nat → Int64) (zs : Int32) (zc : Int32) (zo : Int32)  : Met l yX0_valueHigh wsX0_valueHigh ({ frames := 0, cells := 0, slots := 0, locals := 0 }) (va_Pc [.ref h] (pr dC dI (t0 cB cJ) (w0 h a b cB cJ f g zs zc (-1) zo) sz tk tw)) (va_Qi (fun (r : Int32) (_ : Unit) => r = 0) (fun (_ : Unit) => po dC dI (t0 cB cJ) (va_A (w0 h a b cB cJ f g zs zc (-1) zo) sz) (w0 h a b cB cJ f g zs zc (-1) zo)) (va_A (w0 h a b cB cJ f g zs zc (-1) zo) sz)) 0 0 (va_A (w0 h a b cB cJ f g zs zc (-1) zo) sz) := by
  refine Met.ofW (cc := cX0_valueHigh) (maxL := 1) (ret := (some .int)) (by decide) rfl ?_
  intro p e s m args below meth c s₁ Bd hml hv
  obtain ⟨rfl, hsz, hP, hK, hD0, hZ⟩ := hv
  have hx := Bd.exec
  have hb := Bd.bytes
  have hr := Bd.returns
  have hts := atoms_spec (ws := wsX0_valueHigh) Bd.pre
  have hown : s.vm.findClass RX0 = some m.cls := findClass_of_methodNamed Bd.named
  have hlocks := Bd.notSynchronized
  subst hsz
  have hD := hD0.self (sz := s.heap.size)
  generalize hAe : va_A (w0 h a b cB cJ f g zs zc (-1) zo) s.heap.size = A at hD hZ ⊢
  have hA : ∀ q : Nat, s.heap.size ≤ q → A q := fun q h => by rw [← hAe]; exact Or.inr h
  have hS : va_S A s.heap s.heap [] := va_S.rf
  have hP : va_P (dC, dI) vwCl (w0 h a b cB cJ f g zs zc (-1) zo) s.heap := hP
  have hin0 : ∀ w ∈ wsX00, w ∈ wsX0_valueHigh := by decide +kernel
  have fl20 := hts (.fieldLink RX0 20 "MessageReader" "given" "I") (by decide +kernel)
  have hl := lv_entry ([.ref h]) (n := 1) (Nat.le_of_ble_eq_true rfl)
  rw [lg_entry_eq]
  generalize (lg_sl ([.ref h]) ++ List.replicate (1 - (lg_sl ([.ref h])).length) Slot.unset).toArray = ls at hl ⊢
  have hl : lv_has ls 1 [(0, .ref h)] := hl
  refine lv_aload_n hx hb dX0_valueHigh_0 rfl (lv_at hl 0 rfl) ?_
  refine va_get (D := (dC, dI)) (ci := 0) (v := .int (-1)) (C := RX0) (T := TX0) (N := 6) hx hb hts hin0 hown hK hP 0 rfl rfl 3 (by decide) fl20 (fun _ h9 => h9) rfl dX0_valueHigh_1 ?_
  refine lv_if_ge (tgt := 9) hx hb dX0_valueHigh_4 (by decide) (fun c_1 => ?_) (fun c_1 => ?_)
  · skip
    exact absurd c_1 (by decide)
  · skip
    refine lv_iconst (v := 0) hx hb dX0_valueHigh_7 (by decide) ?_
    exact W.iret (v := 0) hx hb hr (fun t ht hW => ⟨⟨0, (), rfl, rfl, by rw [ht]; exact hP, va_K.moved hW.alike hK, hD⟩, hS.F ht⟩) hS.2.2 dX0_valueHigh_8
set_option maxHeartbeats 4000000 in
set_option maxRecDepth 100000 in
theorem c_X0_payload (l : Launch) (dC : Nat → ClassId) (dI : Nat → Nat → Nat) (tk tw : Nat) (h a b : Nat) (cB cJ : ClassId) (sz : Nat) (f : Nat → Int32) (g : Nat → Int64) (zs : Int32) (zc : Int32) (zo : Int32) (a9 v9 : Nat) (hv9 : pl (bY f) a9 = nI v9) (h9 : a9 + hd (bY f a9) + v9 ≤ 4096) (i9 : Int32) : Met l yX0_payload wsX0_payload ({ frames := 4, cells := 0, slots := 0, locals := 92 }) (va_Pc [.ref h, .int i9] (pr dC dI (t0 cB cJ) (w0 h a b cB cJ f g zs zc (nI a9) zo) sz tk tw)) (va_Qi (fun (r : Int32) (_ : Unit) => r = py f a9 i9) (fun (_ : Unit) => po dC dI (t0 cB cJ) (va_A (w0 h a b cB cJ f g zs zc (nI a9) zo) sz) (w0 h a b cB cJ f g zs zc (nI a9) zo)) (va_A (w0 h a b cB cJ f g zs zc (nI a9) zo) sz)) 0 0 (va_A (w0 h a b cB cJ f g zs zc (nI a9) zo) sz) := by
  refine Met.ofW (cc := cX0_payload) (maxL := 2) (ret := (some .int)) (by decide) rfl ?_
  intro p e s m args below meth c s₁ Bd hml hv
  obtain ⟨rfl, hsz, hP, hK, hD0, hZ⟩ := hv
  have hx := Bd.exec
  have hb := Bd.bytes
  have hr := Bd.returns
  have hts := atoms_spec (ws := wsX0_payload) Bd.pre
  have hown : s.vm.findClass RX0 = some m.cls := findClass_of_methodNamed Bd.named
  have hlocks := Bd.notSynchronized
  subst hsz
  have hD := hD0.self (sz := s.heap.size)
  generalize hAe : va_A (w0 h a b cB cJ f g zs zc (nI a9) zo) s.heap.size = A at hD hZ ⊢
  have hA : ∀ q : Nat, s.heap.size ≤ q → A q := fun q h => by rw [← hAe]; exact Or.inr h
  have hS : va_S A s.heap s.heap [] := va_S.rf
  have hP : va_P (dC, dI) vwCl (w0 h a b cB cJ f g zs zc (nI a9) zo) s.heap := hP
  have hin0 : ∀ w ∈ wsX00, w ∈ wsX0_payload := by decide +kernel
  have fl20 := hts (.fieldLink RX0 20 "MessageReader" "given" "I") (by decide +kernel)
  have hl := lv_entry ([.ref h, .int i9]) (n := 2) (Nat.le_of_ble_eq_true rfl)
  rw [lg_entry_eq]
  generalize (lg_sl ([.ref h, .int i9]) ++ List.replicate (2 - (lg_sl ([.ref h, .int i9])).length) Slot.unset).toArray = ls at hl ⊢
  have hl : lv_has ls 2 [(0, .ref h), (1, .int i9)] := hl
  refine lv_aload_n hx hb dX0_payload_0 rfl (lv_at hl 0 rfl) ?_
  refine va_get (D := (dC, dI)) (ci := 0) (v := .int (nI a9)) (C := RX0) (T := TX0) (N := 6) hx hb hts hin0 hown hK hP 0 rfl rfl 3 (by decide) fl20 (fun _ h9 => h9) rfl dX0_payload_1 ?_
  refine lv_if_lt (tgt := 23) hx hb dX0_payload_4 (by decide) (fun c_1 => ?_) (fun c_1 => ?_)
  · skip
    exact absurd c_1 (nI_pos (by omega))
  · skip
    refine lv_iload_n hx hb dX0_payload_7 rfl (lv_at hl 1 rfl) ?_
    refine lv_if_lt (tgt := 23) hx hb dX0_payload_8 (by decide) (fun c_2 => ?_) (fun c_2 => ?_)
    · skip
      refine lv_iconst (v := -1) hx hb dX0_payload_23 (by decide) ?_
      exact W.iret (v := -1) hx hb hr (fun t ht hW => ⟨⟨-1, (), rfl, (by unfold py; rw [if_pos c_2]), by rw [ht]; exact hP, va_K.moved hW.alike hK, hD⟩, hS.F ht⟩) hS.2.2 dX0_payload_24
    · skip
      refine lv_iload_n hx hb dX0_payload_11 rfl (lv_at hl 1 rfl) ?_
      refine lv_aload_n hx hb dX0_payload_12 rfl (lv_at hl 0 rfl) ?_
      refine lv_aload_n hx hb dX0_payload_13 rfl (lv_at hl 0 rfl) ?_
      refine va_get (D := (dC, dI)) (ci := 0) (v := .int (nI a9)) (C := RX0) (T := TX0) (N := 6) hx hb hts hin0 hown hK hP 0 rfl rfl 3 (by decide) fl20 (fun _ h9 => h9) rfl dX0_payload_14 ?_
      refine gvi (As := [.int (nI a9)]) (rest := [.int i9]) ⟨hx, hb, hml, hown, hts⟩ (c_X0_payloadLengthAt l dC dI tk tw h a b cB cJ _ f g zs zc (nI a9) zo a9 (by have q7 := hd_le _ (bY_lt f a9); omega)) (cwV 1 hts gX0_payload_X0_payloadLengthAt rfl rfl rfl (by decide +kernel) ⟨Nat.le_of_ble_eq_true rfl, Nat.le_of_ble_eq_true rfl⟩) hK hP hD hS hA hZ (q0 := 0) (ci := 0) rfl rfl rfl rfl hl.1 rfl (Nat.le_of_ble_eq_true rfl) dX0_payload_17 ⟨Nat.le_of_ble_eq_true rfl, Nat.le_of_ble_eq_true rfl⟩ (fun r_4 u_5 H locs hw_3 hP hD hS => ?_)
      obtain rfl : r_4 = pl (bY f) a9 := hw_3
      refine lv_icmp_lt (tgt := 25) hx hb dX0_payload_20 (by decide) (fun c_6 => ?_) (fun c_6 => ?_)
      · skip
        refine lv_aload_n hx hb dX0_payload_25 rfl (lv_at hl 0 rfl) ?_
        refine lv_aload_n hx hb dX0_payload_26 rfl (lv_at hl 0 rfl) ?_
        refine va_get (D := (dC, dI)) (ci := 0) (v := .int (nI a9)) (C := RX0) (T := TX0) (N := 6) hx hb hts hin0 hown hK hP 0 rfl rfl 3 (by decide) fl20 (fun _ h9 => h9) rfl dX0_payload_27 ?_
        refine lv_aload_n hx hb dX0_payload_30 rfl (lv_at hl 0 rfl) ?_
        refine lv_aload_n hx hb dX0_payload_31 rfl (lv_at hl 0 rfl) ?_
        refine va_get (D := (dC, dI)) (ci := 0) (v := .int (nI a9)) (C := RX0) (T := TX0) (N := 6) hx hb hts hin0 hown hK hP 0 rfl rfl 3 (by decide) fl20 (fun _ h9 => h9) rfl dX0_payload_32 ?_
        refine gvi (As := [.int (nI a9)]) (rest := [.int (nI a9), .ref h]) ⟨hx, hb, hml, hown, hts⟩ (c_X0_headLengthAt l dC dI tk tw h a b cB cJ _ f g zs zc (nI a9) zo a9 (by have q7 := hd_le _ (bY_lt f a9); omega)) (cwV 1 hts gX0_payload_X0_headLengthAt rfl rfl rfl (by decide +kernel) ⟨Nat.le_of_ble_eq_true rfl, Nat.le_of_ble_eq_true rfl⟩) hK hP hD hS hA hZ (q0 := 0) (ci := 0) rfl rfl rfl rfl hl.1 rfl (Nat.le_of_ble_eq_true rfl) dX0_payload_35 ⟨Nat.le_of_ble_eq_true rfl, Nat.le_of_ble_eq_true rfl⟩ (fun r_8 u_9 H locs hw_7 hP hD hS => ?_)
        obtain rfl : r_8 = nI (hd (bY f a9)) := hw_7
        refine lv_iadd hx hb dX0_payload_38 ?_
        refine lv_iload_n hx hb dX0_payload_39 rfl (lv_at hl 1 rfl) ?_
        refine lv_iadd hx hb dX0_payload_40 ?_
        have q6 : i9.toNatClampNeg < v9 := by have z := c_6; rw [hv9, ← nI_self c_2] at z; exact (nI_ltI (by have := (nI_of c_2); obtain ⟨j, hj, rfl⟩ := this; rw [nI_clamp hj]; exact hj) (by omega)).mp z
        have e_12 : (((nI a9) + (nI (hd (bY f a9)))) + i9 : Int32) = nI (a9 + hd (bY f a9) + i9.toNatClampNeg) := by rw [← nI_add, ← nI_add, nI_self c_2]
        rw [e_12]
        refine gvi (As := [.int (nI (a9 + hd (bY f a9) + i9.toNatClampNeg))]) (rest := []) ⟨hx, hb, hml, hown, hts⟩ (c_X0_storedByte l dC dI tk tw h a b cB cJ _ f g zs zc (nI a9) zo (a9 + hd (bY f a9) + i9.toNatClampNeg) (by omega)) (cwV 1 hts gX0_payload_X0_storedByte rfl rfl rfl (by decide +kernel) ⟨Nat.le_of_ble_eq_true rfl, Nat.le_of_ble_eq_true rfl⟩) hK hP hD hS hA hZ (q0 := 0) (ci := 0) rfl rfl rfl rfl hl.1 rfl (Nat.le_of_ble_eq_true rfl) dX0_payload_41 ⟨Nat.le_of_ble_eq_true rfl, Nat.le_of_ble_eq_true rfl⟩ (fun r_11 u_13 H locs hw_10 hP hD hS => ?_)
        obtain rfl : r_11 = nI (bY f (a9 + hd (bY f a9) + i9.toNatClampNeg)) := hw_10
        exact W.iret (v := nI (bY f (a9 + hd (bY f a9) + i9.toNatClampNeg))) hx hb hr (fun t ht hW => ⟨⟨nI (bY f (a9 + hd (bY f a9) + i9.toNatClampNeg)), (), rfl, (by unfold py; rw [if_neg c_2, if_pos c_6]), by rw [ht]; exact hP, va_K.moved hW.alike hK, hD⟩, hS.F ht⟩) hS.2.2 dX0_payload_44
      · skip
        refine lv_iconst (v := -1) hx hb dX0_payload_23 (by decide) ?_
        exact W.iret (v := -1) hx hb hr (fun t ht hW => ⟨⟨-1, (), rfl, (by unfold py; rw [if_neg c_2, if_neg c_6]), by rw [ht]; exact hP, va_K.moved hW.alike hK, hD⟩, hS.F ht⟩) hS.2.2 dX0_payload_24
set_option maxHeartbeats 4000000 in
set_option maxRecDepth 100000 in
theorem c_X0_payload_n (l : Launch) (dC : Nat → ClassId) (dI : Nat → Nat → Nat) (tk tw : Nat) (h a b : Nat) (cB cJ : ClassId) (sz : Nat) (f : Nat → Int32) (g : Nat → Int64) (zs : Int32) (zc : Int32) (zo : Int32) (i9 : Int32) : Met l yX0_payload wsX0_payload ({ frames := 0, cells := 0, slots := 0, locals := 0 }) (va_Pc [.ref h, .int i9] (pr dC dI (t0 cB cJ) (w0 h a b cB cJ f g zs zc (-1) zo) sz tk tw)) (va_Qi (fun (r : Int32) (_ : Unit) => r = -1) (fun (_ : Unit) => po dC dI (t0 cB cJ) (va_A (w0 h a b cB cJ f g zs zc (-1) zo) sz) (w0 h a b cB cJ f g zs zc (-1) zo)) (va_A (w0 h a b cB cJ f g zs zc (-1) zo) sz)) 0 0 (va_A (w0 h a b cB cJ f g zs zc (-1) zo) sz) := by
  refine Met.ofW (cc := cX0_payload) (maxL := 2) (ret := (some .int)) (by decide) rfl ?_
  intro p e s m args below meth c s₁ Bd hml hv
  obtain ⟨rfl, hsz, hP, hK, hD0, hZ⟩ := hv
  have hx := Bd.exec
  have hb := Bd.bytes
  have hr := Bd.returns
  have hts := atoms_spec (ws := wsX0_payload) Bd.pre
  have hown : s.vm.findClass RX0 = some m.cls := findClass_of_methodNamed Bd.named
  have hlocks := Bd.notSynchronized
  subst hsz
  have hD := hD0.self (sz := s.heap.size)
  generalize hAe : va_A (w0 h a b cB cJ f g zs zc (-1) zo) s.heap.size = A at hD hZ ⊢
  have hA : ∀ q : Nat, s.heap.size ≤ q → A q := fun q h => by rw [← hAe]; exact Or.inr h
  have hS : va_S A s.heap s.heap [] := va_S.rf
  have hP : va_P (dC, dI) vwCl (w0 h a b cB cJ f g zs zc (-1) zo) s.heap := hP
  have hin0 : ∀ w ∈ wsX00, w ∈ wsX0_payload := by decide +kernel
  have fl20 := hts (.fieldLink RX0 20 "MessageReader" "given" "I") (by decide +kernel)
  have hl := lv_entry ([.ref h, .int i9]) (n := 2) (Nat.le_of_ble_eq_true rfl)
  rw [lg_entry_eq]
  generalize (lg_sl ([.ref h, .int i9]) ++ List.replicate (2 - (lg_sl ([.ref h, .int i9])).length) Slot.unset).toArray = ls at hl ⊢
  have hl : lv_has ls 2 [(0, .ref h), (1, .int i9)] := hl
  refine lv_aload_n hx hb dX0_payload_0 rfl (lv_at hl 0 rfl) ?_
  refine va_get (D := (dC, dI)) (ci := 0) (v := .int (-1)) (C := RX0) (T := TX0) (N := 6) hx hb hts hin0 hown hK hP 0 rfl rfl 3 (by decide) fl20 (fun _ h9 => h9) rfl dX0_payload_1 ?_
  refine lv_if_lt (tgt := 23) hx hb dX0_payload_4 (by decide) (fun c_1 => ?_) (fun c_1 => ?_)
  · skip
    refine lv_iconst (v := -1) hx hb dX0_payload_23 (by decide) ?_
    exact W.iret (v := -1) hx hb hr (fun t ht hW => ⟨⟨-1, (), rfl, rfl, by rw [ht]; exact hP, va_K.moved hW.alike hK, hD⟩, hS.F ht⟩) hS.2.2 dX0_payload_24
  · skip
    exact absurd (by decide) c_1
set_option maxHeartbeats 4000000 in
set_option maxRecDepth 100000 in
theorem c_X0_level (l : Launch) (dC : Nat → ClassId) (dI : Nat → Nat → Nat) (tk tw : Nat) (h a b : Nat) (cB cJ : ClassId) (sz : Nat) (f : Nat → Int32) (g : Nat → Int64) (zs : Int32) (zc : Int32) (zg : Int32) (zo : Int32)  : Met l yX0_level wsX0_level ({ frames := 0, cells := 0, slots := 0, locals := 0 }) (va_Pc [.ref h] (pr dC dI (t0 cB cJ) (w0 h a b cB cJ f g zs zc zg zo) sz tk tw)) (va_Qi (fun (r : Int32) (_ : Unit) => r = zo) (fun (_ : Unit) => po dC dI (t0 cB cJ) (va_A (w0 h a b cB cJ f g zs zc zg zo) sz) (w0 h a b cB cJ f g zs zc zg zo)) (va_A (w0 h a b cB cJ f g zs zc zg zo) sz)) 0 0 (va_A (w0 h a b cB cJ f g zs zc zg zo) sz) := by
  refine Met.ofW (cc := cX0_level) (maxL := 1) (ret := (some .int)) (by decide) rfl ?_
  intro p e s m args below meth c s₁ Bd hml hv
  obtain ⟨rfl, hsz, hP, hK, hD0, hZ⟩ := hv
  have hx := Bd.exec
  have hb := Bd.bytes
  have hr := Bd.returns
  have hts := atoms_spec (ws := wsX0_level) Bd.pre
  have hown : s.vm.findClass RX0 = some m.cls := findClass_of_methodNamed Bd.named
  have hlocks := Bd.notSynchronized
  subst hsz
  have hD := hD0.self (sz := s.heap.size)
  generalize hAe : va_A (w0 h a b cB cJ f g zs zc zg zo) s.heap.size = A at hD hZ ⊢
  have hA : ∀ q : Nat, s.heap.size ≤ q → A q := fun q h => by rw [← hAe]; exact Or.inr h
  have hS : va_S A s.heap s.heap [] := va_S.rf
  have hP : va_P (dC, dI) vwCl (w0 h a b cB cJ f g zs zc zg zo) s.heap := hP
  have hin0 : ∀ w ∈ wsX00, w ∈ wsX0_level := by decide +kernel
  have fl27 := hts (.fieldLink RX0 27 "MessageReader" "open" "I") (by decide +kernel)
  have hl := lv_entry ([.ref h]) (n := 1) (Nat.le_of_ble_eq_true rfl)
  rw [lg_entry_eq]
  generalize (lg_sl ([.ref h]) ++ List.replicate (1 - (lg_sl ([.ref h])).length) Slot.unset).toArray = ls at hl ⊢
  have hl : lv_has ls 1 [(0, .ref h)] := hl
  refine lv_aload_n hx hb dX0_level_0 rfl (lv_at hl 0 rfl) ?_
  refine va_get (D := (dC, dI)) (ci := 0) (v := .int zo) (C := RX0) (T := TX0) (N := 6) hx hb hts hin0 hown hK hP 0 rfl rfl 5 (by decide) fl27 (fun _ h9 => h9) rfl dX0_level_1 ?_
  exact W.iret (v := zo) hx hb hr (fun t ht hW => ⟨⟨zo, (), rfl, rfl, by rw [ht]; exact hP, va_K.moved hW.alike hK, hD⟩, hS.F ht⟩) hS.2.2 dX0_level_4
set_option maxHeartbeats 4000000 in
set_option maxRecDepth 100000 in
theorem c_X0_consumed (l : Launch) (dC : Nat → ClassId) (dI : Nat → Nat → Nat) (tk tw : Nat) (h a b : Nat) (cB cJ : ClassId) (sz : Nat) (f : Nat → Int32) (g : Nat → Int64) (zs : Int32) (zc : Int32) (zg : Int32) (zo : Int32)  : Met l yX0_consumed wsX0_consumed ({ frames := 0, cells := 0, slots := 0, locals := 0 }) (va_Pc [.ref h] (pr dC dI (t0 cB cJ) (w0 h a b cB cJ f g zs zc zg zo) sz tk tw)) (va_Qi (fun (r : Int32) (_ : Unit) => r = zc) (fun (_ : Unit) => po dC dI (t0 cB cJ) (va_A (w0 h a b cB cJ f g zs zc zg zo) sz) (w0 h a b cB cJ f g zs zc zg zo)) (va_A (w0 h a b cB cJ f g zs zc zg zo) sz)) 0 0 (va_A (w0 h a b cB cJ f g zs zc zg zo) sz) := by
  refine Met.ofW (cc := cX0_consumed) (maxL := 1) (ret := (some .int)) (by decide) rfl ?_
  intro p e s m args below meth c s₁ Bd hml hv
  obtain ⟨rfl, hsz, hP, hK, hD0, hZ⟩ := hv
  have hx := Bd.exec
  have hb := Bd.bytes
  have hr := Bd.returns
  have hts := atoms_spec (ws := wsX0_consumed) Bd.pre
  have hown : s.vm.findClass RX0 = some m.cls := findClass_of_methodNamed Bd.named
  have hlocks := Bd.notSynchronized
  subst hsz
  have hD := hD0.self (sz := s.heap.size)
  generalize hAe : va_A (w0 h a b cB cJ f g zs zc zg zo) s.heap.size = A at hD hZ ⊢
  have hA : ∀ q : Nat, s.heap.size ≤ q → A q := fun q h => by rw [← hAe]; exact Or.inr h
  have hS : va_S A s.heap s.heap [] := va_S.rf
  have hP : va_P (dC, dI) vwCl (w0 h a b cB cJ f g zs zc zg zo) s.heap := hP
  have hin0 : ∀ w ∈ wsX00, w ∈ wsX0_consumed := by decide +kernel
  have fl17 := hts (.fieldLink RX0 17 "MessageReader" "consumed" "I") (by decide +kernel)
  have hl := lv_entry ([.ref h]) (n := 1) (Nat.le_of_ble_eq_true rfl)
  rw [lg_entry_eq]
  generalize (lg_sl ([.ref h]) ++ List.replicate (1 - (lg_sl ([.ref h])).length) Slot.unset).toArray = ls at hl ⊢
  have hl : lv_has ls 1 [(0, .ref h)] := hl
  refine lv_aload_n hx hb dX0_consumed_0 rfl (lv_at hl 0 rfl) ?_
  refine va_get (D := (dC, dI)) (ci := 0) (v := .int zc) (C := RX0) (T := TX0) (N := 6) hx hb hts hin0 hown hK hP 0 rfl rfl 2 (by decide) fl17 (fun _ h9 => h9) rfl dX0_consumed_1 ?_
  exact W.iret (v := zc) hx hb hr (fun t ht hW => ⟨⟨zc, (), rfl, rfl, by rw [ht]; exact hP, va_K.moved hW.alike hK, hD⟩, hS.F ht⟩) hS.2.2 dX0_consumed_4
