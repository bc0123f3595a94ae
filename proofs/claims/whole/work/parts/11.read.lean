set_option maxHeartbeats 4000000 in
set_option maxRecDepth 100000 in
theorem c_X0_storedByte (l : Launch) (dC : Nat → ClassId) (dI : Nat → Nat → Nat) (tk tw : Nat) (h a b : Nat) (cB cJ : ClassId) (sz : Nat) (f : Nat → Int32) (g : Nat → Int64) (zs : Int32) (zc : Int32) (zg : Int32) (zo : Int32) (a9 : Nat) (h9 : a9 < 4096) : Met l yX0_storedByte wsX0_storedByte ({ frames := 0, cells := 0, slots := 0, locals := 0 }) (va_Pc [.ref h, .int (nI a9)] (pr dC dI (t0 cB cJ) (w0 h a b cB cJ f g zs zc zg zo) sz tk tw)) (va_Qi (fun (r : Int32) (_ : Unit) => r = nI (bY f a9)) (fun (_ : Unit) => po dC dI (t0 cB cJ) (va_A (w0 h a b cB cJ f g zs zc zg zo) sz) (w0 h a b cB cJ f g zs zc zg zo)) (va_A (w0 h a b cB cJ f g zs zc zg zo) sz)) 0 0 (va_A (w0 h a b cB cJ f g zs zc zg zo) sz) := by
  refine Met.ofW (cc := cX0_storedByte) (maxL := 2) (ret := (some .int)) (by decide) rfl ?_
  intro p e s m args below meth c s₁ Bd hml hv
  obtain ⟨rfl, hsz, hP, hK, hD0, hZ⟩ := hv
  have hx := Bd.exec
  have hb := Bd.bytes
  have hr := Bd.returns
  have hts := atoms_spec (ws := wsX0_storedByte) Bd.pre
  have hown : s.vm.findClass RX0 = some m.cls := findClass_of_methodNamed Bd.named
  have hlocks := Bd.notSynchronized
  subst hsz
  have hD := hD0.self (sz := s.heap.size)
  generalize hAe : va_A (w0 h a b cB cJ f g zs zc zg zo) s.heap.size = A at hD hZ ⊢
  have hA : ∀ q : Nat, s.heap.size ≤ q → A q := fun q h => by rw [← hAe]; exact Or.inr h
  have hS : va_S A s.heap s.heap [] := va_S.rf
  have hP : va_P (dC, dI) vwCl (w0 h a b cB cJ f g zs zc zg zo) s.heap := hP
  have hin0 : ∀ w ∈ wsX00, w ∈ wsX0_storedByte := by decide +kernel
  have fl9 := hts (.fieldLink RX0 9 "MessageReader" "store" "[B") (by decide +kernel)
  have hl := lv_entry ([.ref h, .int (nI a9)]) (n := 2) (Nat.le_of_ble_eq_true rfl)
  rw [lg_entry_eq]
  generalize (lg_sl ([.ref h, .int (nI a9)]) ++ List.replicate (2 - (lg_sl ([.ref h, .int (nI a9)])).length) Slot.unset).toArray = ls at hl ⊢
  have hl : lv_has ls 2 [(0, .ref h), (1, .int (nI a9))] := hl
  refine lv_aload_n hx hb dX0_storedByte_0 rfl (lv_at hl 0 rfl) ?_
  refine va_get (D := (dC, dI)) (ci := 0) (v := .ref a) (C := RX0) (T := TX0) (N := 6) hx hb hts hin0 hown hK hP 0 rfl rfl 0 (by decide) fl9 (fun _ h9 => h9) rfl dX0_storedByte_1 ?_
  refine lv_iload_n hx hb dX0_storedByte_4 rfl (lv_at hl 1 rfl) ?_
  refine va_bald hx hb hK hP 1 0 rfl rfl (vp_in_nI h9 (by decide)) dX0_storedByte_5 ?_
  refine lv_sipush (v := 255) hx hb dX0_storedByte_6 (by decide) ?_
  refine lv_iand hx hb dX0_storedByte_9 ?_
  exact W.iret (v := (f (nI a9).toNatClampNeg) &&& 255) hx hb hr (fun t ht hW => ⟨⟨(f (nI a9).toNatClampNeg) &&& 255, (), rfl, (by rw [nI_clamp (by omega)]; exact bY_and f a9), by rw [ht]; exact hP, va_K.moved hW.alike hK, hD⟩, hS.F ht⟩) hS.2.2 dX0_storedByte_10
set_option maxHeartbeats 4000000 in
set_option maxRecDepth 100000 in
theorem c_X0_kindAt (l : Launch) (dC : Nat → ClassId) (dI : Nat → Nat → Nat) (tk tw : Nat) (h a b : Nat) (cB cJ : ClassId) (sz : Nat) (f : Nat → Int32) (g : Nat → Int64) (zs : Int32) (zc : Int32) (zg : Int32) (zo : Int32) (a9 : Nat) (h9 : a9 < 4096) : Met l yX0_kindAt wsX0_kindAt ({ frames := 1, cells := 0, slots := 0, locals := 21 }) (va_Pc [.ref h, .int (nI a9)] (pr dC dI (t0 cB cJ) (w0 h a b cB cJ f g zs zc zg zo) sz tk tw)) (va_Qi (fun (r : Int32) (_ : Unit) => r = nI (kd (bY f a9))) (fun (_ : Unit) => po dC dI (t0 cB cJ) (va_A (w0 h a b cB cJ f g zs zc zg zo) sz) (w0 h a b cB cJ f g zs zc zg zo)) (va_A (w0 h a b cB cJ f g zs zc zg zo) sz)) 0 0 (va_A (w0 h a b cB cJ f g zs zc zg zo) sz) := by
  refine Met.ofW (cc := cX0_kindAt) (maxL := 2) (ret := (some .int)) (by decide) rfl ?_
  intro p e s m args below meth c s₁ Bd hml hv
  obtain ⟨rfl, hsz, hP, hK, hD0, hZ⟩ := hv
  have hx := Bd.exec
  have hb := Bd.bytes
  have hr := Bd.returns
  have hts := atoms_spec (ws := wsX0_kindAt) Bd.pre
  have hown : s.vm.findClass RX0 = some m.cls := findClass_of_methodNamed Bd.named
  have hlocks := Bd.notSynchronized
  subst hsz
  have hD := hD0.self (sz := s.heap.size)
  generalize hAe : va_A (w0 h a b cB cJ f g zs zc zg zo) s.heap.size = A at hD hZ ⊢
  have hA : ∀ q : Nat, s.heap.size ≤ q → A q := fun q h => by rw [← hAe]; exact Or.inr h
  have hS : va_S A s.heap s.heap [] := va_S.rf
  have hP : va_P (dC, dI) vwCl (w0 h a b cB cJ f g zs zc zg zo) s.heap := hP
  have hl := lv_entry ([.ref h, .int (nI a9)]) (n := 2) (Nat.le_of_ble_eq_true rfl)
  rw [lg_entry_eq]
  generalize (lg_sl ([.ref h, .int (nI a9)]) ++ List.replicate (2 - (lg_sl ([.ref h, .int (nI a9)])).length) Slot.unset).toArray = ls at hl ⊢
  have hl : lv_has ls 2 [(0, .ref h), (1, .int (nI a9))] := hl
  refine lv_aload_n hx hb dX0_kindAt_0 rfl (lv_at hl 0 rfl) ?_
  refine lv_iload_n hx hb dX0_kindAt_1 rfl (lv_at hl 1 rfl) ?_
  refine gvi (As := [.int (nI a9)]) (rest := []) ⟨hx, hb, hml, hown, hts⟩ (c_X0_storedByte l dC dI tk tw h a b cB cJ _ f g zs zc zg zo a9 h9) (cwV 1 hts gX0_kindAt_X0_storedByte rfl rfl rfl (by decide +kernel) ⟨Nat.le_of_ble_eq_true rfl, Nat.le_of_ble_eq_true rfl⟩) hK hP hD hS hA hZ (q0 := 0) (ci := 0) rfl rfl rfl rfl hl.1 rfl (Nat.le_of_ble_eq_true rfl) dX0_kindAt_2 ⟨Nat.le_of_ble_eq_true rfl, Nat.le_of_ble_eq_true rfl⟩ (fun r_2 u_3 H locs hw_1 hP hD hS => ?_)
  obtain rfl : r_2 = nI (bY f a9) := hw_1
  refine gsi (As := [.int (nI (bY f a9))]) (rest := []) ⟨hx, hb, hml, hown, hts⟩ (c_X0_kindOf l dC dI tk tw _ (bY f a9) (bY_lt f a9)) (va_cwS 1 hts gX0_kindAt_X0_kindOf rfl rfl rfl (by decide +kernel) ⟨Nat.le_of_ble_eq_true rfl, Nat.le_of_ble_eq_true rfl⟩) hP hS hA hZ rfl hl.1 rfl (Nat.le_of_ble_eq_true rfl) dX0_kindAt_5 ⟨Nat.le_of_ble_eq_true rfl, Nat.le_of_ble_eq_true rfl⟩ (fun r_5 H locs hw_4 hP hS => ?_)
  obtain rfl : r_5 = nI (kd (bY f a9)) := hw_4
  exact W.iret (v := nI (kd (bY f a9))) hx hb hr (fun t ht hW => ⟨⟨nI (kd (bY f a9)), (), rfl, rfl, by rw [ht]; exact hP, va_K.moved hW.alike hK, hD⟩, hS.F ht⟩) hS.2.2 dX0_kindAt_8
set_option maxHeartbeats 4000000 in
set_option maxRecDepth 100000 in
theorem c_X0_headLengthAt (l : Launch) (dC : Nat → ClassId) (dI : Nat → Nat → Nat) (tk tw : Nat) (h a b : Nat) (cB cJ : ClassId) (sz : Nat) (f : Nat → Int32) (g : Nat → Int64) (zs : Int32) (zc : Int32) (zg : Int32) (zo : Int32) (a9 : Nat) (h9 : a9 < 4096) : Met l yX0_headLengthAt wsX0_headLengthAt ({ frames := 3, cells := 0, slots := 0, locals := 60 }) (va_Pc [.ref h, .int (nI a9)] (pr dC dI (t0 cB cJ) (w0 h a b cB cJ f g zs zc zg zo) sz tk tw)) (va_Qi (fun (r : Int32) (_ : Unit) => r = nI (hd (bY f a9))) (fun (_ : Unit) => po dC dI (t0 cB cJ) (va_A (w0 h a b cB cJ f g zs zc zg zo) sz) (w0 h a b cB cJ f g zs zc zg zo)) (va_A (w0 h a b cB cJ f g zs zc zg zo) sz)) 0 0 (va_A (w0 h a b cB cJ f g zs zc zg zo) sz) := by
  refine Met.ofW (cc := cX0_headLengthAt) (maxL := 2) (ret := (some .int)) (by decide) rfl ?_
  intro p e s m args below meth c s₁ Bd hml hv
  obtain ⟨rfl, hsz, hP, hK, hD0, hZ⟩ := hv
  have hx := Bd.exec
  have hb := Bd.bytes
  have hr := Bd.returns
  have hts := atoms_spec (ws := wsX0_headLengthAt) Bd.pre
  have hown : s.vm.findClass RX0 = some m.cls := findClass_of_methodNamed Bd.named
  have hlocks := Bd.notSynchronized
  subst hsz
  have hD := hD0.self (sz := s.heap.size)
  generalize hAe : va_A (w0 h a b cB cJ f g zs zc zg zo) s.heap.size = A at hD hZ ⊢
  have hA : ∀ q : Nat, s.heap.size ≤ q → A q := fun q h => by rw [← hAe]; exact Or.inr h
  have hS : va_S A s.heap s.heap [] := va_S.rf
  have hP : va_P (dC, dI) vwCl (w0 h a b cB cJ f g zs zc zg zo) s.heap := hP
  have hl := lv_entry ([.ref h, .int (nI a9)]) (n := 2) (Nat.le_of_ble_eq_true rfl)
  rw [lg_entry_eq]
  generalize (lg_sl ([.ref h, .int (nI a9)]) ++ List.replicate (2 - (lg_sl ([.ref h, .int (nI a9)])).length) Slot.unset).toArray = ls at hl ⊢
  have hl : lv_has ls 2 [(0, .ref h), (1, .int (nI a9))] := hl
  refine lv_aload_n hx hb dX0_headLengthAt_0 rfl (lv_at hl 0 rfl) ?_
  refine lv_iload_n hx hb dX0_headLengthAt_1 rfl (lv_at hl 1 rfl) ?_
  refine gvi (As := [.int (nI a9)]) (rest := []) ⟨hx, hb, hml, hown, hts⟩ (c_X0_storedByte l dC dI tk tw h a b cB cJ _ f g zs zc zg zo a9 h9) (cwV 1 hts gX0_headLengthAt_X0_storedByte rfl rfl rfl (by decide +kernel) ⟨Nat.le_of_ble_eq_true rfl, Nat.le_of_ble_eq_true rfl⟩) hK hP hD hS hA hZ (q0 := 0) (ci := 0) rfl rfl rfl rfl hl.1 rfl (Nat.le_of_ble_eq_true rfl) dX0_headLengthAt_2 ⟨Nat.le_of_ble_eq_true rfl, Nat.le_of_ble_eq_true rfl⟩ (fun r_2 u_3 H locs hw_1 hP hD hS => ?_)
  obtain rfl : r_2 = nI (bY f a9) := hw_1
  refine gsi (As := [.int (nI (bY f a9))]) (rest := []) ⟨hx, hb, hml, hown, hts⟩ (c_X0_headLength l dC dI tk tw _ (bY f a9) (bY_lt f a9)) (va_cwS 1 hts gX0_headLengthAt_X0_headLength rfl rfl rfl (by decide +kernel) ⟨Nat.le_of_ble_eq_true rfl, Nat.le_of_ble_eq_true rfl⟩) hP hS hA hZ rfl hl.1 rfl (Nat.le_of_ble_eq_true rfl) dX0_headLengthAt_5 ⟨Nat.le_of_ble_eq_true rfl, Nat.le_of_ble_eq_true rfl⟩ (fun r_5 H locs hw_4 hP hS => ?_)
  obtain rfl : r_5 = nI (hd (bY f a9)) := hw_4
  exact W.iret (v := nI (hd (bY f a9))) hx hb hr (fun t ht hW => ⟨⟨nI (hd (bY f a9)), (), rfl, rfl, by rw [ht]; exact hP, va_K.moved hW.alike hK, hD⟩, hS.F ht⟩) hS.2.2 dX0_headLengthAt_8
set_option maxHeartbeats 4000000 in
set_option maxRecDepth 100000 in
theorem c_X0_readNumber (l : Launch) (dC : Nat → ClassId) (dI : Nat → Nat → Nat) (tk tw : Nat) (h a b : Nat) (cB cJ : ClassId) (sz : Nat) (f : Nat → Int32) (g : Nat → Int64) (zs : Int32) (zc : Int32) (zg : Int32) (zo : Int32) (a9 k9 : Nat) (h9 : a9 + k9 ≤ 4096) : Met l yX0_readNumber wsX0_readNumber ({ frames := 1, cells := 0, slots := 0, locals := 21 }) (va_Pc [.ref h, .int (nI a9), .int (nI k9)] (pr dC dI (t0 cB cJ) (w0 h a b cB cJ f g zs zc zg zo) sz tk tw)) (va_Ql (fun (r : Int64) (_ : Unit) => r = rd (bY f) a9 k9) (fun (_ : Unit) => po dC dI (t0 cB cJ) (va_A (w0 h a b cB cJ f g zs zc zg zo) sz) (w0 h a b cB cJ f g zs zc zg zo)) (va_A (w0 h a b cB cJ f g zs zc zg zo) sz)) 0 0 (va_A (w0 h a b cB cJ f g zs zc zg zo) sz) := by
  refine Met.ofW (cc := cX0_readNumber) (maxL := 6) (ret := (some .long)) (by decide) rfl ?_
  intro p e s m args below meth c s₁ Bd hml hv
  obtain ⟨rfl, hsz, hP, hK, hD0, hZ⟩ := hv
  have hx := Bd.exec
  have hb := Bd.bytes
  have hr := Bd.returns
  have hts := atoms_spec (ws := wsX0_readNumber) Bd.pre
  have hown : s.vm.findClass RX0 = some m.cls := findClass_of_methodNamed Bd.named
  have hlocks := Bd.notSynchronized
  subst hsz
  have hD := hD0.self (sz := s.heap.size)
  generalize hAe : va_A (w0 h a b cB cJ f g zs zc zg zo) s.heap.size = A at hD hZ ⊢
  have hA : ∀ q : Nat, s.heap.size ≤ q → A q := fun q h => by rw [← hAe]; exact Or.inr h
  have hS : va_S A s.heap s.heap [] := va_S.rf
  have hP : va_P (dC, dI) vwCl (w0 h a b cB cJ f g zs zc zg zo) s.heap := hP
  have hl := lv_entry ([.ref h, .int (nI a9), .int (nI k9)]) (n := 6) (Nat.le_of_ble_eq_true rfl)
  rw [lg_entry_eq]
  generalize (lg_sl ([.ref h, .int (nI a9), .int (nI k9)]) ++ List.replicate (6 - (lg_sl ([.ref h, .int (nI a9), .int (nI k9)])).length) Slot.unset).toArray = ls at hl ⊢
  have hl : lv_has ls 6 [(0, .ref h), (1, .int (nI a9)), (2, .int (nI k9))] := hl
  refine lv_lconst (v := 0) hx hb dX0_readNumber_0 (by decide) ?_
  refine lv_lstore_n (lv' := [(3, .long 0), (0, .ref h), (1, .int (nI a9)), (2, .int (nI k9))]) hx hb dX0_readNumber_1 rfl hl (by decide) rfl (fun ls hl => ?_)
  refine lv_iconst (v := 0) hx hb dX0_readNumber_2 (by decide) ?_
  refine lv_istore (lv' := [(5, .int 0), (3, .long 0), (0, .ref h), (1, .int (nI a9)), (2, .int (nI k9))]) hx hb dX0_readNumber_3 hl (by decide) rfl (fun ls hl => ?_)
  have loop5 : ∀ (fz : Nat) (i : Nat), i ≤ k9 → k9 - i < fz → ∀ (H : Heap) (locs : List Loc), va_P (dC, dI) vwCl (w0 h a b cB cJ f g zs zc zg zo) H → va_D A (w0 h a b cB cJ f g zs zc zg zo) → va_S A s.heap H locs → ∀ ls : Array Slot, lv_has ls 6 [(0, .ref h), (1, .int (nI a9)), (2, .int (nI k9)), (3, .long (rd (bY f) a9 i)), (5, .int (nI i))] → W p l e (headSpec wsX0_readNumber ({ frames := 1, cells := 0, slots := 0, locals := 21 })).room s m ([.ref h, .int (nI a9), .int (nI k9)]).toArray below meth c H locs 0 0 (MQ below (va_Ql (fun (r : Int64) (_ : Unit) => r = rd (bY f) a9 k9) (fun (_ : Unit) => po dC dI (t0 cB cJ) A (w0 h a b cB cJ f g zs zc zg zo)) A) ([.ref h, .int (nI a9), .int (nI k9)]).toArray s 0 0 A) (F0 m 5 ls []) := by
    intro fz
    induction fz with
    | zero =>
      intro i hi hn H locs hP hD hS ls hl
      exact absurd hn (Nat.not_lt_zero _)
    | succ fz ih =>
      intro i hi hn H locs hP hD hS ls hl
      refine lv_iload hx hb dX0_readNumber_5 (lv_at hl 4 rfl) ?_
      refine lv_iload_n hx hb dX0_readNumber_7 rfl (lv_at hl 2 rfl) ?_
      refine lv_icmp_ge (tgt := 32) hx hb dX0_readNumber_8 (by decide) (fun c_1 => ?_) (fun c_1 => ?_)
      · skip
        refine lv_lload_n hx hb dX0_readNumber_32 rfl (lv_at hl 3 rfl) ?_
        exact W.lret (v := rd (bY f) a9 i) hx hb hr (fun t ht hW => ⟨⟨rd (bY f) a9 i, (), rfl, (by have q := (nI_leI (a := k9) (b := i) (by omega) (by omega)).mp c_1; have q2 : i = k9 := (by omega); rw [q2]), by rw [ht]; exact hP, va_K.moved hW.alike hK, hD⟩, hS.F ht⟩) hS.2.2 dX0_readNumber_33
      · skip
        have hik : i < k9 := by have q := (not_congr (nI_leI (a := k9) (b := i) (by omega) (by omega))).mp c_1; omega
        refine lv_lload_n hx hb dX0_readNumber_11 rfl (lv_at hl 3 rfl) ?_
        refine lv_bipush (v := 8) hx hb dX0_readNumber_12 (by decide) ?_
        refine lv_lshl hx hb dX0_readNumber_14 rfl ?_
        refine lv_aload_n hx hb dX0_readNumber_15 rfl (lv_at hl 0 rfl) ?_
        refine lv_iload_n hx hb dX0_readNumber_16 rfl (lv_at hl 1 rfl) ?_
        refine lv_iload hx hb dX0_readNumber_17 (lv_at hl 4 rfl) ?_
        refine lv_iadd hx hb dX0_readNumber_19 ?_
        have e_4 : ((nI a9) + (nI i) : Int32) = nI (a9 + i) := nI_add a9 i
        rw [e_4]
        refine gvi (As := [.int (nI (a9 + i))]) (rest := [.long ((rd (bY f) a9 i) <<< ((8 : Int32).toInt64 &&& 63))]) ⟨hx, hb, hml, hown, hts⟩ (c_X0_storedByte l dC dI tk tw h a b cB cJ _ f g zs zc zg zo (a9 + i) (by omega)) (cwV 1 hts gX0_readNumber_X0_storedByte rfl rfl rfl (by decide +kernel) ⟨Nat.le_of_ble_eq_true rfl, Nat.le_of_ble_eq_true rfl⟩) hK hP hD hS hA hZ (q0 := 0) (ci := 0) rfl rfl rfl rfl hl.1 rfl (Nat.le_of_ble_eq_true rfl) dX0_readNumber_20 ⟨Nat.le_of_ble_eq_true rfl, Nat.le_of_ble_eq_true rfl⟩ (fun r_3 u_5 H locs hw_2 hP hD hS => ?_)
        obtain rfl : r_3 = nI (bY f (a9 + i)) := hw_2
        refine lv_i2l hx hb dX0_readNumber_23 rfl ?_
        refine lv_lor hx hb dX0_readNumber_24 ?_
        refine lv_lstore_n (lv' := [(3, .long (((rd (bY f) a9 i) <<< ((8 : Int32).toInt64 &&& 63)) ||| ((nI (bY f (a9 + i))).toInt64))), (0, .ref h), (1, .int (nI a9)), (2, .int (nI k9)), (5, .int (nI i))]) hx hb dX0_readNumber_25 rfl hl (by decide) rfl (fun ls hl => ?_)
        refine lv_iinc (v := nI (i + 1)) (lv' := [(5, .int (nI (i + 1))), (3, .long (((rd (bY f) a9 i) <<< ((8 : Int32).toInt64 &&& 63)) ||| ((nI (bY f (a9 + i))).toInt64))), (0, .ref h), (1, .int (nI a9)), (2, .int (nI k9))]) hx hb dX0_readNumber_26 hl (k := 4) rfl (nI_1 i) (by decide) rfl (fun ls hl => ?_)
        refine lv_goto (tgt := 5) hx hb dX0_readNumber_29 (by decide) ?_
        exact ih (i + 1) (by omega) (by omega) _ _ hP hD hS ls (lv_sub hl [2, 3, 4, 1, 0] rfl)
  exact loop5 (k9 + 1) 0 (Nat.zero_le _) (by omega) _ _ hP hD hS ls (lv_sub hl [2, 3, 4, 1, 0] rfl)
set_option maxHeartbeats 4000000 in
set_option maxRecDepth 100000 in
theorem c_X0_numberAt (l : Launch) (dC : Nat → ClassId) (dI : Nat → Nat → Nat) (tk tw : Nat) (h a b : Nat) (cB cJ : ClassId) (sz : Nat) (f : Nat → Int32) (g : Nat → Int64) (zs : Int32) (zc : Int32) (zg : Int32) (zo : Int32) (a9 : Nat) (h9 : a9 + 1 + wd (bY f a9) ≤ 4096) : Met l yX0_numberAt wsX0_numberAt ({ frames := 2, cells := 0, slots := 0, locals := 46 }) (va_Pc [.ref h, .int (nI a9)] (pr dC dI (t0 cB cJ) (w0 h a b cB cJ f g zs zc zg zo) sz tk tw)) (va_Ql (fun (r : Int64) (_ : Unit) => r = nv (bY f) a9) (fun (_ : Unit) => po dC dI (t0 cB cJ) (va_A (w0 h a b cB cJ f g zs zc zg zo) sz) (w0 h a b cB cJ f g zs zc zg zo)) (va_A (w0 h a b cB cJ f g zs zc zg zo) sz)) 0 0 (va_A (w0 h a b cB cJ f g zs zc zg zo) sz) := by
  refine Met.ofW (cc := cX0_numberAt) (maxL := 6) (ret := (some .long)) (by decide) rfl ?_
  intro p e s m args below meth c s₁ Bd hml hv
  obtain ⟨rfl, hsz, hP, hK, hD0, hZ⟩ := hv
  have hx := Bd.exec
  have hb := Bd.bytes
  have hr := Bd.returns
  have hts := atoms_spec (ws := wsX0_numberAt) Bd.pre
  have hown : s.vm.findClass RX0 = some m.cls := findClass_of_methodNamed Bd.named
  have hlocks := Bd.notSynchronized
  subst hsz
  have hD := hD0.self (sz := s.heap.size)
  generalize hAe : va_A (w0 h a b cB cJ f g zs zc zg zo) s.heap.size = A at hD hZ ⊢
  have hA : ∀ q : Nat, s.heap.size ≤ q → A q := fun q h => by rw [← hAe]; exact Or.inr h
  have hS : va_S A s.heap s.heap [] := va_S.rf
  have hP : va_P (dC, dI) vwCl (w0 h a b cB cJ f g zs zc zg zo) s.heap := hP
  have hl := lv_entry ([.ref h, .int (nI a9)]) (n := 6) (Nat.le_of_ble_eq_true rfl)
  rw [lg_entry_eq]
  generalize (lg_sl ([.ref h, .int (nI a9)]) ++ List.replicate (6 - (lg_sl ([.ref h, .int (nI a9)])).length) Slot.unset).toArray = ls at hl ⊢
  have hl : lv_has ls 6 [(0, .ref h), (1, .int (nI a9))] := hl
  refine lv_aload_n hx hb dX0_numberAt_0 rfl (lv_at hl 0 rfl) ?_
  refine lv_iload_n hx hb dX0_numberAt_1 rfl (lv_at hl 1 rfl) ?_
  refine gvi (As := [.int (nI a9)]) (rest := []) ⟨hx, hb, hml, hown, hts⟩ (c_X0_storedByte l dC dI tk tw h a b cB cJ _ f g zs zc zg zo a9 (by omega)) (cwV 1 hts gX0_numberAt_X0_storedByte rfl rfl rfl (by decide +kernel) ⟨Nat.le_of_ble_eq_true rfl, Nat.le_of_ble_eq_true rfl⟩) hK hP hD hS hA hZ (q0 := 0) (ci := 0) rfl rfl rfl rfl hl.1 rfl (Nat.le_of_ble_eq_true rfl) dX0_numberAt_2 ⟨Nat.le_of_ble_eq_true rfl, Nat.le_of_ble_eq_true rfl⟩ (fun r_2 u_3 H locs hw_1 hP hD hS => ?_)
  obtain rfl : r_2 = nI (bY f a9) := hw_1
  refine lv_istore_n (lv' := [(2, .int (nI (bY f a9))), (0, .ref h), (1, .int (nI a9))]) hx hb dX0_numberAt_5 rfl hl (by decide) rfl (fun ls hl => ?_)
  refine lv_iload_n hx hb dX0_numberAt_6 rfl (lv_at hl 0 rfl) ?_
  refine gsi (As := [.int (nI (bY f a9))]) (rest := []) ⟨hx, hb, hml, hown, hts⟩ (c_X0_width l dC dI tk tw _ (bY f a9) (bY_lt f a9)) (va_cwS 1 hts gX0_numberAt_X0_width rfl rfl rfl (by decide +kernel) ⟨Nat.le_of_ble_eq_true rfl, Nat.le_of_ble_eq_true rfl⟩) hP hS hA hZ rfl hl.1 rfl (Nat.le_of_ble_eq_true rfl) dX0_numberAt_7 ⟨Nat.le_of_ble_eq_true rfl, Nat.le_of_ble_eq_true rfl⟩ (fun r_5 H locs hw_4 hP hS => ?_)
  obtain rfl : r_5 = nI (wd (bY f a9)) := hw_4
  refine lv_istore_n (lv' := [(3, .int (nI (wd (bY f a9)))), (2, .int (nI (bY f a9))), (0, .ref h), (1, .int (nI a9))]) hx hb dX0_numberAt_10 rfl hl (by decide) rfl (fun ls hl => ?_)
  refine lv_iload_n hx hb dX0_numberAt_11 rfl (lv_at hl 0 rfl) ?_
  refine lv_if_ne (tgt := 20) hx hb dX0_numberAt_12 (by decide) (fun c_6 => ?_) (fun c_6 => ?_)
  · skip
    refine lv_aload_n hx hb dX0_numberAt_20 rfl (lv_at hl 2 rfl) ?_
    refine lv_iload_n hx hb dX0_numberAt_21 rfl (lv_at hl 3 rfl) ?_
    refine lv_iconst (v := 1) hx hb dX0_numberAt_22 (by decide) ?_
    refine lv_iadd hx hb dX0_numberAt_23 ?_
    refine lv_iload_n hx hb dX0_numberAt_24 rfl (lv_at hl 0 rfl) ?_
    have e_9 : ((nI a9) + 1 : Int32) = nI (a9 + 1) := nI_1 a9
    rw [e_9]
    refine gvl (As := [.int (nI (a9 + 1)), .int (nI (wd (bY f a9)))]) (rest := []) ⟨hx, hb, hml, hown, hts⟩ (c_X0_readNumber l dC dI tk tw h a b cB cJ _ f g zs zc zg zo (a9 + 1) (wd (bY f a9)) (by omega)) (cwV 2 hts gX0_numberAt_X0_readNumber rfl rfl rfl (by decide +kernel) ⟨Nat.le_of_ble_eq_true rfl, Nat.le_of_ble_eq_true rfl⟩) hK hP hD hS hA hZ (q0 := 0) (ci := 0) rfl rfl rfl rfl hl.1 rfl (Nat.le_of_ble_eq_true rfl) dX0_numberAt_25 ⟨Nat.le_of_ble_eq_true rfl, Nat.le_of_ble_eq_true rfl⟩ (fun r_8 u_10 H locs hw_7 hP hD hS => ?_)
    obtain rfl : r_8 = rd (bY f) (a9 + 1) (wd (bY f a9)) := hw_7
    refine lv_lstore (lv' := [(4, .long (rd (bY f) (a9 + 1) (wd (bY f a9)))), (3, .int (nI (wd (bY f a9)))), (2, .int (nI (bY f a9))), (0, .ref h), (1, .int (nI a9))]) hx hb dX0_numberAt_28 hl (by decide) rfl (fun ls hl => ?_)
    refine lv_iload_n hx hb dX0_numberAt_30 rfl (lv_at hl 2 rfl) ?_
    refine gsi (As := [.int (nI (bY f a9))]) (rest := []) ⟨hx, hb, hml, hown, hts⟩ (c_X0_kindOf l dC dI tk tw _ (bY f a9) (bY_lt f a9)) (va_cwS 1 hts gX0_numberAt_X0_kindOf rfl rfl rfl (by decide +kernel) ⟨Nat.le_of_ble_eq_true rfl, Nat.le_of_ble_eq_true rfl⟩) hP hS hA hZ rfl hl.1 rfl (Nat.le_of_ble_eq_true rfl) dX0_numberAt_31 ⟨Nat.le_of_ble_eq_true rfl, Nat.le_of_ble_eq_true rfl⟩ (fun r_12 H locs hw_11 hP hS => ?_)
    obtain rfl : r_12 = nI (kd (bY f a9)) := hw_11
    refine lv_iconst (v := 5) hx hb dX0_numberAt_34 (by decide) ?_
    refine lv_icmp_ne (tgt := 47) hx hb dX0_numberAt_35 (by decide) (fun c_13 => ?_) (fun c_13 => ?_)
    · skip
      refine lv_lload hx hb dX0_numberAt_47 (lv_at hl 0 rfl) ?_
      exact W.lret (v := rd (bY f) (a9 + 1) (wd (bY f a9))) hx hb hr (fun t ht hW => ⟨⟨rd (bY f) (a9 + 1) (wd (bY f a9)), (), rfl, (by have q9 := nI_z (k := wd (bY f a9)) (by have := wd_le _ (bY_lt f a9); omega); have q8 := nI_e12 (kd (bY f a9)) (kd_le _ (bY_lt f a9)) 5 (by decide); unfold nv; rw [if_neg (fun z => c_6 (q9.mpr z))]; rw [if_neg (fun z => c_13 (q8.mpr z))]), by rw [ht]; exact hP, va_K.moved hW.alike hK, hD⟩, hS.F ht⟩) hS.2.2 dX0_numberAt_49
    · skip
      refine lv_lload hx hb dX0_numberAt_38 (lv_at hl 0 rfl) ?_
      refine lv_iload_n hx hb dX0_numberAt_40 rfl (lv_at hl 1 rfl) ?_
      refine gsl (As := [.long (rd (bY f) (a9 + 1) (wd (bY f a9))), .int (nI (wd (bY f a9)))]) (rest := []) ⟨hx, hb, hml, hown, hts⟩ (c_X0_withSign l dC dI tk tw _ (rd (bY f) (a9 + 1) (wd (bY f a9))) (wd (bY f a9))) (va_cwS 2 hts gX0_numberAt_X0_withSign rfl rfl rfl (by decide +kernel) ⟨Nat.le_of_ble_eq_true rfl, Nat.le_of_ble_eq_true rfl⟩) hP hS hA hZ rfl hl.1 rfl (Nat.le_of_ble_eq_true rfl) dX0_numberAt_41 ⟨Nat.le_of_ble_eq_true rfl, Nat.le_of_ble_eq_true rfl⟩ (fun r_15 H locs hw_14 hP hS => ?_)
      obtain rfl : r_15 = sg (rd (bY f) (a9 + 1) (wd (bY f a9))) (wd (bY f a9)) := hw_14
      refine lv_goto (tgt := 49) hx hb dX0_numberAt_44 (by decide) ?_
      exact W.lret (v := sg (rd (bY f) (a9 + 1) (wd (bY f a9))) (wd (bY f a9))) hx hb hr (fun t ht hW => ⟨⟨sg (rd (bY f) (a9 + 1) (wd (bY f a9))) (wd (bY f a9)), (), rfl, (by have q9 := nI_z (k := wd (bY f a9)) (by have := wd_le _ (bY_lt f a9); omega); have q8 := nI_e12 (kd (bY f a9)) (kd_le _ (bY_lt f a9)) 5 (by decide); unfold nv; rw [if_neg (fun z => c_6 (q9.mpr z))]; rw [if_pos (q8.mp c_13)]), by rw [ht]; exact hP, va_K.moved hW.alike hK, hD⟩, hS.F ht⟩) hS.2.2 dX0_numberAt_49
  · skip
    refine lv_iload_n hx hb dX0_numberAt_15 rfl (lv_at hl 1 rfl) ?_
    refine gsl (As := [.int (nI (bY f a9))]) (rest := []) ⟨hx, hb, hml, hown, hts⟩ (c_X0_numberInside l dC dI tk tw _ (bY f a9) (bY_lt f a9)) (va_cwS 1 hts gX0_numberAt_X0_numberInside rfl rfl rfl (by decide +kernel) ⟨Nat.le_of_ble_eq_true rfl, Nat.le_of_ble_eq_true rfl⟩) hP hS hA hZ rfl hl.1 rfl (Nat.le_of_ble_eq_true rfl) dX0_numberAt_16 ⟨Nat.le_of_ble_eq_true rfl, Nat.le_of_ble_eq_true rfl⟩ (fun r_17 H locs hw_16 hP hS => ?_)
    obtain rfl : r_17 = sI (bY f a9) := hw_16
    exact W.lret (v := sI (bY f a9)) hx hb hr (fun t ht hW => ⟨⟨sI (bY f a9), (), rfl, (by have q9 := nI_z (k := wd (bY f a9)) (by have := wd_le _ (bY_lt f a9); omega); unfold nv; rw [if_pos (q9.mp c_6), sI_ow _ (bY_lt f a9) (q9.mp c_6)]), by rw [ht]; exact hP, va_K.moved hW.alike hK, hD⟩, hS.F ht⟩) hS.2.2 dX0_numberAt_19
