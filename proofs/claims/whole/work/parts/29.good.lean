set_option maxHeartbeats 4000000 in
set_option maxRecDepth 100000 in
theorem c_X0_feed (l : Launch) (dC : Nat → ClassId) (dI : Nat → Nat → Nat) (tk tw : Nat) (h a b : Nat) (cB cJ : ClassId) (sz : Nat) (f : Nat → Int32) (g : Nat → Int64) (zc : Int32) (zg : Int32) (zo : Int32) (n8 : Nat) (hn8 : n8 < 4096) (v9 : Nat) (hv9 : v9 < 256) : Met l yX0_feed wsX0_feed ({ frames := 1, cells := 0, slots := 0, locals := 24 }) (va_Pc [.ref h, .int (nI v9)] (pr dC dI (t0 cB cJ) (w0 h a b cB cJ f g (nI n8) zc zg zo) sz tk tw)) (va_Qi (fun (r : Int32) (_ : Unit) => r = nI (n8 + 1)) (fun (_ : Unit) => po dC dI (t0 cB cJ) (va_A (w0 h a b cB cJ f g (nI n8) zc zg zo) sz) (w0 h a b cB cJ (apR f n8 (nI v9).toInt64 1) g (nI (n8 + 1)) zc zg zo)) (va_A (w0 h a b cB cJ f g (nI n8) zc zg zo) sz)) 0 0 (va_A (w0 h a b cB cJ f g (nI n8) zc zg zo) sz) := by
  refine Met.ofW (cc := cX0_feed) (maxL := 2) (ret := (some .int)) (by decide) rfl ?_
  intro p e s m args below meth c s₁ Bd hml hv
  obtain ⟨rfl, hsz, hP, hK, hD0, hZ⟩ := hv
  have hx := Bd.exec
  have hb := Bd.bytes
  have hr := Bd.returns
  have hts := atoms_spec (ws := wsX0_feed) Bd.pre
  have hown : s.vm.findClass RX0 = some m.cls := findClass_of_methodNamed Bd.named
  have hlocks := Bd.notSynchronized
  subst hsz
  have hD := hD0.self (sz := s.heap.size)
  generalize hAe : va_A (w0 h a b cB cJ f g (nI n8) zc zg zo) s.heap.size = A at hD hZ ⊢
  have hA : ∀ q : Nat, s.heap.size ≤ q → A q := fun q h => by rw [← hAe]; exact Or.inr h
  have hS : va_S A s.heap s.heap [] := va_S.rf
  have hP : va_P (dC, dI) vwCl (w0 h a b cB cJ f g (nI n8) zc zg zo) s.heap := hP
  have hin0 : ∀ w ∈ wsX00, w ∈ wsX0_feed := by decide +kernel
  have fl13 := hts (.fieldLink RX0 13 "MessageReader" "size" "I") (by decide +kernel)
  have hl := lv_entry ([.ref h, .int (nI v9)]) (n := 2) (Nat.le_of_ble_eq_true rfl)
  rw [lg_entry_eq]
  generalize (lg_sl ([.ref h, .int (nI v9)]) ++ List.replicate (2 - (lg_sl ([.ref h, .int (nI v9)])).length) Slot.unset).toArray = ls at hl ⊢
  have hl : lv_has ls 2 [(0, .ref h), (1, .int (nI v9))] := hl
  refine lv_iload_n hx hb dX0_feed_0 rfl (lv_at hl 1 rfl) ?_
  refine lv_if_lt (tgt := 11) hx hb dX0_feed_1 (by decide) (fun c_1 => ?_) (fun c_1 => ?_)
  · skip
    exact absurd c_1 (nI_pos (by omega))
  · skip
    refine lv_iload_n hx hb dX0_feed_4 rfl (lv_at hl 1 rfl) ?_
    refine lv_sipush (v := 255) hx hb dX0_feed_5 (by decide) ?_
    refine lv_icmp_le (tgt := 21) hx hb dX0_feed_8 (by decide) (fun c_2 => ?_) (fun c_2 => ?_)
    · skip
      refine lv_aload_n hx hb dX0_feed_21 rfl (lv_at hl 0 rfl) ?_
      refine lv_iconst (v := 1) hx hb dX0_feed_22 (by decide) ?_
      have e_5 : (1 : Int32) = nI 1 := rfl
      rw [e_5]
      refine gvi (As := [.int (nI 1)]) (rest := []) ⟨hx, hb, hml, hown, hts⟩ (c_X0_hasRoom l dC dI tk tw h a b cB cJ _ f g zc zg zo n8 (by omega) 1 (by omega)) (cwV 1 hts gX0_feed_X0_hasRoom rfl rfl rfl (by decide +kernel) ⟨Nat.le_of_ble_eq_true rfl, Nat.le_of_ble_eq_true rfl⟩) hK hP hD hS hA hZ (q0 := 0) (ci := 0) rfl rfl rfl rfl hl.1 rfl (Nat.le_of_ble_eq_true rfl) dX0_feed_23 ⟨Nat.le_of_ble_eq_true rfl, Nat.le_of_ble_eq_true rfl⟩ (fun r_4 u_6 H locs hw_3 hP hD hS => ?_)
      obtain rfl : r_4 = 1 := hw_3.trans (if_pos (by omega))
      refine lv_if_ne (tgt := 39) hx hb dX0_feed_26 (by decide) (fun c_7 => ?_) (fun c_7 => ?_)
      · skip
        refine lv_aload_n hx hb dX0_feed_39 rfl (lv_at hl 0 rfl) ?_
        refine lv_iload_n hx hb dX0_feed_40 rfl (lv_at hl 1 rfl) ?_
        refine lv_i2l hx hb dX0_feed_41 rfl ?_
        refine lv_iconst (v := 1) hx hb dX0_feed_42 (by decide) ?_
        have e_10 : (1 : Int32) = nI 1 := rfl
        rw [e_10]
        refine gvv (As := [.long ((nI v9).toInt64), .int (nI 1)]) (rest := []) ⟨hx, hb, hml, hown, hts⟩ (c_X0_append l dC dI tk tw h a b cB cJ _ f g zc zg zo n8 1 (nI v9).toInt64 (by omega)) (cwV 2 hts gX0_feed_X0_append rfl rfl rfl (by decide +kernel) ⟨Nat.le_of_ble_eq_true rfl, Nat.le_of_ble_eq_true rfl⟩) hK hP hD hS hA hZ (q0 := 0) (ci := 0) rfl rfl rfl rfl hl.1 rfl (Nat.le_of_ble_eq_true rfl) dX0_feed_43 ⟨Nat.le_of_ble_eq_true rfl, Nat.le_of_ble_eq_true rfl⟩ (fun u_11 H locs hw_8 hP hD hS => ?_)
        have hP : va_P (dC, dI) vwCl (w0 h a b cB cJ (apR f n8 (nI v9).toInt64 1) g (nI (n8 + 1)) zc zg zo) H := hP
        have hD : va_D A (w0 h a b cB cJ (apR f n8 (nI v9).toInt64 1) g (nI (n8 + 1)) zc zg zo) := hD
        refine lv_aload_n hx hb dX0_feed_46 rfl (lv_at hl 0 rfl) ?_
        refine va_get (D := (dC, dI)) (ci := 0) (v := .int (nI (n8 + 1))) (C := RX0) (T := TX0) (N := 6) hx hb hts hin0 hown hK hP 0 rfl rfl 1 (by decide) fl13 (fun _ h9 => h9) rfl dX0_feed_47 ?_
        have hP9 : va_P (dC, dI) vwCl ((fun (_ : Unit) => w0 h a b cB cJ (apR f n8 (nI v9).toInt64 1) g (nI (n8 + 1)) zc zg zo) (())) H := hP
        have hD9 : va_D A ((fun (_ : Unit) => w0 h a b cB cJ (apR f n8 (nI v9).toInt64 1) g (nI (n8 + 1)) zc zg zo) (())) := hD
        exact W.iret (v := nI (n8 + 1)) hx hb hr (fun t ht hW => ⟨⟨nI (n8 + 1), (), rfl, rfl, by rw [ht]; exact hP9, va_K.moved hW.alike hK, hD9⟩, hS.F ht⟩) hS.2.2 dX0_feed_50
      · skip
        exact absurd c_7 (by decide)
    · skip
      exact absurd (nI_le (b := 255) (by omega) (by decide)) c_2
set_option maxHeartbeats 4000000 in
set_option maxRecDepth 100000 in
theorem c_X0_put (l : Launch) (dC : Nat → ClassId) (dI : Nat → Nat → Nat) (tk tw : Nat) (h a b : Nat) (cB cJ : ClassId) (sz : Nat) (f : Nat → Int32) (g : Nat → Int64) (zc : Int32) (zg : Int32) (zo : Int32) (n8 : Nat) (hn8 : n8 ≤ 4096) (k9 : Nat) (hk9 : 1 ≤ k9 ∧ k9 ≤ 8) (x9 : Int64) (hr9 : n8 + k9 ≤ 4096) : Met l yX0_put wsX0_put ({ frames := 1, cells := 0, slots := 0, locals := 24 }) (va_Pc [.ref h, .long x9, .int (nI k9)] (pr dC dI (t0 cB cJ) (w0 h a b cB cJ f g (nI n8) zc zg zo) sz tk tw)) (va_Qi (fun (r : Int32) (_ : Unit) => r = nI (n8 + k9)) (fun (_ : Unit) => po dC dI (t0 cB cJ) (va_A (w0 h a b cB cJ f g (nI n8) zc zg zo) sz) (w0 h a b cB cJ (apR f n8 x9 k9) g (nI (n8 + k9)) zc zg zo)) (va_A (w0 h a b cB cJ f g (nI n8) zc zg zo) sz)) 0 0 (va_A (w0 h a b cB cJ f g (nI n8) zc zg zo) sz) := by
  refine Met.ofW (cc := cX0_put) (maxL := 4) (ret := (some .int)) (by decide) rfl ?_
  intro p e s m args below meth c s₁ Bd hml hv
  obtain ⟨rfl, hsz, hP, hK, hD0, hZ⟩ := hv
  have hx := Bd.exec
  have hb := Bd.bytes
  have hr := Bd.returns
  have hts := atoms_spec (ws := wsX0_put) Bd.pre
  have hown : s.vm.findClass RX0 = some m.cls := findClass_of_methodNamed Bd.named
  have hlocks := Bd.notSynchronized
  subst hsz
  have hD := hD0.self (sz := s.heap.size)
  generalize hAe : va_A (w0 h a b cB cJ f g (nI n8) zc zg zo) s.heap.size = A at hD hZ ⊢
  have hA : ∀ q : Nat, s.heap.size ≤ q → A q := fun q h => by rw [← hAe]; exact Or.inr h
  have hS : va_S A s.heap s.heap [] := va_S.rf
  have hP : va_P (dC, dI) vwCl (w0 h a b cB cJ f g (nI n8) zc zg zo) s.heap := hP
  have hin0 : ∀ w ∈ wsX00, w ∈ wsX0_put := by decide +kernel
  have fl13 := hts (.fieldLink RX0 13 "MessageReader" "size" "I") (by decide +kernel)
  have hl := lv_entry ([.ref h, .long x9, .int (nI k9)]) (n := 4) (Nat.le_of_ble_eq_true rfl)
  rw [lg_entry_eq]
  generalize (lg_sl ([.ref h, .long x9, .int (nI k9)]) ++ List.replicate (4 - (lg_sl ([.ref h, .long x9, .int (nI k9)])).length) Slot.unset).toArray = ls at hl ⊢
  have hl : lv_has ls 4 [(0, .ref h), (1, .long x9), (3, .int (nI k9))] := hl
  refine lv_iload_n hx hb dX0_put_0 rfl (lv_at hl 2 rfl) ?_
  refine lv_iconst (v := 1) hx hb dX0_put_1 (by decide) ?_
  refine lv_icmp_lt (tgt := 11) hx hb dX0_put_2 (by decide) (fun c_1 => ?_) (fun c_1 => ?_)
  · skip
    exact absurd c_1 (nI_nlt (b := 1) hk9.1 (by omega))
  · skip
    refine lv_iload_n hx hb dX0_put_5 rfl (lv_at hl 2 rfl) ?_
    refine lv_bipush (v := 8) hx hb dX0_put_6 (by decide) ?_
    refine lv_icmp_le (tgt := 21) hx hb dX0_put_8 (by decide) (fun c_2 => ?_) (fun c_2 => ?_)
    · skip
      refine lv_aload_n hx hb dX0_put_21 rfl (lv_at hl 0 rfl) ?_
      refine lv_iload_n hx hb dX0_put_22 rfl (lv_at hl 2 rfl) ?_
      refine gvi (As := [.int (nI k9)]) (rest := []) ⟨hx, hb, hml, hown, hts⟩ (c_X0_hasRoom l dC dI tk tw h a b cB cJ _ f g zc zg zo n8 (by omega) k9 (by omega)) (cwV 1 hts gX0_put_X0_hasRoom rfl rfl rfl (by decide +kernel) ⟨Nat.le_of_ble_eq_true rfl, Nat.le_of_ble_eq_true rfl⟩) hK hP hD hS hA hZ (q0 := 0) (ci := 0) rfl rfl rfl rfl hl.1 rfl (Nat.le_of_ble_eq_true rfl) dX0_put_23 ⟨Nat.le_of_ble_eq_true rfl, Nat.le_of_ble_eq_true rfl⟩ (fun r_4 u_5 H locs hw_3 hP hD hS => ?_)
      obtain rfl : r_4 = 1 := hw_3.trans (if_pos (by omega))
      refine lv_if_ne (tgt := 39) hx hb dX0_put_26 (by decide) (fun c_6 => ?_) (fun c_6 => ?_)
      · skip
        refine lv_aload_n hx hb dX0_put_39 rfl (lv_at hl 0 rfl) ?_
        refine lv_lload_n hx hb dX0_put_40 rfl (lv_at hl 1 rfl) ?_
        refine lv_iload_n hx hb dX0_put_41 rfl (lv_at hl 2 rfl) ?_
        refine gvv (As := [.long x9, .int (nI k9)]) (rest := []) ⟨hx, hb, hml, hown, hts⟩ (c_X0_append l dC dI tk tw h a b cB cJ _ f g zc zg zo n8 k9 x9 hr9) (cwV 2 hts gX0_put_X0_append rfl rfl rfl (by decide +kernel) ⟨Nat.le_of_ble_eq_true rfl, Nat.le_of_ble_eq_true rfl⟩) hK hP hD hS hA hZ (q0 := 0) (ci := 0) rfl rfl rfl rfl hl.1 rfl (Nat.le_of_ble_eq_true rfl) dX0_put_42 ⟨Nat.le_of_ble_eq_true rfl, Nat.le_of_ble_eq_true rfl⟩ (fun u_9 H locs hw_7 hP hD hS => ?_)
        have hP : va_P (dC, dI) vwCl (w0 h a b cB cJ (apR f n8 x9 k9) g (nI (n8 + k9)) zc zg zo) H := hP
        have hD : va_D A (w0 h a b cB cJ (apR f n8 x9 k9) g (nI (n8 + k9)) zc zg zo) := hD
        refine lv_aload_n hx hb dX0_put_45 rfl (lv_at hl 0 rfl) ?_
        refine va_get (D := (dC, dI)) (ci := 0) (v := .int (nI (n8 + k9))) (C := RX0) (T := TX0) (N := 6) hx hb hts hin0 hown hK hP 0 rfl rfl 1 (by decide) fl13 (fun _ h9 => h9) rfl dX0_put_46 ?_
        have hP9 : va_P (dC, dI) vwCl ((fun (_ : Unit) => w0 h a b cB cJ (apR f n8 x9 k9) g (nI (n8 + k9)) zc zg zo) (())) H := hP
        have hD9 : va_D A ((fun (_ : Unit) => w0 h a b cB cJ (apR f n8 x9 k9) g (nI (n8 + k9)) zc zg zo) (())) := hD
        exact W.iret (v := nI (n8 + k9)) hx hb hr (fun t ht hW => ⟨⟨nI (n8 + k9), (), rfl, rfl, by rw [ht]; exact hP9, va_K.moved hW.alike hK, hD9⟩, hS.F ht⟩) hS.2.2 dX0_put_49
      · skip
        exact absurd c_6 (by decide)
    · skip
      exact absurd (nI_le (b := 8) hk9.2 (by decide)) c_2
set_option maxHeartbeats 4000000 in
set_option maxRecDepth 100000 in
theorem c_X0_cut (l : Launch) (dC : Nat → ClassId) (dI : Nat → Nat → Nat) (tk tw : Nat) (h a b : Nat) (cB cJ : ClassId) (sz : Nat) (f : Nat → Int32) (g : Nat → Int64) (zg : Int32) (zo : Int32) (n8 c9 : Nat) (hn8 : n8 ≤ 4096) (hc9 : c9 ≤ n8) (k9 : Nat) (hk9 : k9 ≤ n8 - c9) : Met l yX0_cut wsX0_cut ({ frames := 0, cells := 0, slots := 0, locals := 0 }) (va_Pc [.ref h, .int (nI k9)] (pr dC dI (t0 cB cJ) (w0 h a b cB cJ f g (nI n8) (nI c9) zg zo) sz tk tw)) (va_Qi (fun (r : Int32) (_ : Unit) => r = nI (n8 - k9)) (fun (_ : Unit) => po dC dI (t0 cB cJ) (va_A (w0 h a b cB cJ f g (nI n8) (nI c9) zg zo) sz) (w0 h a b cB cJ f g (nI (n8 - k9)) (nI c9) zg zo)) (va_A (w0 h a b cB cJ f g (nI n8) (nI c9) zg zo) sz)) 0 0 (va_A (w0 h a b cB cJ f g (nI n8) (nI c9) zg zo) sz) := by
  refine Met.ofW (cc := cX0_cut) (maxL := 2) (ret := (some .int)) (by decide) rfl ?_
  intro p e s m args below meth c s₁ Bd hml hv
  obtain ⟨rfl, hsz, hP, hK, hD0, hZ⟩ := hv
  have hx := Bd.exec
  have hb := Bd.bytes
  have hr := Bd.returns
  have hts := atoms_spec (ws := wsX0_cut) Bd.pre
  have hown : s.vm.findClass RX0 = some m.cls := findClass_of_methodNamed Bd.named
  have hlocks := Bd.notSynchronized
  subst hsz
  have hD := hD0.self (sz := s.heap.size)
  generalize hAe : va_A (w0 h a b cB cJ f g (nI n8) (nI c9) zg zo) s.heap.size = A at hD hZ ⊢
  have hA : ∀ q : Nat, s.heap.size ≤ q → A q := fun q h => by rw [← hAe]; exact Or.inr h
  have hS : va_S A s.heap s.heap [] := va_S.rf
  have hP : va_P (dC, dI) vwCl (w0 h a b cB cJ f g (nI n8) (nI c9) zg zo) s.heap := hP
  have hin0 : ∀ w ∈ wsX00, w ∈ wsX0_cut := by decide +kernel
  have fl13 := hts (.fieldLink RX0 13 "MessageReader" "size" "I") (by decide +kernel)
  have fl17 := hts (.fieldLink RX0 17 "MessageReader" "consumed" "I") (by decide +kernel)
  have hl := lv_entry ([.ref h, .int (nI k9)]) (n := 2) (Nat.le_of_ble_eq_true rfl)
  rw [lg_entry_eq]
  generalize (lg_sl ([.ref h, .int (nI k9)]) ++ List.replicate (2 - (lg_sl ([.ref h, .int (nI k9)])).length) Slot.unset).toArray = ls at hl ⊢
  have hl : lv_has ls 2 [(0, .ref h), (1, .int (nI k9))] := hl
  refine lv_iload_n hx hb dX0_cut_0 rfl (lv_at hl 1 rfl) ?_
  refine lv_if_lt (tgt := 17) hx hb dX0_cut_1 (by decide) (fun c_1 => ?_) (fun c_1 => ?_)
  · skip
    exact absurd c_1 (nI_pos (by omega))
  · skip
    refine lv_iload_n hx hb dX0_cut_4 rfl (lv_at hl 1 rfl) ?_
    refine lv_aload_n hx hb dX0_cut_5 rfl (lv_at hl 0 rfl) ?_
    refine va_get (D := (dC, dI)) (ci := 0) (v := .int (nI n8)) (C := RX0) (T := TX0) (N := 6) hx hb hts hin0 hown hK hP 0 rfl rfl 1 (by decide) fl13 (fun _ h9 => h9) rfl dX0_cut_6 ?_
    refine lv_aload_n hx hb dX0_cut_9 rfl (lv_at hl 0 rfl) ?_
    refine va_get (D := (dC, dI)) (ci := 0) (v := .int (nI c9)) (C := RX0) (T := TX0) (N := 6) hx hb hts hin0 hown hK hP 0 rfl rfl 2 (by decide) fl17 (fun _ h9 => h9) rfl dX0_cut_10 ?_
    refine lv_isub hx hb dX0_cut_13 ?_
    have e_2 : ((nI n8) - (nI c9) : Int32) = nI (n8 - c9) := pk_sub hc9
    rw [e_2]
    refine lv_icmp_le (tgt := 27) hx hb dX0_cut_14 (by decide) (fun c_3 => ?_) (fun c_3 => ?_)
    · skip
      refine lv_aload_n hx hb dX0_cut_27 rfl (lv_at hl 0 rfl) ?_
      refine lv_dup hx hb dX0_cut_28 rfl ?_
      refine va_get (D := (dC, dI)) (ci := 0) (v := .int (nI n8)) (C := RX0) (T := TX0) (N := 6) hx hb hts hin0 hown hK hP 0 rfl rfl 1 (by decide) fl13 (fun _ h9 => h9) rfl dX0_cut_29 ?_
      refine lv_iload_n hx hb dX0_cut_32 rfl (lv_at hl 1 rfl) ?_
      refine lv_isub hx hb dX0_cut_33 ?_
      have e_4 : ((nI n8) - (nI k9) : Int32) = nI (n8 - k9) := pk_sub (by omega)
      rw [e_4]
      refine va_put (D := (dC, dI)) (ci := 0) (v := .int (nI (n8 - k9))) (ty := .int) (C := RX0) (T := TX0) (N := 6) hx hb hts hin0 tyX0 tyX0_ok nmX0 hown hK hP hD hS 0 rfl rfl 1 (by decide) fl13 (fun _ h9 => h9) rfl (by decide +kernel) rfl rfl (Nat.le_of_ble_eq_true rfl) dX0_cut_34 (fun H locs hP hD hS => ?_)
      have hP : va_P (dC, dI) vwCl (w0 h a b cB cJ f g (nI (n8 - k9)) (nI c9) zg zo) H := hP
      have hD : va_D A (w0 h a b cB cJ f g (nI (n8 - k9)) (nI c9) zg zo) := hD
      refine lv_aload_n hx hb dX0_cut_37 rfl (lv_at hl 0 rfl) ?_
      refine va_get (D := (dC, dI)) (ci := 0) (v := .int (nI (n8 - k9))) (C := RX0) (T := TX0) (N := 6) hx hb hts hin0 hown hK hP 0 rfl rfl 1 (by decide) fl13 (fun _ h9 => h9) rfl dX0_cut_38 ?_
      have hP9 : va_P (dC, dI) vwCl ((fun (_ : Unit) => w0 h a b cB cJ f g (nI (n8 - k9)) (nI c9) zg zo) (())) H := hP
      have hD9 : va_D A ((fun (_ : Unit) => w0 h a b cB cJ f g (nI (n8 - k9)) (nI c9) zg zo) (())) := hD
      exact W.iret (v := nI (n8 - k9)) hx hb hr (fun t ht hW => ⟨⟨nI (n8 - k9), (), rfl, rfl, by rw [ht]; exact hP9, va_K.moved hW.alike hK, hD9⟩, hS.F ht⟩) hS.2.2 dX0_cut_41
    · skip
      exact absurd (nI_le hk9 (by omega)) c_3
set_option maxHeartbeats 4000000 in
set_option maxRecDepth 100000 in
theorem c_X0_byteAt (l : Launch) (dC : Nat → ClassId) (dI : Nat → Nat → Nat) (tk tw : Nat) (h a b : Nat) (cB cJ : ClassId) (sz : Nat) (f : Nat → Int32) (g : Nat → Int64) (zc : Int32) (zg : Int32) (zo : Int32) (n8 : Nat) (hn8 : n8 ≤ 4096) (j9 : Nat) (hj9 : j9 < n8) : Met l yX0_byteAt wsX0_byteAt ({ frames := 1, cells := 0, slots := 0, locals := 21 }) (va_Pc [.ref h, .int (nI j9)] (pr dC dI (t0 cB cJ) (w0 h a b cB cJ f g (nI n8) zc zg zo) sz tk tw)) (va_Qi (fun (r : Int32) (_ : Unit) => r = nI (bY f j9)) (fun (_ : Unit) => po dC dI (t0 cB cJ) (va_A (w0 h a b cB cJ f g (nI n8) zc zg zo) sz) (w0 h a b cB cJ f g (nI n8) zc zg zo)) (va_A (w0 h a b cB cJ f g (nI n8) zc zg zo) sz)) 0 0 (va_A (w0 h a b cB cJ f g (nI n8) zc zg zo) sz) := by
  refine Met.ofW (cc := cX0_byteAt) (maxL := 2) (ret := (some .int)) (by decide) rfl ?_
  intro p e s m args below meth c s₁ Bd hml hv
  obtain ⟨rfl, hsz, hP, hK, hD0, hZ⟩ := hv
  have hx := Bd.exec
  have hb := Bd.bytes
  have hr := Bd.returns
  have hts := atoms_spec (ws := wsX0_byteAt) Bd.pre
  have hown : s.vm.findClass RX0 = some m.cls := findClass_of_methodNamed Bd.named
  have hlocks := Bd.notSynchronized
  subst hsz
  have hD := hD0.self (sz := s.heap.size)
  generalize hAe : va_A (w0 h a b cB cJ f g (nI n8) zc zg zo) s.heap.size = A at hD hZ ⊢
  have hA : ∀ q : Nat, s.heap.size ≤ q → A q := fun q h => by rw [← hAe]; exact Or.inr h
  have hS : va_S A s.heap s.heap [] := va_S.rf
  have hP : va_P (dC, dI) vwCl (w0 h a b cB cJ f g (nI n8) zc zg zo) s.heap := hP
  have hin0 : ∀ w ∈ wsX00, w ∈ wsX0_byteAt := by decide +kernel
  have fl13 := hts (.fieldLink RX0 13 "MessageReader" "size" "I") (by decide +kernel)
  have hl := lv_entry ([.ref h, .int (nI j9)]) (n := 2) (Nat.le_of_ble_eq_true rfl)
  rw [lg_entry_eq]
  generalize (lg_sl ([.ref h, .int (nI j9)]) ++ List.replicate (2 - (lg_sl ([.ref h, .int (nI j9)])).length) Slot.unset).toArray = ls at hl ⊢
  have hl : lv_has ls 2 [(0, .ref h), (1, .int (nI j9))] := hl
  refine lv_iload_n hx hb dX0_byteAt_0 rfl (lv_at hl 1 rfl) ?_
  refine lv_if_lt (tgt := 12) hx hb dX0_byteAt_1 (by decide) (fun c_1 => ?_) (fun c_1 => ?_)
  · skip
    exact absurd c_1 (nI_pos (by omega))
  · skip
    refine lv_iload_n hx hb dX0_byteAt_4 rfl (lv_at hl 1 rfl) ?_
    refine lv_aload_n hx hb dX0_byteAt_5 rfl (lv_at hl 0 rfl) ?_
    refine va_get (D := (dC, dI)) (ci := 0) (v := .int (nI n8)) (C := RX0) (T := TX0) (N := 6) hx hb hts hin0 hown hK hP 0 rfl rfl 1 (by decide) fl13 (fun _ h9 => h9) rfl dX0_byteAt_6 ?_
    refine lv_icmp_lt (tgt := 22) hx hb dX0_byteAt_9 (by decide) (fun c_2 => ?_) (fun c_2 => ?_)
    · skip
      refine lv_aload_n hx hb dX0_byteAt_22 rfl (lv_at hl 0 rfl) ?_
      refine lv_iload_n hx hb dX0_byteAt_23 rfl (lv_at hl 1 rfl) ?_
      refine gvi (As := [.int (nI j9)]) (rest := []) ⟨hx, hb, hml, hown, hts⟩ (c_X0_storedByte l dC dI tk tw h a b cB cJ _ f g (nI n8) zc zg zo j9 (by omega)) (cwV 1 hts gX0_byteAt_X0_storedByte rfl rfl rfl (by decide +kernel) ⟨Nat.le_of_ble_eq_true rfl, Nat.le_of_ble_eq_true rfl⟩) hK hP hD hS hA hZ (q0 := 0) (ci := 0) rfl rfl rfl rfl hl.1 rfl (Nat.le_of_ble_eq_true rfl) dX0_byteAt_24 ⟨Nat.le_of_ble_eq_true rfl, Nat.le_of_ble_eq_true rfl⟩ (fun r_4 u_5 H locs hw_3 hP hD hS => ?_)
      obtain rfl : r_4 = nI (bY f j9) := hw_3
      exact W.iret (v := nI (bY f j9)) hx hb hr (fun t ht hW => ⟨⟨nI (bY f j9), (), rfl, rfl, by rw [ht]; exact hP, va_K.moved hW.alike hK, hD⟩, hS.F ht⟩) hS.2.2 dX0_byteAt_27
    · skip
      exact absurd (nI_lt hj9 (by omega)) c_2
set_option maxHeartbeats 4000000 in
set_option maxRecDepth 100000 in
theorem c_X0_remaining (l : Launch) (dC : Nat → ClassId) (dI : Nat → Nat → Nat) (tk tw : Nat) (h a b : Nat) (cB cJ : ClassId) (sz : Nat) (f : Nat → Int32) (g : Nat → Int64) (zs : Int32) (zc : Int32) (zg : Int32) (k9 : Nat) (hk9 : k9 ≤ 100) (i9 : Int32) (hi9 : ¬ i9 < 0) : Met l yX0_remaining wsX0_remaining ({ frames := 0, cells := 0, slots := 0, locals := 0 }) (va_Pc [.ref h, .int i9] (pr dC dI (t0 cB cJ) (w0 h a b cB cJ f g zs zc zg (nI k9)) sz tk tw)) (va_Ql (fun (r : Int64) (_ : Unit) => r = rmS g k9 i9) (fun (_ : Unit) => po dC dI (t0 cB cJ) (va_A (w0 h a b cB cJ f g zs zc zg (nI k9)) sz) (w0 h a b cB cJ f g zs zc zg (nI k9))) (va_A (w0 h a b cB cJ f g zs zc zg (nI k9)) sz)) 0 0 (va_A (w0 h a b cB cJ f g zs zc zg (nI k9)) sz) := by
  refine Met.ofW (cc := cX0_remaining) (maxL := 2) (ret := (some .long)) (by decide) rfl ?_
  intro p e s m args below meth c s₁ Bd hml hv
  obtain ⟨rfl, hsz, hP, hK, hD0, hZ⟩ := hv
  have hx := Bd.exec
  have hb := Bd.bytes
  have hr := Bd.returns
  have hts := atoms_spec (ws := wsX0_remaining) Bd.pre
  have hown : s.vm.findClass RX0 = some m.cls := findClass_of_methodNamed Bd.named
  have hlocks := Bd.notSynchronized
  subst hsz
  have hD := hD0.self (sz := s.heap.size)
  generalize hAe : va_A (w0 h a b cB cJ f g zs zc zg (nI k9)) s.heap.size = A at hD hZ ⊢
  have hA : ∀ q : Nat, s.heap.size ≤ q → A q := fun q h => by rw [← hAe]; exact Or.inr h
  have hS : va_S A s.heap s.heap [] := va_S.rf
  have hP : va_P (dC, dI) vwCl (w0 h a b cB cJ f g zs zc zg (nI k9)) s.heap := hP
  have hin0 : ∀ w ∈ wsX00, w ∈ wsX0_remaining := by decide +kernel
  have fl23 := hts (.fieldLink RX0 23 "MessageReader" "childrenLeft" "[J") (by decide +kernel)
  have fl27 := hts (.fieldLink RX0 27 "MessageReader" "open" "I") (by decide +kernel)
  have hl := lv_entry ([.ref h, .int i9]) (n := 2) (Nat.le_of_ble_eq_true rfl)
  rw [lg_entry_eq]
  generalize (lg_sl ([.ref h, .int i9]) ++ List.replicate (2 - (lg_sl ([.ref h, .int i9])).length) Slot.unset).toArray = ls at hl ⊢
  have hl : lv_has ls 2 [(0, .ref h), (1, .int i9)] := hl
  refine lv_iload_n hx hb dX0_remaining_0 rfl (lv_at hl 1 rfl) ?_
  refine lv_if_ge (tgt := 14) hx hb dX0_remaining_1 (by decide) (fun c_1 => ?_) (fun c_1 => ?_)
  · skip
    refine lv_iload_n hx hb dX0_remaining_14 rfl (lv_at hl 1 rfl) ?_
    refine lv_aload_n hx hb dX0_remaining_15 rfl (lv_at hl 0 rfl) ?_
    refine va_get (D := (dC, dI)) (ci := 0) (v := .int (nI k9)) (C := RX0) (T := TX0) (N := 6) hx hb hts hin0 hown hK hP 0 rfl rfl 5 (by decide) fl27 (fun _ h9 => h9) rfl dX0_remaining_16 ?_
    refine lv_icmp_lt (tgt := 28) hx hb dX0_remaining_19 (by decide) (fun c_2 => ?_) (fun c_2 => ?_)
    · skip
      obtain ⟨j, hj, ej⟩ := nI_of hi9
      have q7 : i9.toNatClampNeg = j := by rw [ej, nI_clamp hj]
      have q6 : j < k9 := by
        have z := c_2
        rw [ej] at z
        exact (nI_ltI hj (by omega)).mp z
      refine lv_aload_n hx hb dX0_remaining_28 rfl (lv_at hl 0 rfl) ?_
      refine va_get (D := (dC, dI)) (ci := 0) (v := .ref b) (C := RX0) (T := TX0) (N := 6) hx hb hts hin0 hown hK hP 0 rfl rfl 4 (by decide) fl23 (fun _ h9 => h9) rfl dX0_remaining_29 ?_
      refine lv_aload_n hx hb dX0_remaining_32 rfl (lv_at hl 0 rfl) ?_
      refine va_get (D := (dC, dI)) (ci := 0) (v := .int (nI k9)) (C := RX0) (T := TX0) (N := 6) hx hb hts hin0 hown hK hP 0 rfl rfl 5 (by decide) fl27 (fun _ h9 => h9) rfl dX0_remaining_33 ?_
      refine lv_iconst (v := 1) hx hb dX0_remaining_36 (by decide) ?_
      refine lv_isub hx hb dX0_remaining_37 ?_
      refine lv_iload_n hx hb dX0_remaining_38 rfl (lv_at hl 1 rfl) ?_
      refine lv_isub hx hb dX0_remaining_39 ?_
      have e_3 : (((nI k9) - 1) - i9 : Int32) = nI (k9 - 1 - i9.toNatClampNeg) := by rw [q7, ej, show (1 : Int32) = nI 1 from rfl, pk_sub (by omega), pk_sub (by omega)]
      rw [e_3]
      refine va_lald hx hb hK hP 2 1 rfl rfl (vp_in_nI (by omega) (by decide)) dX0_remaining_40 ?_
      exact W.lret (v := g (nI (k9 - 1 - i9.toNatClampNeg)).toNatClampNeg) hx hb hr (fun t ht hW => ⟨⟨g (nI (k9 - 1 - i9.toNatClampNeg)).toNatClampNeg, (), rfl, (by unfold rmS; rw [if_pos c_2]; rw [nI_clamp (by omega)]), by rw [ht]; exact hP, va_K.moved hW.alike hK, hD⟩, hS.F ht⟩) hS.2.2 dX0_remaining_41
    · skip
      refine lv_ldc2 (v := -1) hx hb hown (hts (.constantLong RX0 103 (-1)) (by decide +kernel)) dX0_remaining_22 ?_
      refine lv_goto (tgt := 41) hx hb dX0_remaining_25 (by decide) ?_
      exact W.lret (v := -1) hx hb hr (fun t ht hW => ⟨⟨-1, (), rfl, (by unfold rmS; rw [if_neg c_2]), by rw [ht]; exact hP, va_K.moved hW.alike hK, hD⟩, hS.F ht⟩) hS.2.2 dX0_remaining_41
  · skip
    exact absurd (Int32.not_lt.mp hi9) c_1
