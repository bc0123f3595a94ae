theorem k_pos {k : Int32} (h : ¬ k < 1) : 0 < k := by
  rw [Int32.lt_iff_toInt_lt] at h ⊢
  have e1 : (1 : Int32).toInt = 1 := by decide
  have e0 : (0 : Int32).toInt = 0 := by decide
  omega
theorem k_lt13 {k : Int32} (h : k ≤ 12) : k < 13 := by
  rw [Int32.le_iff_toInt_le] at h
  rw [Int32.lt_iff_toInt_lt]
  have e1 : (12 : Int32).toInt = 12 := by decide
  have e0 : (13 : Int32).toInt = 13 := by decide
  omega
set_option maxHeartbeats 4000000 in
set_option maxRecDepth 100000 in
theorem c_X0_feed_b (l : Launch) (hst : l.stackTraces = false) (sa : Nat → Nat) (dC : Nat → ClassId) (dI : Nat → Nat → Nat) (tk tw : Nat) (h a b : Nat) (cB cJ : ClassId) (sz : Nat) (f : Nat → Int32) (g : Nat → Int64) (zs : Int32) (zc : Int32) (zg : Int32) (zo : Int32) (b9 : Int32) (hb9 : b9 < 0 ∨ 255 < b9) : vx_Met l yX0_feed wsX0_feed ({ frames := 6, cells := 1, slots := 6, locals := 82 }) (va_Pc [.ref h, .int b9] (prx dC dI (t0 cB cJ) (w0 h a b cB cJ f g zs zc zg zo) sz tk tw sa)) (va_Qi (fun (_ : Int32) (_ : Unit) => False) (fun _ _ => True) (va_A (w0 h a b cB cJ f g zs zc zg zo) sz)) (vx_X (fun (_ : Unit) => True) (fun (E : String) (_ : Unit) => fun t => E = "java/lang/IllegalArgumentException" ∧ po dC dI (t0 cB cJ) (va_A (w0 h a b cB cJ f g zs zc zg zo) sz) (w0 h a b cB cJ f g zs zc zg zo) t) (va_A (w0 h a b cB cJ f g zs zc zg zo) sz)) 1 6 (va_A (w0 h a b cB cJ f g zs zc zg zo) sz) := by
  refine vx_ofW (cc := cX0_feed) (maxL := 2) (ret := (some .int)) (by decide) rfl ?_
  intro p e s m args below meth c s₁ Bd hml hEx hv
  obtain ⟨rfl, hsz, hP, hK, hD0, hZ, hX⟩ := hv
  have hx := Bd.exec
  have hb := Bd.bytes
  have hr := Bd.returns
  have hts := atoms_spec (ws := wsX0_feed) Bd.pre
  have hown : s.vm.findClass RX0 = some m.cls := findClass_of_methodNamed Bd.named
  have hlocks := Bd.notSynchronized
  subst hsz
  have hD := hD0.self (sz := s.heap.size)
  generalize hAe : va_A (w0 h a b cB cJ f g zs zc zg zo) s.heap.size = A at hD hZ hX ⊢
  have hA : ∀ q : Nat, s.heap.size ≤ q → A q := fun q h => by rw [← hAe]; exact Or.inr h
  have hS : va_S A s.heap s.heap [] := va_S.rf
  have hP : va_P (dC, dI) vwCl (w0 h a b cB cJ f g zs zc zg zo) s.heap := hP
  have hl := lv_entry ([.ref h, .int b9]) (n := 2) (Nat.le_of_ble_eq_true rfl)
  rw [lg_entry_eq]
  generalize (lg_sl ([.ref h, .int b9]) ++ List.replicate (2 - (lg_sl ([.ref h, .int b9])).length) Slot.unset).toArray = ls at hl ⊢
  have hl : lv_has ls 2 [(0, .ref h), (1, .int b9)] := hl
  refine lv_iload_n hx hb dX0_feed_0 rfl (lv_at hl 1 rfl) ?_
  refine lv_if_lt (tgt := 11) hx hb dX0_feed_1 (by decide) (fun c_1 => ?_) (fun c_1 => ?_)
  · skip
    exact vx_throwS (own := RX0) (cls := "java/lang/IllegalArgumentException") (names := ["java/lang/RuntimeException", "java/lang/Exception"]) hx hb hst hown (by decide +kernel) (by decide +kernel) (hts (.classLink RX0 30 "java/lang/IllegalArgumentException") (by decide +kernel)) (hts (.initialized "java/lang/IllegalArgumentException") (by decide +kernel)) (hX.2.2.1 (32, "a byte is 0 .. 255") (by decide +kernel)) (hat_IA (fun w hw => hts w ((by decide +kernel : ∀ w ∈ (atIA).filter goodWord, w ∈ wsX0_feed) w hw)) hX) (by decide +kernel) hX.1 hX.2.1 hS (hl.1.trans hml.symm) dX0_feed_11 dX0_feed_14 dX0_feed_15 dX0_feed_17 dX0_feed_20 (fun x hx => (hEx x hx).elim) (Nat.le_of_ble_eq_true rfl) (Nat.le_of_ble_eq_true rfl) (Nat.le_of_ble_eq_true rfl) (Nat.le_of_ble_eq_true rfl) hlocks (fun t ha hsz hk => ⟨(), trivial, ⟨rfl, hP.kept (fun k q hq => hk q.1 (hP k q hq).lt), va_K.moved ha hK, hD⟩, Nat.le_trans hS.1 hsz, fun q h1 h2 => (hk q (Nat.lt_of_lt_of_le h1 hS.1)).trans (hS.2.1 q h1 h2)⟩) hS.2.2 (Nat.le_of_ble_eq_true rfl) (Nat.le_of_ble_eq_true rfl)
  · skip
    refine lv_iload_n hx hb dX0_feed_4 rfl (lv_at hl 1 rfl) ?_
    refine lv_sipush (v := 255) hx hb dX0_feed_5 (by decide) ?_
    refine lv_icmp_le (tgt := 21) hx hb dX0_feed_8 (by decide) (fun c_2 => ?_) (fun c_2 => ?_)
    · skip
      exact absurd hb9 (fun z => z.elim c_1 (fun y => Int32.not_lt.mpr c_2 y))
    · skip
      exact vx_throwS (own := RX0) (cls := "java/lang/IllegalArgumentException") (names := ["java/lang/RuntimeException", "java/lang/Exception"]) hx hb hst hown (by decide +kernel) (by decide +kernel) (hts (.classLink RX0 30 "java/lang/IllegalArgumentException") (by decide +kernel)) (hts (.initialized "java/lang/IllegalArgumentException") (by decide +kernel)) (hX.2.2.1 (32, "a byte is 0 .. 255") (by decide +kernel)) (hat_IA (fun w hw => hts w ((by decide +kernel : ∀ w ∈ (atIA).filter goodWord, w ∈ wsX0_feed) w hw)) hX) (by decide +kernel) hX.1 hX.2.1 hS (hl.1.trans hml.symm) dX0_feed_11 dX0_feed_14 dX0_feed_15 dX0_feed_17 dX0_feed_20 (fun x hx => (hEx x hx).elim) (Nat.le_of_ble_eq_true rfl) (Nat.le_of_ble_eq_true rfl) (Nat.le_of_ble_eq_true rfl) (Nat.le_of_ble_eq_true rfl) hlocks (fun t ha hsz hk => ⟨(), trivial, ⟨rfl, hP.kept (fun k q hq => hk q.1 (hP k q hq).lt), va_K.moved ha hK, hD⟩, Nat.le_trans hS.1 hsz, fun q h1 h2 => (hk q (Nat.lt_of_lt_of_le h1 hS.1)).trans (hS.2.1 q h1 h2)⟩) hS.2.2 (Nat.le_of_ble_eq_true rfl) (Nat.le_of_ble_eq_true rfl)
set_option maxHeartbeats 4000000 in
set_option maxRecDepth 100000 in
theorem c_X0_feed_f (l : Launch) (hst : l.stackTraces = false) (sa : Nat → Nat) (dC : Nat → ClassId) (dI : Nat → Nat → Nat) (tk tw : Nat) (h a b : Nat) (cB cJ : ClassId) (sz : Nat) (f : Nat → Int32) (g : Nat → Int64) (zc : Int32) (zg : Int32) (zo : Int32) (v9 : Nat) (hv9 : v9 < 256) : vx_Met l yX0_feed wsX0_feed ({ frames := 6, cells := 1, slots := 6, locals := 82 }) (va_Pc [.ref h, .int (nI v9)] (prx dC dI (t0 cB cJ) (w0 h a b cB cJ f g (nI 4096) zc zg zo) sz tk tw sa)) (va_Qi (fun (_ : Int32) (_ : Unit) => False) (fun _ _ => True) (va_A (w0 h a b cB cJ f g (nI 4096) zc zg zo) sz)) (vx_X (fun (_ : Unit) => True) (fun (E : String) (_ : Unit) => fun t => E = "java/lang/IllegalStateException" ∧ po dC dI (t0 cB cJ) (va_A (w0 h a b cB cJ f g (nI 4096) zc zg zo) sz) (w0 h a b cB cJ f g (nI 4096) zc zg zo) t) (va_A (w0 h a b cB cJ f g (nI 4096) zc zg zo) sz)) 1 6 (va_A (w0 h a b cB cJ f g (nI 4096) zc zg zo) sz) := by
  refine vx_ofW (cc := cX0_feed) (maxL := 2) (ret := (some .int)) (by decide) rfl ?_
  intro p e s m args below meth c s₁ Bd hml hEx hv
  obtain ⟨rfl, hsz, hP, hK, hD0, hZ, hX⟩ := hv
  have hx := Bd.exec
  have hb := Bd.bytes
  have hr := Bd.returns
  have hts := atoms_spec (ws := wsX0_feed) Bd.pre
  have hown : s.vm.findClass RX0 = some m.cls := findClass_of_methodNamed Bd.named
  have hlocks := Bd.notSynchronized
  subst hsz
  have hD := hD0.self (sz := s.heap.size)
  generalize hAe : va_A (w0 h a b cB cJ f g (nI 4096) zc zg zo) s.heap.size = A at hD hZ hX ⊢
  have hA : ∀ q : Nat, s.heap.size ≤ q → A q := fun q h => by rw [← hAe]; exact Or.inr h
  have hS : va_S A s.heap s.heap [] := va_S.rf
  have hP : va_P (dC, dI) vwCl (w0 h a b cB cJ f g (nI 4096) zc zg zo) s.heap := hP
  have hl := lv_entry ([.ref h, .int (nI v9)]) (n := 2) (Nat.le_of_ble_eq_true rfl)
  rw [lg_entry_eq]
  generalize (lg_sl ([.ref h, .int (nI v9)]) ++ List.replicate (2 - (lg_sl ([.ref h, .int (nI v9)])).length) Slot.unset).toArray = ls at hl ⊢
  have hl : lv_has ls 2 [(0, .ref h), (1, .int (nI v9))] := hl
  refine lv_iload_n hx hb dX0_feed_0 rfl (lv_at hl 1 rfl) ?_
  refine lv_if_lt (tgt := 11) hx hb dX0_feed_1 (by decide) (fun c_1 => ?_) (fun c_1 => ?_)
  · skip
    exact absurd c_1 (nI_pos (by omega))
  · skip
    refine lv_iload_n hx hb dX0_feed_4 rfl (lv_at hl 1 rfl) ?_
    refine lv_sipush (v := 255) hx hb dX0_feed_5 (by decide) ?_
    refine lv_icmp_le (tgt := 21) hx hb dX0_feed_8 (by decide) (fun c_2 => ?_) (fun c_2 => ?_)
    · skip
      refine lv_aload_n hx hb dX0_feed_21 rfl (lv_at hl 0 rfl) ?_
      refine lv_iconst (v := 1) hx hb dX0_feed_22 (by decide) ?_
      have e_5 : (1 : Int32) = nI 1 := rfl
      rw [e_5]
      refine gvi (As := [.int (nI 1)]) (rest := []) ⟨hx, hb, hml, hown, hts⟩ (c_X0_hasRoom l dC dI tk tw h a b cB cJ _ f g zc zg zo 4096 (by decide) 1 (by decide)) (cwV 1 hts gX0_feed_X0_hasRoom rfl rfl rfl (by decide +kernel) ⟨Nat.le_of_ble_eq_true rfl, Nat.le_of_ble_eq_true rfl⟩) hK hP hD hS hA hZ (q0 := 0) (ci := 0) rfl rfl rfl rfl hl.1 rfl (Nat.le_of_ble_eq_true rfl) dX0_feed_23 ⟨Nat.le_of_ble_eq_true rfl, Nat.le_of_ble_eq_true rfl⟩ (fun r_4 u_6 H locs hw_3 hP hD hS => ?_)
      obtain rfl : r_4 = 0 := hw_3.trans (if_neg (by decide))
      refine lv_if_ne (tgt := 39) hx hb dX0_feed_26 (by decide) (fun c_7 => ?_) (fun c_7 => ?_)
      · skip
        exact absurd (by decide) c_7
      · skip
        exact vx_throwS (own := RX0) (cls := "java/lang/IllegalStateException") (names := ["java/lang/RuntimeException", "java/lang/Exception"]) hx hb hst hown (by decide +kernel) (by decide +kernel) (hts (.classLink RX0 41 "java/lang/IllegalStateException") (by decide +kernel)) (hts (.initialized "java/lang/IllegalStateException") (by decide +kernel)) (hX.2.2.1 (43, "no room for a byte") (by decide +kernel)) (hat_IS (fun w hw => hts w ((by decide +kernel : ∀ w ∈ (atIS).filter goodWord, w ∈ wsX0_feed) w hw)) hX) (by decide +kernel) hX.1 hX.2.1 hS (hl.1.trans hml.symm) dX0_feed_29 dX0_feed_32 dX0_feed_33 dX0_feed_35 dX0_feed_38 (fun x hx => (hEx x hx).elim) (Nat.le_of_ble_eq_true rfl) (Nat.le_of_ble_eq_true rfl) (Nat.le_of_ble_eq_true rfl) (Nat.le_of_ble_eq_true rfl) hlocks (fun t ha hsz hk => ⟨(), trivial, ⟨rfl, hP.kept (fun k q hq => hk q.1 (hP k q hq).lt), va_K.moved ha hK, hD⟩, Nat.le_trans hS.1 hsz, fun q h1 h2 => (hk q (Nat.lt_of_lt_of_le h1 hS.1)).trans (hS.2.1 q h1 h2)⟩) hS.2.2 (Nat.le_of_ble_eq_true rfl) (Nat.le_of_ble_eq_true rfl)
    · skip
      exact absurd (nI_le (b := 255) (by omega) (by decide)) c_2
set_option maxHeartbeats 4000000 in
set_option maxRecDepth 100000 in
theorem c_X0_put_b (l : Launch) (hst : l.stackTraces = false) (sa : Nat → Nat) (dC : Nat → ClassId) (dI : Nat → Nat → Nat) (tk tw : Nat) (h a b : Nat) (cB cJ : ClassId) (sz : Nat) (f : Nat → Int32) (g : Nat → Int64) (zs : Int32) (zc : Int32) (zg : Int32) (zo : Int32) (x9 : Int64) (m9 : Int32) (hm9 : m9 < 1 ∨ 8 < m9) : vx_Met l yX0_put wsX0_put ({ frames := 6, cells := 1, slots := 6, locals := 82 }) (va_Pc [.ref h, .long x9, .int m9] (prx dC dI (t0 cB cJ) (w0 h a b cB cJ f g zs zc zg zo) sz tk tw sa)) (va_Qi (fun (_ : Int32) (_ : Unit) => False) (fun _ _ => True) (va_A (w0 h a b cB cJ f g zs zc zg zo) sz)) (vx_X (fun (_ : Unit) => True) (fun (E : String) (_ : Unit) => fun t => E = "java/lang/IllegalArgumentException" ∧ po dC dI (t0 cB cJ) (va_A (w0 h a b cB cJ f g zs zc zg zo) sz) (w0 h a b cB cJ f g zs zc zg zo) t) (va_A (w0 h a b cB cJ f g zs zc zg zo) sz)) 1 6 (va_A (w0 h a b cB cJ f g zs zc zg zo) sz) := by
  refine vx_ofW (cc := cX0_put) (maxL := 4) (ret := (some .int)) (by decide) rfl ?_
  intro p e s m args below meth c s₁ Bd hml hEx hv
  obtain ⟨rfl, hsz, hP, hK, hD0, hZ, hX⟩ := hv
  have hx := Bd.exec
  have hb := Bd.bytes
  have hr := Bd.returns
  have hts := atoms_spec (ws := wsX0_put) Bd.pre
  have hown : s.vm.findClass RX0 = some m.cls := findClass_of_methodNamed Bd.named
  have hlocks := Bd.notSynchronized
  subst hsz
  have hD := hD0.self (sz := s.heap.size)
  generalize hAe : va_A (w0 h a b cB cJ f g zs zc zg zo) s.heap.size = A at hD hZ hX ⊢
  have hA : ∀ q : Nat, s.heap.size ≤ q → A q := fun q h => by rw [← hAe]; exact Or.inr h
  have hS : va_S A s.heap s.heap [] := va_S.rf
  have hP : va_P (dC, dI) vwCl (w0 h a b cB cJ f g zs zc zg zo) s.heap := hP
  have hl := lv_entry ([.ref h, .long x9, .int m9]) (n := 4) (Nat.le_of_ble_eq_true rfl)
  rw [lg_entry_eq]
  generalize (lg_sl ([.ref h, .long x9, .int m9]) ++ List.replicate (4 - (lg_sl ([.ref h, .long x9, .int m9])).length) Slot.unset).toArray = ls at hl ⊢
  have hl : lv_has ls 4 [(0, .ref h), (1, .long x9), (3, .int m9)] := hl
  refine lv_iload_n hx hb dX0_put_0 rfl (lv_at hl 2 rfl) ?_
  refine lv_iconst (v := 1) hx hb dX0_put_1 (by decide) ?_
  refine lv_icmp_lt (tgt := 11) hx hb dX0_put_2 (by decide) (fun c_1 => ?_) (fun c_1 => ?_)
  · skip
    exact vx_throwS (own := RX0) (cls := "java/lang/IllegalArgumentException") (names := ["java/lang/RuntimeException", "java/lang/Exception"]) hx hb hst hown (by decide +kernel) (by decide +kernel) (hts (.classLink RX0 30 "java/lang/IllegalArgumentException") (by decide +kernel)) (hts (.initialized "java/lang/IllegalArgumentException") (by decide +kernel)) (hX.2.2.1 (50, "1 .. 8 bytes can be put") (by decide +kernel)) (hat_IA (fun w hw => hts w ((by decide +kernel : ∀ w ∈ (atIA).filter goodWord, w ∈ wsX0_put) w hw)) hX) (by decide +kernel) hX.1 hX.2.1 hS (hl.1.trans hml.symm) dX0_put_11 dX0_put_14 dX0_put_15 dX0_put_17 dX0_put_20 (fun x hx => (hEx x hx).elim) (Nat.le_of_ble_eq_true rfl) (Nat.le_of_ble_eq_true rfl) (Nat.le_of_ble_eq_true rfl) (Nat.le_of_ble_eq_true rfl) hlocks (fun t ha hsz hk => ⟨(), trivial, ⟨rfl, hP.kept (fun k q hq => hk q.1 (hP k q hq).lt), va_K.moved ha hK, hD⟩, Nat.le_trans hS.1 hsz, fun q h1 h2 => (hk q (Nat.lt_of_lt_of_le h1 hS.1)).trans (hS.2.1 q h1 h2)⟩) hS.2.2 (Nat.le_of_ble_eq_true rfl) (Nat.le_of_ble_eq_true rfl)
  · skip
    refine lv_iload_n hx hb dX0_put_5 rfl (lv_at hl 2 rfl) ?_
    refine lv_bipush (v := 8) hx hb dX0_put_6 (by decide) ?_
    refine lv_icmp_le (tgt := 21) hx hb dX0_put_8 (by decide) (fun c_2 => ?_) (fun c_2 => ?_)
    · skip
      exact absurd hm9 (fun z => z.elim c_1 (fun y => Int32.not_lt.mpr c_2 y))
    · skip
      exact vx_throwS (own := RX0) (cls := "java/lang/IllegalArgumentException") (names := ["java/lang/RuntimeException", "java/lang/Exception"]) hx hb hst hown (by decide +kernel) (by decide +kernel) (hts (.classLink RX0 30 "java/lang/IllegalArgumentException") (by decide +kernel)) (hts (.initialized "java/lang/IllegalArgumentException") (by decide +kernel)) (hX.2.2.1 (50, "1 .. 8 bytes can be put") (by decide +kernel)) (hat_IA (fun w hw => hts w ((by decide +kernel : ∀ w ∈ (atIA).filter goodWord, w ∈ wsX0_put) w hw)) hX) (by decide +kernel) hX.1 hX.2.1 hS (hl.1.trans hml.symm) dX0_put_11 dX0_put_14 dX0_put_15 dX0_put_17 dX0_put_20 (fun x hx => (hEx x hx).elim) (Nat.le_of_ble_eq_true rfl) (Nat.le_of_ble_eq_true rfl) (Nat.le_of_ble_eq_true rfl) (Nat.le_of_ble_eq_true rfl) hlocks (fun t ha hsz hk => ⟨(), trivial, ⟨rfl, hP.kept (fun k q hq => hk q.1 (hP k q hq).lt), va_K.moved ha hK, hD⟩, Nat.le_trans hS.1 hsz, fun q h1 h2 => (hk q (Nat.lt_of_lt_of_le h1 hS.1)).trans (hS.2.1 q h1 h2)⟩) hS.2.2 (Nat.le_of_ble_eq_true rfl) (Nat.le_of_ble_eq_true rfl)
set_option maxHeartbeats 4000000 in
set_option maxRecDepth 100000 in
theorem c_X0_put_f (l : Launch) (hst : l.stackTraces = false) (sa : Nat → Nat) (dC : Nat → ClassId) (dI : Nat → Nat → Nat) (tk tw : Nat) (h a b : Nat) (cB cJ : ClassId) (sz : Nat) (f : Nat → Int32) (g : Nat → Int64) (zc : Int32) (zg : Int32) (zo : Int32) (n8 : Nat) (hn8 : n8 ≤ 4096) (k9 : Nat) (hk9 : 1 ≤ k9 ∧ k9 ≤ 8) (x9 : Int64) (hr9 : 4096 < n8 + k9) : vx_Met l yX0_put wsX0_put ({ frames := 6, cells := 1, slots := 6, locals := 82 }) (va_Pc [.ref h, .long x9, .int (nI k9)] (prx dC dI (t0 cB cJ) (w0 h a b cB cJ f g (nI n8) zc zg zo) sz tk tw sa)) (va_Qi (fun (_ : Int32) (_ : Unit) => False) (fun _ _ => True) (va_A (w0 h a b cB cJ f g (nI n8) zc zg zo) sz)) (vx_X (fun (_ : Unit) => True) (fun (E : String) (_ : Unit) => fun t => E = "java/lang/IllegalStateException" ∧ po dC dI (t0 cB cJ) (va_A (w0 h a b cB cJ f g (nI n8) zc zg zo) sz) (w0 h a b cB cJ f g (nI n8) zc zg zo) t) (va_A (w0 h a b cB cJ f g (nI n8) zc zg zo) sz)) 1 6 (va_A (w0 h a b cB cJ f g (nI n8) zc zg zo) sz) := by
  refine vx_ofW (cc := cX0_put) (maxL := 4) (ret := (some .int)) (by decide) rfl ?_
  intro p e s m args below meth c s₁ Bd hml hEx hv
  obtain ⟨rfl, hsz, hP, hK, hD0, hZ, hX⟩ := hv
  have hx := Bd.exec
  have hb := Bd.bytes
  have hr := Bd.returns
  have hts := atoms_spec (ws := wsX0_put) Bd.pre
  have hown : s.vm.findClass RX0 = some m.cls := findClass_of_methodNamed Bd.named
  have hlocks := Bd.notSynchronized
  subst hsz
  have hD := hD0.self (sz := s.heap.size)
  generalize hAe : va_A (w0 h a b cB cJ f g (nI n8) zc zg zo) s.heap.size = A at hD hZ hX ⊢
  have hA : ∀ q : Nat, s.heap.size ≤ q → A q := fun q h => by rw [← hAe]; exact Or.inr h
  have hS : va_S A s.heap s.heap [] := va_S.rf
  have hP : va_P (dC, dI) vwCl (w0 h a b cB cJ f g (nI n8) zc zg zo) s.heap := hP
  have hl := lv_entry ([.ref h, .long x9, .int (nI k9)]) (n := 4) (Nat.le_of_ble_eq_true rfl)
  rw [lg_entry_eq]
  generalize (lg_sl ([.ref h, .long x9, .int (nI k9)]) ++ List.replicate (4 - (lg_sl ([.ref h, .long x9, .int (nI k9)])).length) Slot.unset).toArray = ls at hl ⊢
  have hl : lv_has ls 4 [(0, .ref h), (1, .long x9), (3, .int (nI k9))] := hl
  refine lv_iload_n hx hb dX0_put_0 rfl (lv_at hl 2 rfl) ?_
  refine lv_iconst (v := 1) hx hb dX0_put_1 (by decide) ?_
  refine lv_icmp_lt (tgt := 11) hx hb dX0_put_2 (by decide) (fun c_1 => ?_) (fun c_1 => ?_)
  · skip
    exact absurd c_1 (nI_nlt (b := 1) hk9.1 (by omega))
  · skip
    refine lv_iload_n hx hb dX0_put_5 rfl (lv_at hl 2 rfl) ?_
    refine lv_bipush (v := 8) hx hb dX0_put_6 (by decide) ?_
    refine lv_icmp_le (tgt := 21) hx hb dX0_put_8 (by decide) (fun c_2 => ?_) (fun c_2 => ?_)
    · skip
      refine lv_aload_n hx hb dX0_put_21 rfl (lv_at hl 0 rfl) ?_
      refine lv_iload_n hx hb dX0_put_22 rfl (lv_at hl 2 rfl) ?_
      refine gvi (As := [.int (nI k9)]) (rest := []) ⟨hx, hb, hml, hown, hts⟩ (c_X0_hasRoom l dC dI tk tw h a b cB cJ _ f g zc zg zo n8 hn8 k9 (by omega)) (cwV 1 hts gX0_put_X0_hasRoom rfl rfl rfl (by decide +kernel) ⟨Nat.le_of_ble_eq_true rfl, Nat.le_of_ble_eq_true rfl⟩) hK hP hD hS hA hZ (q0 := 0) (ci := 0) rfl rfl rfl rfl hl.1 rfl (Nat.le_of_ble_eq_true rfl) dX0_put_23 ⟨Nat.le_of_ble_eq_true rfl, Nat.le_of_ble_eq_true rfl⟩ (fun r_4 u_5 H locs hw_3 hP hD hS => ?_)
      obtain rfl : r_4 = 0 := hw_3.trans (if_neg (by omega))
      refine lv_if_ne (tgt := 39) hx hb dX0_put_26 (by decide) (fun c_6 => ?_) (fun c_6 => ?_)
      · skip
        exact absurd (by decide) c_6
      · skip
        exact vx_throwS (own := RX0) (cls := "java/lang/IllegalStateException") (names := ["java/lang/RuntimeException", "java/lang/Exception"]) hx hb hst hown (by decide +kernel) (by decide +kernel) (hts (.classLink RX0 41 "java/lang/IllegalStateException") (by decide +kernel)) (hts (.initialized "java/lang/IllegalStateException") (by decide +kernel)) (hX.2.2.1 (52, "no room for so many bytes") (by decide +kernel)) (hat_IS (fun w hw => hts w ((by decide +kernel : ∀ w ∈ (atIS).filter goodWord, w ∈ wsX0_put) w hw)) hX) (by decide +kernel) hX.1 hX.2.1 hS (hl.1.trans hml.symm) dX0_put_29 dX0_put_32 dX0_put_33 dX0_put_35 dX0_put_38 (fun x hx => (hEx x hx).elim) (Nat.le_of_ble_eq_true rfl) (Nat.le_of_ble_eq_true rfl) (Nat.le_of_ble_eq_true rfl) (Nat.le_of_ble_eq_true rfl) hlocks (fun t ha hsz hk => ⟨(), trivial, ⟨rfl, hP.kept (fun k q hq => hk q.1 (hP k q hq).lt), va_K.moved ha hK, hD⟩, Nat.le_trans hS.1 hsz, fun q h1 h2 => (hk q (Nat.lt_of_lt_of_le h1 hS.1)).trans (hS.2.1 q h1 h2)⟩) hS.2.2 (Nat.le_of_ble_eq_true rfl) (Nat.le_of_ble_eq_true rfl)
    · skip
      exact absurd (nI_le (b := 8) hk9.2 (by decide)) c_2
set_option maxHeartbeats 4000000 in
set_option maxRecDepth 100000 in
theorem c_X0_cut_b (l : Launch) (hst : l.stackTraces = false) (sa : Nat → Nat) (dC : Nat → ClassId) (dI : Nat → Nat → Nat) (tk tw : Nat) (h a b : Nat) (cB cJ : ClassId) (sz : Nat) (f : Nat → Int32) (g : Nat → Int64) (zg : Int32) (zo : Int32) (n8 c9 : Nat) (hn8 : n8 ≤ 4096) (hc9 : c9 ≤ n8) (m9 : Int32) (hm9 : m9 < 0 ∨ nI (n8 - c9) < m9) : vx_Met l yX0_cut wsX0_cut ({ frames := 6, cells := 1, slots := 6, locals := 82 }) (va_Pc [.ref h, .int m9] (prx dC dI (t0 cB cJ) (w0 h a b cB cJ f g (nI n8) (nI c9) zg zo) sz tk tw sa)) (va_Qi (fun (_ : Int32) (_ : Unit) => False) (fun _ _ => True) (va_A (w0 h a b cB cJ f g (nI n8) (nI c9) zg zo) sz)) (vx_X (fun (_ : Unit) => True) (fun (E : String) (_ : Unit) => fun t => E = "java/lang/IllegalArgumentException" ∧ po dC dI (t0 cB cJ) (va_A (w0 h a b cB cJ f g (nI n8) (nI c9) zg zo) sz) (w0 h a b cB cJ f g (nI n8) (nI c9) zg zo) t) (va_A (w0 h a b cB cJ f g (nI n8) (nI c9) zg zo) sz)) 1 6 (va_A (w0 h a b cB cJ f g (nI n8) (nI c9) zg zo) sz) := by
  refine vx_ofW (cc := cX0_cut) (maxL := 2) (ret := (some .int)) (by decide) rfl ?_
  intro p e s m args below meth c s₁ Bd hml hEx hv
  obtain ⟨rfl, hsz, hP, hK, hD0, hZ, hX⟩ := hv
  have hx := Bd.exec
  have hb := Bd.bytes
  have hr := Bd.returns
  have hts := atoms_spec (ws := wsX0_cut) Bd.pre
  have hown : s.vm.findClass RX0 = some m.cls := findClass_of_methodNamed Bd.named
  have hlocks := Bd.notSynchronized
  subst hsz
  have hD := hD0.self (sz := s.heap.size)
  generalize hAe : va_A (w0 h a b cB cJ f g (nI n8) (nI c9) zg zo) s.heap.size = A at hD hZ hX ⊢
  have hA : ∀ q : Nat, s.heap.size ≤ q → A q := fun q h => by rw [← hAe]; exact Or.inr h
  have hS : va_S A s.heap s.heap [] := va_S.rf
  have hP : va_P (dC, dI) vwCl (w0 h a b cB cJ f g (nI n8) (nI c9) zg zo) s.heap := hP
  have hin0 : ∀ w ∈ wsX00, w ∈ wsX0_cut := by decide +kernel
  have fl13 := hts (.fieldLink RX0 13 "MessageReader" "size" "I") (by decide +kernel)
  have fl17 := hts (.fieldLink RX0 17 "MessageReader" "consumed" "I") (by decide +kernel)
  have hl := lv_entry ([.ref h, .int m9]) (n := 2) (Nat.le_of_ble_eq_true rfl)
  rw [lg_entry_eq]
  generalize (lg_sl ([.ref h, .int m9]) ++ List.replicate (2 - (lg_sl ([.ref h, .int m9])).length) Slot.unset).toArray = ls at hl ⊢
  have hl : lv_has ls 2 [(0, .ref h), (1, .int m9)] := hl
  refine lv_iload_n hx hb dX0_cut_0 rfl (lv_at hl 1 rfl) ?_
  refine lv_if_lt (tgt := 17) hx hb dX0_cut_1 (by decide) (fun c_1 => ?_) (fun c_1 => ?_)
  · skip
    exact vx_throwS (own := RX0) (cls := "java/lang/IllegalArgumentException") (names := ["java/lang/RuntimeException", "java/lang/Exception"]) hx hb hst hown (by decide +kernel) (by decide +kernel) (hts (.classLink RX0 30 "java/lang/IllegalArgumentException") (by decide +kernel)) (hts (.initialized "java/lang/IllegalArgumentException") (by decide +kernel)) (hX.2.2.1 (54, "only bytes that are not consumed can be cut") (by decide +kernel)) (hat_IA (fun w hw => hts w ((by decide +kernel : ∀ w ∈ (atIA).filter goodWord, w ∈ wsX0_cut) w hw)) hX) (by decide +kernel) hX.1 hX.2.1 hS (hl.1.trans hml.symm) dX0_cut_17 dX0_cut_20 dX0_cut_21 dX0_cut_23 dX0_cut_26 (fun x hx => (hEx x hx).elim) (Nat.le_of_ble_eq_true rfl) (Nat.le_of_ble_eq_true rfl) (Nat.le_of_ble_eq_true rfl) (Nat.le_of_ble_eq_true rfl) hlocks (fun t ha hsz hk => ⟨(), trivial, ⟨rfl, hP.kept (fun k q hq => hk q.1 (hP k q hq).lt), va_K.moved ha hK, hD⟩, Nat.le_trans hS.1 hsz, fun q h1 h2 => (hk q (Nat.lt_of_lt_of_le h1 hS.1)).trans (hS.2.1 q h1 h2)⟩) hS.2.2 (Nat.le_of_ble_eq_true rfl) (Nat.le_of_ble_eq_true rfl)
  · skip
    refine lv_iload_n hx hb dX0_cut_4 rfl (lv_at hl 1 rfl) ?_
    refine lv_aload_n hx hb dX0_cut_5 rfl (lv_at hl 0 rfl) ?_
    refine va_get (D := (dC, dI)) (ci := 0) (v := .int (nI n8)) (C := RX0) (T := TX0) (N := 6) hx hb hts hin0 hown hK hP 0 rfl rfl 1 (by decide) fl13 (fun _ h9 => h9) rfl dX0_cut_6 ?_
    refine lv_aload_n hx hb dX0_cut_9 rfl (lv_at hl 0 rfl) ?_
    refine va_get (D := (dC, dI)) (ci := 0) (v := .int (nI c9)) (C := RX0) (T := TX0) (N := 6) hx hb hts hin0 hown hK hP 0 rfl rfl 2 (by decide) fl17 (fun _ h9 => h9) rfl dX0_cut_10 ?_
    refine lv_isub hx hb dX0_cut_13 ?_
    have e_2 : ((nI n8) - (nI c9) : Int32) = nI (n8 - c9) := pk_sub hc9
    rw [e_2]
    refine lv_icmp_le (tgt := 27) hx hb dX0_cut_14 (by decide) (fun c_3 => ?_) (fun c_3 => ?_)
    · skip
      exact absurd hm9 (fun z => z.elim c_1 (fun y => Int32.not_lt.mpr c_3 y))
    · skip
      exact vx_throwS (own := RX0) (cls := "java/lang/IllegalArgumentException") (names := ["java/lang/RuntimeException", "java/lang/Exception"]) hx hb hst hown (by decide +kernel) (by decide +kernel) (hts (.classLink RX0 30 "java/lang/IllegalArgumentException") (by decide +kernel)) (hts (.initialized "java/lang/IllegalArgumentException") (by decide +kernel)) (hX.2.2.1 (54, "only bytes that are not consumed can be cut") (by decide +kernel)) (hat_IA (fun w hw => hts w ((by decide +kernel : ∀ w ∈ (atIA).filter goodWord, w ∈ wsX0_cut) w hw)) hX) (by decide +kernel) hX.1 hX.2.1 hS (hl.1.trans hml.symm) dX0_cut_17 dX0_cut_20 dX0_cut_21 dX0_cut_23 dX0_cut_26 (fun x hx => (hEx x hx).elim) (Nat.le_of_ble_eq_true rfl) (Nat.le_of_ble_eq_true rfl) (Nat.le_of_ble_eq_true rfl) (Nat.le_of_ble_eq_true rfl) hlocks (fun t ha hsz hk => ⟨(), trivial, ⟨rfl, hP.kept (fun k q hq => hk q.1 (hP k q hq).lt), va_K.moved ha hK, hD⟩, Nat.le_trans hS.1 hsz, fun q h1 h2 => (hk q (Nat.lt_of_lt_of_le h1 hS.1)).trans (hS.2.1 q h1 h2)⟩) hS.2.2 (Nat.le_of_ble_eq_true rfl) (Nat.le_of_ble_eq_true rfl)
set_option maxHeartbeats 4000000 in
set_option maxRecDepth 100000 in
theorem c_X0_byteAt_b (l : Launch) (hst : l.stackTraces = false) (sa : Nat → Nat) (dC : Nat → ClassId) (dI : Nat → Nat → Nat) (tk tw : Nat) (h a b : Nat) (cB cJ : ClassId) (sz : Nat) (f : Nat → Int32) (g : Nat → Int64) (zc : Int32) (zg : Int32) (zo : Int32) (n8 : Nat) (hn8 : n8 ≤ 4096) (i9 : Int32) (hi9 : i9 < 0 ∨ nI n8 ≤ i9) : vx_Met l yX0_byteAt wsX0_byteAt ({ frames := 6, cells := 1, slots := 6, locals := 82 }) (va_Pc [.ref h, .int i9] (prx dC dI (t0 cB cJ) (w0 h a b cB cJ f g (nI n8) zc zg zo) sz tk tw sa)) (va_Qi (fun (_ : Int32) (_ : Unit) => False) (fun _ _ => True) (va_A (w0 h a b cB cJ f g (nI n8) zc zg zo) sz)) (vx_X (fun (_ : Unit) => True) (fun (E : String) (_ : Unit) => fun t => E = "java/lang/IllegalArgumentException" ∧ po dC dI (t0 cB cJ) (va_A (w0 h a b cB cJ f g (nI n8) zc zg zo) sz) (w0 h a b cB cJ f g (nI n8) zc zg zo) t) (va_A (w0 h a b cB cJ f g (nI n8) zc zg zo) sz)) 1 6 (va_A (w0 h a b cB cJ f g (nI n8) zc zg zo) sz) := by
  refine vx_ofW (cc := cX0_byteAt) (maxL := 2) (ret := (some .int)) (by decide) rfl ?_
  intro p e s m args below meth c s₁ Bd hml hEx hv
  obtain ⟨rfl, hsz, hP, hK, hD0, hZ, hX⟩ := hv
  have hx := Bd.exec
  have hb := Bd.bytes
  have hr := Bd.returns
  have hts := atoms_spec (ws := wsX0_byteAt) Bd.pre
  have hown : s.vm.findClass RX0 = some m.cls := findClass_of_methodNamed Bd.named
  have hlocks := Bd.notSynchronized
  subst hsz
  have hD := hD0.self (sz := s.heap.size)
  generalize hAe : va_A (w0 h a b cB cJ f g (nI n8) zc zg zo) s.heap.size = A at hD hZ hX ⊢
  have hA : ∀ q : Nat, s.heap.size ≤ q → A q := fun q h => by rw [← hAe]; exact Or.inr h
  have hS : va_S A s.heap s.heap [] := va_S.rf
  have hP : va_P (dC, dI) vwCl (w0 h a b cB cJ f g (nI n8) zc zg zo) s.heap := hP
  have hin0 : ∀ w ∈ wsX00, w ∈ wsX0_byteAt := by decide +kernel
  have fl13 := hts (.fieldLink RX0 13 "MessageReader" "size" "I") (by decide +kernel)
  have hl := lv_entry ([.ref h, .int i9]) (n := 2) (Nat.le_of_ble_eq_true rfl)
  rw [lg_entry_eq]
  generalize (lg_sl ([.ref h, .int i9]) ++ List.replicate (2 - (lg_sl ([.ref h, .int i9])).length) Slot.unset).toArray = ls at hl ⊢
  have hl : lv_has ls 2 [(0, .ref h), (1, .int i9)] := hl
  refine lv_iload_n hx hb dX0_byteAt_0 rfl (lv_at hl 1 rfl) ?_
  refine lv_if_lt (tgt := 12) hx hb dX0_byteAt_1 (by decide) (fun c_1 => ?_) (fun c_1 => ?_)
  · skip
    exact vx_throwS (own := RX0) (cls := "java/lang/IllegalArgumentException") (names := ["java/lang/RuntimeException", "java/lang/Exception"]) hx hb hst hown (by decide +kernel) (by decide +kernel) (hts (.classLink RX0 30 "java/lang/IllegalArgumentException") (by decide +kernel)) (hts (.initialized "java/lang/IllegalArgumentException") (by decide +kernel)) (hX.2.2.1 (56, "there is no such byte") (by decide +kernel)) (hat_IA (fun w hw => hts w ((by decide +kernel : ∀ w ∈ (atIA).filter goodWord, w ∈ wsX0_byteAt) w hw)) hX) (by decide +kernel) hX.1 hX.2.1 hS (hl.1.trans hml.symm) dX0_byteAt_12 dX0_byteAt_15 dX0_byteAt_16 dX0_byteAt_18 dX0_byteAt_21 (fun x hx => (hEx x hx).elim) (Nat.le_of_ble_eq_true rfl) (Nat.le_of_ble_eq_true rfl) (Nat.le_of_ble_eq_true rfl) (Nat.le_of_ble_eq_true rfl) hlocks (fun t ha hsz hk => ⟨(), trivial, ⟨rfl, hP.kept (fun k q hq => hk q.1 (hP k q hq).lt), va_K.moved ha hK, hD⟩, Nat.le_trans hS.1 hsz, fun q h1 h2 => (hk q (Nat.lt_of_lt_of_le h1 hS.1)).trans (hS.2.1 q h1 h2)⟩) hS.2.2 (Nat.le_of_ble_eq_true rfl) (Nat.le_of_ble_eq_true rfl)
  · skip
    refine lv_iload_n hx hb dX0_byteAt_4 rfl (lv_at hl 1 rfl) ?_
    refine lv_aload_n hx hb dX0_byteAt_5 rfl (lv_at hl 0 rfl) ?_
    refine va_get (D := (dC, dI)) (ci := 0) (v := .int (nI n8)) (C := RX0) (T := TX0) (N := 6) hx hb hts hin0 hown hK hP 0 rfl rfl 1 (by decide) fl13 (fun _ h9 => h9) rfl dX0_byteAt_6 ?_
    refine lv_icmp_lt (tgt := 22) hx hb dX0_byteAt_9 (by decide) (fun c_2 => ?_) (fun c_2 => ?_)
    · skip
      exact absurd hi9 (fun z => z.elim c_1 (fun y => Int32.not_lt.mpr y c_2))
    · skip
      exact vx_throwS (own := RX0) (cls := "java/lang/IllegalArgumentException") (names := ["java/lang/RuntimeException", "java/lang/Exception"]) hx hb hst hown (by decide +kernel) (by decide +kernel) (hts (.classLink RX0 30 "java/lang/IllegalArgumentException") (by decide +kernel)) (hts (.initialized "java/lang/IllegalArgumentException") (by decide +kernel)) (hX.2.2.1 (56, "there is no such byte") (by decide +kernel)) (hat_IA (fun w hw => hts w ((by decide +kernel : ∀ w ∈ (atIA).filter goodWord, w ∈ wsX0_byteAt) w hw)) hX) (by decide +kernel) hX.1 hX.2.1 hS (hl.1.trans hml.symm) dX0_byteAt_12 dX0_byteAt_15 dX0_byteAt_16 dX0_byteAt_18 dX0_byteAt_21 (fun x hx => (hEx x hx).elim) (Nat.le_of_ble_eq_true rfl) (Nat.le_of_ble_eq_true rfl) (Nat.le_of_ble_eq_true rfl) (Nat.le_of_ble_eq_true rfl) hlocks (fun t ha hsz hk => ⟨(), trivial, ⟨rfl, hP.kept (fun k q hq => hk q.1 (hP k q hq).lt), va_K.moved ha hK, hD⟩, Nat.le_trans hS.1 hsz, fun q h1 h2 => (hk q (Nat.lt_of_lt_of_le h1 hS.1)).trans (hS.2.1 q h1 h2)⟩) hS.2.2 (Nat.le_of_ble_eq_true rfl) (Nat.le_of_ble_eq_true rfl)
set_option maxHeartbeats 4000000 in
set_option maxRecDepth 100000 in
theorem c_X0_remaining_b (l : Launch) (hst : l.stackTraces = false) (sa : Nat → Nat) (dC : Nat → ClassId) (dI : Nat → Nat → Nat) (tk tw : Nat) (h a b : Nat) (cB cJ : ClassId) (sz : Nat) (f : Nat → Int32) (g : Nat → Int64) (zs : Int32) (zc : Int32) (zg : Int32) (zo : Int32) (i9 : Int32) (hi9 : i9 < 0) : vx_Met l yX0_remaining wsX0_remaining ({ frames := 6, cells := 1, slots := 6, locals := 82 }) (va_Pc [.ref h, .int i9] (prx dC dI (t0 cB cJ) (w0 h a b cB cJ f g zs zc zg zo) sz tk tw sa)) (va_Ql (fun (_ : Int64) (_ : Unit) => False) (fun _ _ => True) (va_A (w0 h a b cB cJ f g zs zc zg zo) sz)) (vx_X (fun (_ : Unit) => True) (fun (E : String) (_ : Unit) => fun t => E = "java/lang/IllegalArgumentException" ∧ po dC dI (t0 cB cJ) (va_A (w0 h a b cB cJ f g zs zc zg zo) sz) (w0 h a b cB cJ f g zs zc zg zo) t) (va_A (w0 h a b cB cJ f g zs zc zg zo) sz)) 1 6 (va_A (w0 h a b cB cJ f g zs zc zg zo) sz) := by
  refine vx_ofW (cc := cX0_remaining) (maxL := 2) (ret := (some .long)) (by decide) rfl ?_
  intro p e s m args below meth c s₁ Bd hml hEx hv
  obtain ⟨rfl, hsz, hP, hK, hD0, hZ, hX⟩ := hv
  have hx := Bd.exec
  have hb := Bd.bytes
  have hr := Bd.returns
  have hts := atoms_spec (ws := wsX0_remaining) Bd.pre
  have hown : s.vm.findClass RX0 = some m.cls := findClass_of_methodNamed Bd.named
  have hlocks := Bd.notSynchronized
  subst hsz
  have hD := hD0.self (sz := s.heap.size)
  generalize hAe : va_A (w0 h a b cB cJ f g zs zc zg zo) s.heap.size = A at hD hZ hX ⊢
  have hA : ∀ q : Nat, s.heap.size ≤ q → A q := fun q h => by rw [← hAe]; exact Or.inr h
  have hS : va_S A s.heap s.heap [] := va_S.rf
  have hP : va_P (dC, dI) vwCl (w0 h a b cB cJ f g zs zc zg zo) s.heap := hP
  have hl := lv_entry ([.ref h, .int i9]) (n := 2) (Nat.le_of_ble_eq_true rfl)
  rw [lg_entry_eq]
  generalize (lg_sl ([.ref h, .int i9]) ++ List.replicate (2 - (lg_sl ([.ref h, .int i9])).length) Slot.unset).toArray = ls at hl ⊢
  have hl : lv_has ls 2 [(0, .ref h), (1, .int i9)] := hl
  refine lv_iload_n hx hb dX0_remaining_0 rfl (lv_at hl 1 rfl) ?_
  refine lv_if_ge (tgt := 14) hx hb dX0_remaining_1 (by decide) (fun c_1 => ?_) (fun c_1 => ?_)
  · skip
    exact absurd c_1 (Int32.not_le.mpr hi9)
  · skip
    exact vx_throwS (own := RX0) (cls := "java/lang/IllegalArgumentException") (names := ["java/lang/RuntimeException", "java/lang/Exception"]) hx hb hst hown (by decide +kernel) (by decide +kernel) (hts (.classLink RX0 30 "java/lang/IllegalArgumentException") (by decide +kernel)) (hts (.initialized "java/lang/IllegalArgumentException") (by decide +kernel)) (hX.2.2.1 (101, "containers are counted from 0 on") (by decide +kernel)) (hat_IA (fun w hw => hts w ((by decide +kernel : ∀ w ∈ (atIA).filter goodWord, w ∈ wsX0_remaining) w hw)) hX) (by decide +kernel) hX.1 hX.2.1 hS (hl.1.trans hml.symm) dX0_remaining_4 dX0_remaining_7 dX0_remaining_8 dX0_remaining_10 dX0_remaining_13 (fun x hx => (hEx x hx).elim) (Nat.le_of_ble_eq_true rfl) (Nat.le_of_ble_eq_true rfl) (Nat.le_of_ble_eq_true rfl) (Nat.le_of_ble_eq_true rfl) hlocks (fun t ha hsz hk => ⟨(), trivial, ⟨rfl, hP.kept (fun k q hq => hk q.1 (hP k q hq).lt), va_K.moved ha hK, hD⟩, Nat.le_trans hS.1 hsz, fun q h1 h2 => (hk q (Nat.lt_of_lt_of_le h1 hS.1)).trans (hS.2.1 q h1 h2)⟩) hS.2.2 (Nat.le_of_ble_eq_true rfl) (Nat.le_of_ble_eq_true rfl)
set_option maxHeartbeats 4000000 in
set_option maxRecDepth 100000 in
theorem c_X0_pack_b (l : Launch) (hst : l.stackTraces = false) (sa : Nat → Nat) (dC : Nat → ClassId) (dI : Nat → Nat → Nat) (tk tw : Nat) (h a b : Nat) (cB cJ : ClassId) (sz : Nat) (f : Nat → Int32) (g : Nat → Int64) (zs : Int32) (zc : Int32) (zg : Int32) (zo : Int32) (k9 lo hi : Int32) (hb9 : ¬ (0 < k9 ∧ k9 < 13 ∧ (¬ k9 < 8 → ¬ lo < 0) ∧ (k9 = 12 → ¬ hi < -128 ∧ ¬ 127 < hi))) : vx_Met l yX0_pack wsX0_pack ({ frames := 6, cells := 1, slots := 6, locals := 82 }) (va_Pc [.ref h, .int k9, .int lo, .int hi] (prx dC dI (t0 cB cJ) (w0 h a b cB cJ f g zs zc zg zo) sz tk tw sa)) (va_Qi (fun (_ : Int32) (_ : Unit) => False) (fun _ _ => True) (va_A (w0 h a b cB cJ f g zs zc zg zo) sz)) (vx_X (fun (_ : Unit) => True) (fun (E : String) (_ : Unit) => fun t => E = "java/lang/IllegalArgumentException" ∧ po dC dI (t0 cB cJ) (va_A (w0 h a b cB cJ f g zs zc zg zo) sz) (w0 h a b cB cJ f g zs zc zg zo) t) (va_A (w0 h a b cB cJ f g zs zc zg zo) sz)) 1 6 (va_A (w0 h a b cB cJ f g zs zc zg zo) sz) := by
  refine vx_ofW (cc := cX0_pack) (maxL := 8) (ret := (some .int)) (by decide) rfl ?_
  intro p e s m args below meth c s₁ Bd hml hEx hv
  obtain ⟨rfl, hsz, hP, hK, hD0, hZ, hX⟩ := hv
  have hx := Bd.exec
  have hb := Bd.bytes
  have hr := Bd.returns
  have hts := atoms_spec (ws := wsX0_pack) Bd.pre
  have hown : s.vm.findClass RX0 = some m.cls := findClass_of_methodNamed Bd.named
  have hlocks := Bd.notSynchronized
  subst hsz
  have hD := hD0.self (sz := s.heap.size)
  generalize hAe : va_A (w0 h a b cB cJ f g zs zc zg zo) s.heap.size = A at hD hZ hX ⊢
  have hA : ∀ q : Nat, s.heap.size ≤ q → A q := fun q h => by rw [← hAe]; exact Or.inr h
  have hS : va_S A s.heap s.heap [] := va_S.rf
  have hP : va_P (dC, dI) vwCl (w0 h a b cB cJ f g zs zc zg zo) s.heap := hP
  have hl := lv_entry ([.ref h, .int k9, .int lo, .int hi]) (n := 8) (Nat.le_of_ble_eq_true rfl)
  rw [lg_entry_eq]
  generalize (lg_sl ([.ref h, .int k9, .int lo, .int hi]) ++ List.replicate (8 - (lg_sl ([.ref h, .int k9, .int lo, .int hi])).length) Slot.unset).toArray = ls at hl ⊢
  have hl : lv_has ls 8 [(0, .ref h), (1, .int k9), (2, .int lo), (3, .int hi)] := hl
  refine lv_iload_n hx hb dX0_pack_0 rfl (lv_at hl 1 rfl) ?_
  refine lv_iconst (v := 1) hx hb dX0_pack_1 (by decide) ?_
  refine lv_icmp_lt (tgt := 11) hx hb dX0_pack_2 (by decide) (fun c_1 => ?_) (fun c_1 => ?_)
  · skip
    exact vx_throwS (own := RX0) (cls := "java/lang/IllegalArgumentException") (names := ["java/lang/RuntimeException", "java/lang/Exception"]) hx hb hst hown (by decide +kernel) (by decide +kernel) (hts (.classLink RX0 30 "java/lang/IllegalArgumentException") (by decide +kernel)) (hts (.initialized "java/lang/IllegalArgumentException") (by decide +kernel)) (hX.2.2.1 (108, "there is no such kind") (by decide +kernel)) (hat_IA (fun w hw => hts w ((by decide +kernel : ∀ w ∈ (atIA).filter goodWord, w ∈ wsX0_pack) w hw)) hX) (by decide +kernel) hX.1 hX.2.1 hS (hl.1.trans hml.symm) dX0_pack_11 dX0_pack_14 dX0_pack_15 dX0_pack_17 dX0_pack_20 (fun x hx => (hEx x hx).elim) (Nat.le_of_ble_eq_true rfl) (Nat.le_of_ble_eq_true rfl) (Nat.le_of_ble_eq_true rfl) (Nat.le_of_ble_eq_true rfl) hlocks (fun t ha hsz hk => ⟨(), trivial, ⟨rfl, hP.kept (fun k q hq => hk q.1 (hP k q hq).lt), va_K.moved ha hK, hD⟩, Nat.le_trans hS.1 hsz, fun q h1 h2 => (hk q (Nat.lt_of_lt_of_le h1 hS.1)).trans (hS.2.1 q h1 h2)⟩) hS.2.2 (Nat.le_of_ble_eq_true rfl) (Nat.le_of_ble_eq_true rfl)
  · skip
    refine lv_iload_n hx hb dX0_pack_5 rfl (lv_at hl 1 rfl) ?_
    refine lv_bipush (v := 12) hx hb dX0_pack_6 (by decide) ?_
    refine lv_icmp_le (tgt := 21) hx hb dX0_pack_8 (by decide) (fun c_2 => ?_) (fun c_2 => ?_)
    · skip
      refine lv_iload_n hx hb dX0_pack_21 rfl (lv_at hl 1 rfl) ?_
      refine lv_bipush (v := 8) hx hb dX0_pack_22 (by decide) ?_
      refine lv_icmp_lt (tgt := 41) hx hb dX0_pack_24 (by decide) (fun c_3 => ?_) (fun c_3 => ?_)
      · skip
        refine lv_iload_n hx hb dX0_pack_41 rfl (lv_at hl 1 rfl) ?_
        refine lv_bipush (v := 12) hx hb dX0_pack_42 (by decide) ?_
        refine lv_icmp_ne (tgt := 69) hx hb dX0_pack_44 (by decide) (fun c_4 => ?_) (fun c_4 => ?_)
        · skip
          exact absurd ⟨k_pos c_1, k_lt13 c_2, fun z => absurd c_3 z, fun z => absurd z c_4⟩ hb9
        · skip
          refine lv_iload_n hx hb dX0_pack_47 rfl (lv_at hl 3 rfl) ?_
          refine lv_bipush (v := -128) hx hb dX0_pack_48 (by decide) ?_
          refine lv_icmp_lt (tgt := 59) hx hb dX0_pack_50 (by decide) (fun c_5 => ?_) (fun c_5 => ?_)
          · skip
            exact vx_throwS (own := RX0) (cls := "java/lang/IllegalArgumentException") (names := ["java/lang/RuntimeException", "java/lang/Exception"]) hx hb hst hown (by decide +kernel) (by decide +kernel) (hts (.classLink RX0 30 "java/lang/IllegalArgumentException") (by decide +kernel)) (hts (.initialized "java/lang/IllegalArgumentException") (by decide +kernel)) (hX.2.2.1 (112, "a type is -128 .. 127") (by decide +kernel)) (hat_IA (fun w hw => hts w ((by decide +kernel : ∀ w ∈ (atIA).filter goodWord, w ∈ wsX0_pack) w hw)) hX) (by decide +kernel) hX.1 hX.2.1 hS (hl.1.trans hml.symm) dX0_pack_59 dX0_pack_62 dX0_pack_63 dX0_pack_65 dX0_pack_68 (fun x hx => (hEx x hx).elim) (Nat.le_of_ble_eq_true rfl) (Nat.le_of_ble_eq_true rfl) (Nat.le_of_ble_eq_true rfl) (Nat.le_of_ble_eq_true rfl) hlocks (fun t ha hsz hk => ⟨(), trivial, ⟨rfl, hP.kept (fun k q hq => hk q.1 (hP k q hq).lt), va_K.moved ha hK, hD⟩, Nat.le_trans hS.1 hsz, fun q h1 h2 => (hk q (Nat.lt_of_lt_of_le h1 hS.1)).trans (hS.2.1 q h1 h2)⟩) hS.2.2 (Nat.le_of_ble_eq_true rfl) (Nat.le_of_ble_eq_true rfl)
          · skip
            refine lv_iload_n hx hb dX0_pack_53 rfl (lv_at hl 3 rfl) ?_
            refine lv_bipush (v := 127) hx hb dX0_pack_54 (by decide) ?_
            refine lv_icmp_le (tgt := 69) hx hb dX0_pack_56 (by decide) (fun c_6 => ?_) (fun c_6 => ?_)
            · skip
              exact absurd ⟨k_pos c_1, k_lt13 c_2, fun z => absurd c_3 z, fun _ => ⟨c_5, Int32.not_lt.mpr c_6⟩⟩ hb9
            · skip
              exact vx_throwS (own := RX0) (cls := "java/lang/IllegalArgumentException") (names := ["java/lang/RuntimeException", "java/lang/Exception"]) hx hb hst hown (by decide +kernel) (by decide +kernel) (hts (.classLink RX0 30 "java/lang/IllegalArgumentException") (by decide +kernel)) (hts (.initialized "java/lang/IllegalArgumentException") (by decide +kernel)) (hX.2.2.1 (112, "a type is -128 .. 127") (by decide +kernel)) (hat_IA (fun w hw => hts w ((by decide +kernel : ∀ w ∈ (atIA).filter goodWord, w ∈ wsX0_pack) w hw)) hX) (by decide +kernel) hX.1 hX.2.1 hS (hl.1.trans hml.symm) dX0_pack_59 dX0_pack_62 dX0_pack_63 dX0_pack_65 dX0_pack_68 (fun x hx => (hEx x hx).elim) (Nat.le_of_ble_eq_true rfl) (Nat.le_of_ble_eq_true rfl) (Nat.le_of_ble_eq_true rfl) (Nat.le_of_ble_eq_true rfl) hlocks (fun t ha hsz hk => ⟨(), trivial, ⟨rfl, hP.kept (fun k q hq => hk q.1 (hP k q hq).lt), va_K.moved ha hK, hD⟩, Nat.le_trans hS.1 hsz, fun q h1 h2 => (hk q (Nat.lt_of_lt_of_le h1 hS.1)).trans (hS.2.1 q h1 h2)⟩) hS.2.2 (Nat.le_of_ble_eq_true rfl) (Nat.le_of_ble_eq_true rfl)
      · skip
        refine lv_iload_n hx hb dX0_pack_27 rfl (lv_at hl 2 rfl) ?_
        refine lv_if_ge (tgt := 41) hx hb dX0_pack_28 (by decide) (fun c_7 => ?_) (fun c_7 => ?_)
        · skip
          refine lv_iload_n hx hb dX0_pack_41 rfl (lv_at hl 1 rfl) ?_
          refine lv_bipush (v := 12) hx hb dX0_pack_42 (by decide) ?_
          refine lv_icmp_ne (tgt := 69) hx hb dX0_pack_44 (by decide) (fun c_8 => ?_) (fun c_8 => ?_)
          · skip
            exact absurd ⟨k_pos c_1, k_lt13 c_2, fun _ => Int32.not_lt.mpr c_7, fun z => absurd z c_8⟩ hb9
          · skip
            refine lv_iload_n hx hb dX0_pack_47 rfl (lv_at hl 3 rfl) ?_
            refine lv_bipush (v := -128) hx hb dX0_pack_48 (by decide) ?_
            refine lv_icmp_lt (tgt := 59) hx hb dX0_pack_50 (by decide) (fun c_9 => ?_) (fun c_9 => ?_)
            · skip
              exact vx_throwS (own := RX0) (cls := "java/lang/IllegalArgumentException") (names := ["java/lang/RuntimeException", "java/lang/Exception"]) hx hb hst hown (by decide +kernel) (by decide +kernel) (hts (.classLink RX0 30 "java/lang/IllegalArgumentException") (by decide +kernel)) (hts (.initialized "java/lang/IllegalArgumentException") (by decide +kernel)) (hX.2.2.1 (112, "a type is -128 .. 127") (by decide +kernel)) (hat_IA (fun w hw => hts w ((by decide +kernel : ∀ w ∈ (atIA).filter goodWord, w ∈ wsX0_pack) w hw)) hX) (by decide +kernel) hX.1 hX.2.1 hS (hl.1.trans hml.symm) dX0_pack_59 dX0_pack_62 dX0_pack_63 dX0_pack_65 dX0_pack_68 (fun x hx => (hEx x hx).elim) (Nat.le_of_ble_eq_true rfl) (Nat.le_of_ble_eq_true rfl) (Nat.le_of_ble_eq_true rfl) (Nat.le_of_ble_eq_true rfl) hlocks (fun t ha hsz hk => ⟨(), trivial, ⟨rfl, hP.kept (fun k q hq => hk q.1 (hP k q hq).lt), va_K.moved ha hK, hD⟩, Nat.le_trans hS.1 hsz, fun q h1 h2 => (hk q (Nat.lt_of_lt_of_le h1 hS.1)).trans (hS.2.1 q h1 h2)⟩) hS.2.2 (Nat.le_of_ble_eq_true rfl) (Nat.le_of_ble_eq_true rfl)
            · skip
              refine lv_iload_n hx hb dX0_pack_53 rfl (lv_at hl 3 rfl) ?_
              refine lv_bipush (v := 127) hx hb dX0_pack_54 (by decide) ?_
              refine lv_icmp_le (tgt := 69) hx hb dX0_pack_56 (by decide) (fun c_10 => ?_) (fun c_10 => ?_)
              · skip
                exact absurd ⟨k_pos c_1, k_lt13 c_2, fun _ => Int32.not_lt.mpr c_7, fun _ => ⟨c_9, Int32.not_lt.mpr c_10⟩⟩ hb9
              · skip
                exact vx_throwS (own := RX0) (cls := "java/lang/IllegalArgumentException") (names := ["java/lang/RuntimeException", "java/lang/Exception"]) hx hb hst hown (by decide +kernel) (by decide +kernel) (hts (.classLink RX0 30 "java/lang/IllegalArgumentException") (by decide +kernel)) (hts (.initialized "java/lang/IllegalArgumentException") (by decide +kernel)) (hX.2.2.1 (112, "a type is -128 .. 127") (by decide +kernel)) (hat_IA (fun w hw => hts w ((by decide +kernel : ∀ w ∈ (atIA).filter goodWord, w ∈ wsX0_pack) w hw)) hX) (by decide +kernel) hX.1 hX.2.1 hS (hl.1.trans hml.symm) dX0_pack_59 dX0_pack_62 dX0_pack_63 dX0_pack_65 dX0_pack_68 (fun x hx => (hEx x hx).elim) (Nat.le_of_ble_eq_true rfl) (Nat.le_of_ble_eq_true rfl) (Nat.le_of_ble_eq_true rfl) (Nat.le_of_ble_eq_true rfl) hlocks (fun t ha hsz hk => ⟨(), trivial, ⟨rfl, hP.kept (fun k q hq => hk q.1 (hP k q hq).lt), va_K.moved ha hK, hD⟩, Nat.le_trans hS.1 hsz, fun q h1 h2 => (hk q (Nat.lt_of_lt_of_le h1 hS.1)).trans (hS.2.1 q h1 h2)⟩) hS.2.2 (Nat.le_of_ble_eq_true rfl) (Nat.le_of_ble_eq_true rfl)
        · skip
          exact vx_throwS (own := RX0) (cls := "java/lang/IllegalArgumentException") (names := ["java/lang/RuntimeException", "java/lang/Exception"]) hx hb hst hown (by decide +kernel) (by decide +kernel) (hts (.classLink RX0 30 "java/lang/IllegalArgumentException") (by decide +kernel)) (hts (.initialized "java/lang/IllegalArgumentException") (by decide +kernel)) (hX.2.2.1 (110, "a length or count is 0 .. 2^31 - 1") (by decide +kernel)) (hat_IA (fun w hw => hts w ((by decide +kernel : ∀ w ∈ (atIA).filter goodWord, w ∈ wsX0_pack) w hw)) hX) (by decide +kernel) hX.1 hX.2.1 hS (hl.1.trans hml.symm) dX0_pack_31 dX0_pack_34 dX0_pack_35 dX0_pack_37 dX0_pack_40 (fun x hx => (hEx x hx).elim) (Nat.le_of_ble_eq_true rfl) (Nat.le_of_ble_eq_true rfl) (Nat.le_of_ble_eq_true rfl) (Nat.le_of_ble_eq_true rfl) hlocks (fun t ha hsz hk => ⟨(), trivial, ⟨rfl, hP.kept (fun k q hq => hk q.1 (hP k q hq).lt), va_K.moved ha hK, hD⟩, Nat.le_trans hS.1 hsz, fun q h1 h2 => (hk q (Nat.lt_of_lt_of_le h1 hS.1)).trans (hS.2.1 q h1 h2)⟩) hS.2.2 (Nat.le_of_ble_eq_true rfl) (Nat.le_of_ble_eq_true rfl)
    · skip
      exact vx_throwS (own := RX0) (cls := "java/lang/IllegalArgumentException") (names := ["java/lang/RuntimeException", "java/lang/Exception"]) hx hb hst hown (by decide +kernel) (by decide +kernel) (hts (.classLink RX0 30 "java/lang/IllegalArgumentException") (by decide +kernel)) (hts (.initialized "java/lang/IllegalArgumentException") (by decide +kernel)) (hX.2.2.1 (108, "there is no such kind") (by decide +kernel)) (hat_IA (fun w hw => hts w ((by decide +kernel : ∀ w ∈ (atIA).filter goodWord, w ∈ wsX0_pack) w hw)) hX) (by decide +kernel) hX.1 hX.2.1 hS (hl.1.trans hml.symm) dX0_pack_11 dX0_pack_14 dX0_pack_15 dX0_pack_17 dX0_pack_20 (fun x hx => (hEx x hx).elim) (Nat.le_of_ble_eq_true rfl) (Nat.le_of_ble_eq_true rfl) (Nat.le_of_ble_eq_true rfl) (Nat.le_of_ble_eq_true rfl) hlocks (fun t ha hsz hk => ⟨(), trivial, ⟨rfl, hP.kept (fun k q hq => hk q.1 (hP k q hq).lt), va_K.moved ha hK, hD⟩, Nat.le_trans hS.1 hsz, fun q h1 h2 => (hk q (Nat.lt_of_lt_of_le h1 hS.1)).trans (hS.2.1 q h1 h2)⟩) hS.2.2 (Nat.le_of_ble_eq_true rfl) (Nat.le_of_ble_eq_true rfl)
set_option maxHeartbeats 4000000 in
set_option maxRecDepth 100000 in
theorem c_X0_pack_f (l : Launch) (hst : l.stackTraces = false) (sa : Nat → Nat) (dC : Nat → ClassId) (dI : Nat → Nat → Nat) (tk tw : Nat) (h a b : Nat) (cB cJ : ClassId) (sz : Nat) (f : Nat → Int32) (g : Nat → Int64) (zc : Int32) (zg : Int32) (zo : Int32) (n8 : Nat) (hn8 : n8 ≤ 4096) (k9 lo hi : Int32) (hk1 : ¬ k9 < 1) (hk2 : k9 ≤ 12) (h8 : ¬ k9 < 8 → ¬ lo < 0) (h12 : k9 = 12 → ¬ hi < -128 ∧ ¬ 127 < hi) (b9 : Nat) (hb9 : b9 < 256) (hs9 : sF k9 (nO k9 lo hi) = nI b9) (hr9 : 4096 < n8 + hd b9) : vx_Met l yX0_pack wsX0_pack ({ frames := 6, cells := 1, slots := 6, locals := 82 }) (va_Pc [.ref h, .int k9, .int lo, .int hi] (prx dC dI (t0 cB cJ) (w0 h a b cB cJ f g (nI n8) zc zg zo) sz tk tw sa)) (va_Qi (fun (_ : Int32) (_ : Unit) => False) (fun _ _ => True) (va_A (w0 h a b cB cJ f g (nI n8) zc zg zo) sz)) (vx_X (fun (_ : Unit) => True) (fun (E : String) (_ : Unit) => fun t => E = "java/lang/IllegalStateException" ∧ po dC dI (t0 cB cJ) (va_A (w0 h a b cB cJ f g (nI n8) zc zg zo) sz) (w0 h a b cB cJ f g (nI n8) zc zg zo) t) (va_A (w0 h a b cB cJ f g (nI n8) zc zg zo) sz)) 1 6 (va_A (w0 h a b cB cJ f g (nI n8) zc zg zo) sz) := by
  refine vx_ofW (cc := cX0_pack) (maxL := 8) (ret := (some .int)) (by decide) rfl ?_
  intro p e s m args below meth c s₁ Bd hml hEx hv
  obtain ⟨rfl, hsz, hP, hK, hD0, hZ, hX⟩ := hv
  have hx := Bd.exec
  have hb := Bd.bytes
  have hr := Bd.returns
  have hts := atoms_spec (ws := wsX0_pack) Bd.pre
  have hown : s.vm.findClass RX0 = some m.cls := findClass_of_methodNamed Bd.named
  have hlocks := Bd.notSynchronized
  subst hsz
  have hD := hD0.self (sz := s.heap.size)
  generalize hAe : va_A (w0 h a b cB cJ f g (nI n8) zc zg zo) s.heap.size = A at hD hZ hX ⊢
  have hA : ∀ q : Nat, s.heap.size ≤ q → A q := fun q h => by rw [← hAe]; exact Or.inr h
  have hS : va_S A s.heap s.heap [] := va_S.rf
  have hP : va_P (dC, dI) vwCl (w0 h a b cB cJ f g (nI n8) zc zg zo) s.heap := hP
  have hl := lv_entry ([.ref h, .int k9, .int lo, .int hi]) (n := 8) (Nat.le_of_ble_eq_true rfl)
  rw [lg_entry_eq]
  generalize (lg_sl ([.ref h, .int k9, .int lo, .int hi]) ++ List.replicate (8 - (lg_sl ([.ref h, .int k9, .int lo, .int hi])).length) Slot.unset).toArray = ls at hl ⊢
  have hl : lv_has ls 8 [(0, .ref h), (1, .int k9), (2, .int lo), (3, .int hi)] := hl
  refine lv_iload_n hx hb dX0_pack_0 rfl (lv_at hl 1 rfl) ?_
  refine lv_iconst (v := 1) hx hb dX0_pack_1 (by decide) ?_
  refine lv_icmp_lt (tgt := 11) hx hb dX0_pack_2 (by decide) (fun c_1 => ?_) (fun c_1 => ?_)
  · skip
    exact absurd c_1 hk1
  · skip
    refine lv_iload_n hx hb dX0_pack_5 rfl (lv_at hl 1 rfl) ?_
    refine lv_bipush (v := 12) hx hb dX0_pack_6 (by decide) ?_
    refine lv_icmp_le (tgt := 21) hx hb dX0_pack_8 (by decide) (fun c_2 => ?_) (fun c_2 => ?_)
    · skip
      refine lv_iload_n hx hb dX0_pack_21 rfl (lv_at hl 1 rfl) ?_
      refine lv_bipush (v := 8) hx hb dX0_pack_22 (by decide) ?_
      refine lv_icmp_lt (tgt := 41) hx hb dX0_pack_24 (by decide) (fun c_3 => ?_) (fun c_3 => ?_)
      · skip
        refine lv_iload_n hx hb dX0_pack_41 rfl (lv_at hl 1 rfl) ?_
        refine lv_bipush (v := 12) hx hb dX0_pack_42 (by decide) ?_
        refine lv_icmp_ne (tgt := 69) hx hb dX0_pack_44 (by decide) (fun c_4 => ?_) (fun c_4 => ?_)
        · skip
          refine lv_iload_n hx hb dX0_pack_69 rfl (lv_at hl 1 rfl) ?_
          refine lv_iload_n hx hb dX0_pack_70 rfl (lv_at hl 2 rfl) ?_
          refine lv_iload_n hx hb dX0_pack_71 rfl (lv_at hl 3 rfl) ?_
          refine gsl (As := [.int k9, .int lo, .int hi]) (rest := []) ⟨hx, hb, hml, hown, hts⟩ (c_X0_numberOf l dC dI tk tw _ k9 lo hi) (va_cwS 3 hts gX0_pack_X0_numberOf rfl rfl rfl (by decide +kernel) ⟨Nat.le_of_ble_eq_true rfl, Nat.le_of_ble_eq_true rfl⟩) hP hS hA hZ rfl hl.1 rfl (Nat.le_of_ble_eq_true rfl) dX0_pack_72 ⟨Nat.le_of_ble_eq_true rfl, Nat.le_of_ble_eq_true rfl⟩ (fun r_6 H locs hw_5 hP hS => ?_)
          obtain rfl : r_6 = nO k9 lo hi := hw_5
          refine lv_lstore (lv' := [(4, .long (nO k9 lo hi)), (0, .ref h), (1, .int k9), (2, .int lo), (3, .int hi)]) hx hb dX0_pack_75 hl (by decide) rfl (fun ls hl => ?_)
          refine lv_iload_n hx hb dX0_pack_77 rfl (lv_at hl 2 rfl) ?_
          refine lv_lload hx hb dX0_pack_78 (lv_at hl 0 rfl) ?_
          refine gsi (As := [.int k9, .long (nO k9 lo hi)]) (rest := []) ⟨hx, hb, hml, hown, hts⟩ (c_X0_shortestForm l dC dI tk tw _ k9 (nO k9 lo hi)) (va_cwS 2 hts gX0_pack_X0_shortestForm rfl rfl rfl (by decide +kernel) ⟨Nat.le_of_ble_eq_true rfl, Nat.le_of_ble_eq_true rfl⟩) hP hS hA hZ rfl hl.1 rfl (Nat.le_of_ble_eq_true rfl) dX0_pack_80 ⟨Nat.le_of_ble_eq_true rfl, Nat.le_of_ble_eq_true rfl⟩ (fun r_8 H locs hw_7 hP hS => ?_)
          obtain rfl : r_8 = nI b9 := hw_7.trans hs9
          refine lv_istore (lv' := [(6, .int (nI b9)), (4, .long (nO k9 lo hi)), (0, .ref h), (1, .int k9), (2, .int lo), (3, .int hi)]) hx hb dX0_pack_83 hl (by decide) rfl (fun ls hl => ?_)
          refine lv_iload hx hb dX0_pack_85 (lv_at hl 0 rfl) ?_
          refine gsi (As := [.int (nI b9)]) (rest := []) ⟨hx, hb, hml, hown, hts⟩ (c_X0_headLength l dC dI tk tw _ b9 hb9) (va_cwS 1 hts gX0_pack_X0_headLength rfl rfl rfl (by decide +kernel) ⟨Nat.le_of_ble_eq_true rfl, Nat.le_of_ble_eq_true rfl⟩) hP hS hA hZ rfl hl.1 rfl (Nat.le_of_ble_eq_true rfl) dX0_pack_87 ⟨Nat.le_of_ble_eq_true rfl, Nat.le_of_ble_eq_true rfl⟩ (fun r_10 H locs hw_9 hP hS => ?_)
          obtain rfl : r_10 = nI (hd b9) := hw_9
          refine lv_istore (lv' := [(7, .int (nI (hd b9))), (6, .int (nI b9)), (4, .long (nO k9 lo hi)), (0, .ref h), (1, .int k9), (2, .int lo), (3, .int hi)]) hx hb dX0_pack_90 hl (by decide) rfl (fun ls hl => ?_)
          have q7 := hd_le b9 hb9
          refine lv_aload_n hx hb dX0_pack_92 rfl (lv_at hl 3 rfl) ?_
          refine lv_iload hx hb dX0_pack_93 (lv_at hl 0 rfl) ?_
          refine gvi (As := [.int (nI (hd b9))]) (rest := []) ⟨hx, hb, hml, hown, hts⟩ (c_X0_hasRoom l dC dI tk tw h a b cB cJ _ f g zc zg zo n8 hn8 (hd b9) (by omega)) (cwV 1 hts gX0_pack_X0_hasRoom rfl rfl rfl (by decide +kernel) ⟨Nat.le_of_ble_eq_true rfl, Nat.le_of_ble_eq_true rfl⟩) hK hP hD hS hA hZ (q0 := 0) (ci := 0) rfl rfl rfl rfl hl.1 rfl (Nat.le_of_ble_eq_true rfl) dX0_pack_95 ⟨Nat.le_of_ble_eq_true rfl, Nat.le_of_ble_eq_true rfl⟩ (fun r_12 u_13 H locs hw_11 hP hD hS => ?_)
          obtain rfl : r_12 = 0 := hw_11.trans (if_neg (by omega))
          refine lv_if_ne (tgt := 111) hx hb dX0_pack_98 (by decide) (fun c_14 => ?_) (fun c_14 => ?_)
          · skip
            exact absurd (by decide) c_14
          · skip
            exact vx_throwS (own := RX0) (cls := "java/lang/IllegalStateException") (names := ["java/lang/RuntimeException", "java/lang/Exception"]) hx hb hst hown (by decide +kernel) (by decide +kernel) (hts (.classLink RX0 41 "java/lang/IllegalStateException") (by decide +kernel)) (hts (.initialized "java/lang/IllegalStateException") (by decide +kernel)) (hX.2.2.1 (125, "no room for the head") (by decide +kernel)) (hat_IS (fun w hw => hts w ((by decide +kernel : ∀ w ∈ (atIS).filter goodWord, w ∈ wsX0_pack) w hw)) hX) (by decide +kernel) hX.1 hX.2.1 hS (hl.1.trans hml.symm) dX0_pack_101 dX0_pack_104 dX0_pack_105 dX0_pack_107 dX0_pack_110 (fun x hx => (hEx x hx).elim) (Nat.le_of_ble_eq_true rfl) (Nat.le_of_ble_eq_true rfl) (Nat.le_of_ble_eq_true rfl) (Nat.le_of_ble_eq_true rfl) hlocks (fun t ha hsz hk => ⟨(), trivial, ⟨rfl, hP.kept (fun k q hq => hk q.1 (hP k q hq).lt), va_K.moved ha hK, hD⟩, Nat.le_trans hS.1 hsz, fun q h1 h2 => (hk q (Nat.lt_of_lt_of_le h1 hS.1)).trans (hS.2.1 q h1 h2)⟩) hS.2.2 (Nat.le_of_ble_eq_true rfl) (Nat.le_of_ble_eq_true rfl)
        · skip
          refine lv_iload_n hx hb dX0_pack_47 rfl (lv_at hl 3 rfl) ?_
          refine lv_bipush (v := -128) hx hb dX0_pack_48 (by decide) ?_
          refine lv_icmp_lt (tgt := 59) hx hb dX0_pack_50 (by decide) (fun c_15 => ?_) (fun c_15 => ?_)
          · skip
            exact absurd c_15 (h12 c_4).1
          · skip
            refine lv_iload_n hx hb dX0_pack_53 rfl (lv_at hl 3 rfl) ?_
            refine lv_bipush (v := 127) hx hb dX0_pack_54 (by decide) ?_
            refine lv_icmp_le (tgt := 69) hx hb dX0_pack_56 (by decide) (fun c_16 => ?_) (fun c_16 => ?_)
            · skip
              refine lv_iload_n hx hb dX0_pack_69 rfl (lv_at hl 1 rfl) ?_
              refine lv_iload_n hx hb dX0_pack_70 rfl (lv_at hl 2 rfl) ?_
              refine lv_iload_n hx hb dX0_pack_71 rfl (lv_at hl 3 rfl) ?_
              refine gsl (As := [.int k9, .int lo, .int hi]) (rest := []) ⟨hx, hb, hml, hown, hts⟩ (c_X0_numberOf l dC dI tk tw _ k9 lo hi) (va_cwS 3 hts gX0_pack_X0_numberOf rfl rfl rfl (by decide +kernel) ⟨Nat.le_of_ble_eq_true rfl, Nat.le_of_ble_eq_true rfl⟩) hP hS hA hZ rfl hl.1 rfl (Nat.le_of_ble_eq_true rfl) dX0_pack_72 ⟨Nat.le_of_ble_eq_true rfl, Nat.le_of_ble_eq_true rfl⟩ (fun r_18 H locs hw_17 hP hS => ?_)
              obtain rfl : r_18 = nO k9 lo hi := hw_17
              refine lv_lstore (lv' := [(4, .long (nO k9 lo hi)), (0, .ref h), (1, .int k9), (2, .int lo), (3, .int hi)]) hx hb dX0_pack_75 hl (by decide) rfl (fun ls hl => ?_)
              refine lv_iload_n hx hb dX0_pack_77 rfl (lv_at hl 2 rfl) ?_
              refine lv_lload hx hb dX0_pack_78 (lv_at hl 0 rfl) ?_
              refine gsi (As := [.int k9, .long (nO k9 lo hi)]) (rest := []) ⟨hx, hb, hml, hown, hts⟩ (c_X0_shortestForm l dC dI tk tw _ k9 (nO k9 lo hi)) (va_cwS 2 hts gX0_pack_X0_shortestForm rfl rfl rfl (by decide +kernel) ⟨Nat.le_of_ble_eq_true rfl, Nat.le_of_ble_eq_true rfl⟩) hP hS hA hZ rfl hl.1 rfl (Nat.le_of_ble_eq_true rfl) dX0_pack_80 ⟨Nat.le_of_ble_eq_true rfl, Nat.le_of_ble_eq_true rfl⟩ (fun r_20 H locs hw_19 hP hS => ?_)
              obtain rfl : r_20 = nI b9 := hw_19.trans hs9
              refine lv_istore (lv' := [(6, .int (nI b9)), (4, .long (nO k9 lo hi)), (0, .ref h), (1, .int k9), (2, .int lo), (3, .int hi)]) hx hb dX0_pack_83 hl (by decide) rfl (fun ls hl => ?_)
              refine lv_iload hx hb dX0_pack_85 (lv_at hl 0 rfl) ?_
              refine gsi (As := [.int (nI b9)]) (rest := []) ⟨hx, hb, hml, hown, hts⟩ (c_X0_headLength l dC dI tk tw _ b9 hb9) (va_cwS 1 hts gX0_pack_X0_headLength rfl rfl rfl (by decide +kernel) ⟨Nat.le_of_ble_eq_true rfl, Nat.le_of_ble_eq_true rfl⟩) hP hS hA hZ rfl hl.1 rfl (Nat.le_of_ble_eq_true rfl) dX0_pack_87 ⟨Nat.le_of_ble_eq_true rfl, Nat.le_of_ble_eq_true rfl⟩ (fun r_22 H locs hw_21 hP hS => ?_)
              obtain rfl : r_22 = nI (hd b9) := hw_21
              refine lv_istore (lv' := [(7, .int (nI (hd b9))), (6, .int (nI b9)), (4, .long (nO k9 lo hi)), (0, .ref h), (1, .int k9), (2, .int lo), (3, .int hi)]) hx hb dX0_pack_90 hl (by decide) rfl (fun ls hl => ?_)
              have q7 := hd_le b9 hb9
              refine lv_aload_n hx hb dX0_pack_92 rfl (lv_at hl 3 rfl) ?_
              refine lv_iload hx hb dX0_pack_93 (lv_at hl 0 rfl) ?_
              refine gvi (As := [.int (nI (hd b9))]) (rest := []) ⟨hx, hb, hml, hown, hts⟩ (c_X0_hasRoom l dC dI tk tw h a b cB cJ _ f g zc zg zo n8 hn8 (hd b9) (by omega)) (cwV 1 hts gX0_pack_X0_hasRoom rfl rfl rfl (by decide +kernel) ⟨Nat.le_of_ble_eq_true rfl, Nat.le_of_ble_eq_true rfl⟩) hK hP hD hS hA hZ (q0 := 0) (ci := 0) rfl rfl rfl rfl hl.1 rfl (Nat.le_of_ble_eq_true rfl) dX0_pack_95 ⟨Nat.le_of_ble_eq_true rfl, Nat.le_of_ble_eq_true rfl⟩ (fun r_24 u_25 H locs hw_23 hP hD hS => ?_)
              obtain rfl : r_24 = 0 := hw_23.trans (if_neg (by omega))
              refine lv_if_ne (tgt := 111) hx hb dX0_pack_98 (by decide) (fun c_26 => ?_) (fun c_26 => ?_)
              · skip
                exact absurd (by decide) c_26
              · skip
                exact vx_throwS (own := RX0) (cls := "java/lang/IllegalStateException") (names := ["java/lang/RuntimeException", "java/lang/Exception"]) hx hb hst hown (by decide +kernel) (by decide +kernel) (hts (.classLink RX0 41 "java/lang/IllegalStateException") (by decide +kernel)) (hts (.initialized "java/lang/IllegalStateException") (by decide +kernel)) (hX.2.2.1 (125, "no room for the head") (by decide +kernel)) (hat_IS (fun w hw => hts w ((by decide +kernel : ∀ w ∈ (atIS).filter goodWord, w ∈ wsX0_pack) w hw)) hX) (by decide +kernel) hX.1 hX.2.1 hS (hl.1.trans hml.symm) dX0_pack_101 dX0_pack_104 dX0_pack_105 dX0_pack_107 dX0_pack_110 (fun x hx => (hEx x hx).elim) (Nat.le_of_ble_eq_true rfl) (Nat.le_of_ble_eq_true rfl) (Nat.le_of_ble_eq_true rfl) (Nat.le_of_ble_eq_true rfl) hlocks (fun t ha hsz hk => ⟨(), trivial, ⟨rfl, hP.kept (fun k q hq => hk q.1 (hP k q hq).lt), va_K.moved ha hK, hD⟩, Nat.le_trans hS.1 hsz, fun q h1 h2 => (hk q (Nat.lt_of_lt_of_le h1 hS.1)).trans (hS.2.1 q h1 h2)⟩) hS.2.2 (Nat.le_of_ble_eq_true rfl) (Nat.le_of_ble_eq_true rfl)
            · skip
              exact absurd (Int32.not_lt.mp (h12 c_4).2) c_16
      · skip
        refine lv_iload_n hx hb dX0_pack_27 rfl (lv_at hl 2 rfl) ?_
        refine lv_if_ge (tgt := 41) hx hb dX0_pack_28 (by decide) (fun c_27 => ?_) (fun c_27 => ?_)
        · skip
          refine lv_iload_n hx hb dX0_pack_41 rfl (lv_at hl 1 rfl) ?_
          refine lv_bipush (v := 12) hx hb dX0_pack_42 (by decide) ?_
          refine lv_icmp_ne (tgt := 69) hx hb dX0_pack_44 (by decide) (fun c_28 => ?_) (fun c_28 => ?_)
          · skip
            refine lv_iload_n hx hb dX0_pack_69 rfl (lv_at hl 1 rfl) ?_
            refine lv_iload_n hx hb dX0_pack_70 rfl (lv_at hl 2 rfl) ?_
            refine lv_iload_n hx hb dX0_pack_71 rfl (lv_at hl 3 rfl) ?_
            refine gsl (As := [.int k9, .int lo, .int hi]) (rest := []) ⟨hx, hb, hml, hown, hts⟩ (c_X0_numberOf l dC dI tk tw _ k9 lo hi) (va_cwS 3 hts gX0_pack_X0_numberOf rfl rfl rfl (by decide +kernel) ⟨Nat.le_of_ble_eq_true rfl, Nat.le_of_ble_eq_true rfl⟩) hP hS hA hZ rfl hl.1 rfl (Nat.le_of_ble_eq_true rfl) dX0_pack_72 ⟨Nat.le_of_ble_eq_true rfl, Nat.le_of_ble_eq_true rfl⟩ (fun r_30 H locs hw_29 hP hS => ?_)
            obtain rfl : r_30 = nO k9 lo hi := hw_29
            refine lv_lstore (lv' := [(4, .long (nO k9 lo hi)), (0, .ref h), (1, .int k9), (2, .int lo), (3, .int hi)]) hx hb dX0_pack_75 hl (by decide) rfl (fun ls hl => ?_)
            refine lv_iload_n hx hb dX0_pack_77 rfl (lv_at hl 2 rfl) ?_
            refine lv_lload hx hb dX0_pack_78 (lv_at hl 0 rfl) ?_
            refine gsi (As := [.int k9, .long (nO k9 lo hi)]) (rest := []) ⟨hx, hb, hml, hown, hts⟩ (c_X0_shortestForm l dC dI tk tw _ k9 (nO k9 lo hi)) (va_cwS 2 hts gX0_pack_X0_shortestForm rfl rfl rfl (by decide +kernel) ⟨Nat.le_of_ble_eq_true rfl, Nat.le_of_ble_eq_true rfl⟩) hP hS hA hZ rfl hl.1 rfl (Nat.le_of_ble_eq_true rfl) dX0_pack_80 ⟨Nat.le_of_ble_eq_true rfl, Nat.le_of_ble_eq_true rfl⟩ (fun r_32 H locs hw_31 hP hS => ?_)
            obtain rfl : r_32 = nI b9 := hw_31.trans hs9
            refine lv_istore (lv' := [(6, .int (nI b9)), (4, .long (nO k9 lo hi)), (0, .ref h), (1, .int k9), (2, .int lo), (3, .int hi)]) hx hb dX0_pack_83 hl (by decide) rfl (fun ls hl => ?_)
            refine lv_iload hx hb dX0_pack_85 (lv_at hl 0 rfl) ?_
            refine gsi (As := [.int (nI b9)]) (rest := []) ⟨hx, hb, hml, hown, hts⟩ (c_X0_headLength l dC dI tk tw _ b9 hb9) (va_cwS 1 hts gX0_pack_X0_headLength rfl rfl rfl (by decide +kernel) ⟨Nat.le_of_ble_eq_true rfl, Nat.le_of_ble_eq_true rfl⟩) hP hS hA hZ rfl hl.1 rfl (Nat.le_of_ble_eq_true rfl) dX0_pack_87 ⟨Nat.le_of_ble_eq_true rfl, Nat.le_of_ble_eq_true rfl⟩ (fun r_34 H locs hw_33 hP hS => ?_)
            obtain rfl : r_34 = nI (hd b9) := hw_33
            refine lv_istore (lv' := [(7, .int (nI (hd b9))), (6, .int (nI b9)), (4, .long (nO k9 lo hi)), (0, .ref h), (1, .int k9), (2, .int lo), (3, .int hi)]) hx hb dX0_pack_90 hl (by decide) rfl (fun ls hl => ?_)
            have q7 := hd_le b9 hb9
            refine lv_aload_n hx hb dX0_pack_92 rfl (lv_at hl 3 rfl) ?_
            refine lv_iload hx hb dX0_pack_93 (lv_at hl 0 rfl) ?_
            refine gvi (As := [.int (nI (hd b9))]) (rest := []) ⟨hx, hb, hml, hown, hts⟩ (c_X0_hasRoom l dC dI tk tw h a b cB cJ _ f g zc zg zo n8 hn8 (hd b9) (by omega)) (cwV 1 hts gX0_pack_X0_hasRoom rfl rfl rfl (by decide +kernel) ⟨Nat.le_of_ble_eq_true rfl, Nat.le_of_ble_eq_true rfl⟩) hK hP hD hS hA hZ (q0 := 0) (ci := 0) rfl rfl rfl rfl hl.1 rfl (Nat.le_of_ble_eq_true rfl) dX0_pack_95 ⟨Nat.le_of_ble_eq_true rfl, Nat.le_of_ble_eq_true rfl⟩ (fun r_36 u_37 H locs hw_35 hP hD hS => ?_)
            obtain rfl : r_36 = 0 := hw_35.trans (if_neg (by omega))
            refine lv_if_ne (tgt := 111) hx hb dX0_pack_98 (by decide) (fun c_38 => ?_) (fun c_38 => ?_)
            · skip
              exact absurd (by decide) c_38
            · skip
              exact vx_throwS (own := RX0) (cls := "java/lang/IllegalStateException") (names := ["java/lang/RuntimeException", "java/lang/Exception"]) hx hb hst hown (by decide +kernel) (by decide +kernel) (hts (.classLink RX0 41 "java/lang/IllegalStateException") (by decide +kernel)) (hts (.initialized "java/lang/IllegalStateException") (by decide +kernel)) (hX.2.2.1 (125, "no room for the head") (by decide +kernel)) (hat_IS (fun w hw => hts w ((by decide +kernel : ∀ w ∈ (atIS).filter goodWord, w ∈ wsX0_pack) w hw)) hX) (by decide +kernel) hX.1 hX.2.1 hS (hl.1.trans hml.symm) dX0_pack_101 dX0_pack_104 dX0_pack_105 dX0_pack_107 dX0_pack_110 (fun x hx => (hEx x hx).elim) (Nat.le_of_ble_eq_true rfl) (Nat.le_of_ble_eq_true rfl) (Nat.le_of_ble_eq_true rfl) (Nat.le_of_ble_eq_true rfl) hlocks (fun t ha hsz hk => ⟨(), trivial, ⟨rfl, hP.kept (fun k q hq => hk q.1 (hP k q hq).lt), va_K.moved ha hK, hD⟩, Nat.le_trans hS.1 hsz, fun q h1 h2 => (hk q (Nat.lt_of_lt_of_le h1 hS.1)).trans (hS.2.1 q h1 h2)⟩) hS.2.2 (Nat.le_of_ble_eq_true rfl) (Nat.le_of_ble_eq_true rfl)
          · skip
            refine lv_iload_n hx hb dX0_pack_47 rfl (lv_at hl 3 rfl) ?_
            refine lv_bipush (v := -128) hx hb dX0_pack_48 (by decide) ?_
            refine lv_icmp_lt (tgt := 59) hx hb dX0_pack_50 (by decide) (fun c_39 => ?_) (fun c_39 => ?_)
            · skip
              exact absurd c_39 (h12 c_28).1
            · skip
              refine lv_iload_n hx hb dX0_pack_53 rfl (lv_at hl 3 rfl) ?_
              refine lv_bipush (v := 127) hx hb dX0_pack_54 (by decide) ?_
              refine lv_icmp_le (tgt := 69) hx hb dX0_pack_56 (by decide) (fun c_40 => ?_) (fun c_40 => ?_)
              · skip
                refine lv_iload_n hx hb dX0_pack_69 rfl (lv_at hl 1 rfl) ?_
                refine lv_iload_n hx hb dX0_pack_70 rfl (lv_at hl 2 rfl) ?_
                refine lv_iload_n hx hb dX0_pack_71 rfl (lv_at hl 3 rfl) ?_
                refine gsl (As := [.int k9, .int lo, .int hi]) (rest := []) ⟨hx, hb, hml, hown, hts⟩ (c_X0_numberOf l dC dI tk tw _ k9 lo hi) (va_cwS 3 hts gX0_pack_X0_numberOf rfl rfl rfl (by decide +kernel) ⟨Nat.le_of_ble_eq_true rfl, Nat.le_of_ble_eq_true rfl⟩) hP hS hA hZ rfl hl.1 rfl (Nat.le_of_ble_eq_true rfl) dX0_pack_72 ⟨Nat.le_of_ble_eq_true rfl, Nat.le_of_ble_eq_true rfl⟩ (fun r_42 H locs hw_41 hP hS => ?_)
                obtain rfl : r_42 = nO k9 lo hi := hw_41
                refine lv_lstore (lv' := [(4, .long (nO k9 lo hi)), (0, .ref h), (1, .int k9), (2, .int lo), (3, .int hi)]) hx hb dX0_pack_75 hl (by decide) rfl (fun ls hl => ?_)
                refine lv_iload_n hx hb dX0_pack_77 rfl (lv_at hl 2 rfl) ?_
                refine lv_lload hx hb dX0_pack_78 (lv_at hl 0 rfl) ?_
                refine gsi (As := [.int k9, .long (nO k9 lo hi)]) (rest := []) ⟨hx, hb, hml, hown, hts⟩ (c_X0_shortestForm l dC dI tk tw _ k9 (nO k9 lo hi)) (va_cwS 2 hts gX0_pack_X0_shortestForm rfl rfl rfl (by decide +kernel) ⟨Nat.le_of_ble_eq_true rfl, Nat.le_of_ble_eq_true rfl⟩) hP hS hA hZ rfl hl.1 rfl (Nat.le_of_ble_eq_true rfl) dX0_pack_80 ⟨Nat.le_of_ble_eq_true rfl, Nat.le_of_ble_eq_true rfl⟩ (fun r_44 H locs hw_43 hP hS => ?_)
                obtain rfl : r_44 = nI b9 := hw_43.trans hs9
                refine lv_istore (lv' := [(6, .int (nI b9)), (4, .long (nO k9 lo hi)), (0, .ref h), (1, .int k9), (2, .int lo), (3, .int hi)]) hx hb dX0_pack_83 hl (by decide) rfl (fun ls hl => ?_)
                refine lv_iload hx hb dX0_pack_85 (lv_at hl 0 rfl) ?_
                refine gsi (As := [.int (nI b9)]) (rest := []) ⟨hx, hb, hml, hown, hts⟩ (c_X0_headLength l dC dI tk tw _ b9 hb9) (va_cwS 1 hts gX0_pack_X0_headLength rfl rfl rfl (by decide +kernel) ⟨Nat.le_of_ble_eq_true rfl, Nat.le_of_ble_eq_true rfl⟩) hP hS hA hZ rfl hl.1 rfl (Nat.le_of_ble_eq_true rfl) dX0_pack_87 ⟨Nat.le_of_ble_eq_true rfl, Nat.le_of_ble_eq_true rfl⟩ (fun r_46 H locs hw_45 hP hS => ?_)
                obtain rfl : r_46 = nI (hd b9) := hw_45
                refine lv_istore (lv' := [(7, .int (nI (hd b9))), (6, .int (nI b9)), (4, .long (nO k9 lo hi)), (0, .ref h), (1, .int k9), (2, .int lo), (3, .int hi)]) hx hb dX0_pack_90 hl (by decide) rfl (fun ls hl => ?_)
                have q7 := hd_le b9 hb9
                refine lv_aload_n hx hb dX0_pack_92 rfl (lv_at hl 3 rfl) ?_
                refine lv_iload hx hb dX0_pack_93 (lv_at hl 0 rfl) ?_
                refine gvi (As := [.int (nI (hd b9))]) (rest := []) ⟨hx, hb, hml, hown, hts⟩ (c_X0_hasRoom l dC dI tk tw h a b cB cJ _ f g zc zg zo n8 hn8 (hd b9) (by omega)) (cwV 1 hts gX0_pack_X0_hasRoom rfl rfl rfl (by decide +kernel) ⟨Nat.le_of_ble_eq_true rfl, Nat.le_of_ble_eq_true rfl⟩) hK hP hD hS hA hZ (q0 := 0) (ci := 0) rfl rfl rfl rfl hl.1 rfl (Nat.le_of_ble_eq_true rfl) dX0_pack_95 ⟨Nat.le_of_ble_eq_true rfl, Nat.le_of_ble_eq_true rfl⟩ (fun r_48 u_49 H locs hw_47 hP hD hS => ?_)
                obtain rfl : r_48 = 0 := hw_47.trans (if_neg (by omega))
                refine lv_if_ne (tgt := 111) hx hb dX0_pack_98 (by decide) (fun c_50 => ?_) (fun c_50 => ?_)
                · skip
                  exact absurd (by decide) c_50
                · skip
                  exact vx_throwS (own := RX0) (cls := "java/lang/IllegalStateException") (names := ["java/lang/RuntimeException", "java/lang/Exception"]) hx hb hst hown (by decide +kernel) (by decide +kernel) (hts (.classLink RX0 41 "java/lang/IllegalStateException") (by decide +kernel)) (hts (.initialized "java/lang/IllegalStateException") (by decide +kernel)) (hX.2.2.1 (125, "no room for the head") (by decide +kernel)) (hat_IS (fun w hw => hts w ((by decide +kernel : ∀ w ∈ (atIS).filter goodWord, w ∈ wsX0_pack) w hw)) hX) (by decide +kernel) hX.1 hX.2.1 hS (hl.1.trans hml.symm) dX0_pack_101 dX0_pack_104 dX0_pack_105 dX0_pack_107 dX0_pack_110 (fun x hx => (hEx x hx).elim) (Nat.le_of_ble_eq_true rfl) (Nat.le_of_ble_eq_true rfl) (Nat.le_of_ble_eq_true rfl) (Nat.le_of_ble_eq_true rfl) hlocks (fun t ha hsz hk => ⟨(), trivial, ⟨rfl, hP.kept (fun k q hq => hk q.1 (hP k q hq).lt), va_K.moved ha hK, hD⟩, Nat.le_trans hS.1 hsz, fun q h1 h2 => (hk q (Nat.lt_of_lt_of_le h1 hS.1)).trans (hS.2.1 q h1 h2)⟩) hS.2.2 (Nat.le_of_ble_eq_true rfl) (Nat.le_of_ble_eq_true rfl)
              · skip
                exact absurd (Int32.not_lt.mp (h12 c_28).2) c_40
        · skip
          exact absurd (Int32.not_lt.mp (h8 c_3)) c_27
    · skip
      exact absurd hk2 c_2
