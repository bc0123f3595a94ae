theorem vp01 : vp_in (0 : Int32) 1 := by unfold vp_in; decide
set_option maxHeartbeats 4000000 in
set_option maxRecDepth 100000 in
theorem c_L_feed (l : Launch) (hst : l.stackTraces = false) (sa : Nat → Nat) (dC : Nat → ClassId) (dI : Nat → Nat → Nat) (tk tw : Nat) (h a b : Nat) (cB cJ : ClassId) (o : Nat) (cO : ClassId) (go : Nat → Int64) (sz : Nat) (f : Nat → Int32) (g : Nat → Int64) (zc : Int32) (zg : Int32) (zo : Int32) (n8 : Nat) (hn8 : n8 < 4096) (v9 : Nat) (hv9 : v9 < 256) : Met l yL_feed wsL_feed ({ frames := 7, cells := 0, slots := 0, locals := 103 }) (va_Pc [.ref h, .int (nI v9), .ref o] (prx dC dI (th cB cJ cO) (w0 h a b cB cJ f g (nI n8) zc zg zo ++ wo o cO go) sz tk tw sa)) (va_Qi (fun (r : Int32) (_ : Unit) => r = 0) (fun (_ : Unit) => po dC dI (th cB cJ cO) (va_A (w0 h a b cB cJ f g (nI n8) zc zg zo ++ wo o cO go) sz) (w0 h a b cB cJ (apR f n8 (nI v9).toInt64 1) g (nI (n8 + 1)) zc zg zo ++ wo o cO (vp_updL go 0 ((nI (n8 + 1)).toInt64)))) (va_A (w0 h a b cB cJ f g (nI n8) zc zg zo ++ wo o cO go) sz)) 0 0 (va_A (w0 h a b cB cJ f g (nI n8) zc zg zo ++ wo o cO go) sz) := by
  refine va_MetW (cc := cL_feed) (maxL := 4) (ret := (some .int)) (hh := [(0, 9, 12, 13), (0, 9, 15, 15)]) (by decide) rfl ?_
  intro p e s m args below meth c s₁ Bd hml hv
  obtain ⟨rfl, hsz, hP, hK, hD0, hZ, hX⟩ := hv
  have hx := Bd.exec
  have hb := Bd.bytes
  have hr := Bd.returns
  have hts := atoms_spec (ws := wsL_feed) Bd.pre
  have hown : s.vm.findClass RL = some m.cls := findClass_of_methodNamed Bd.named
  have hlocks := Bd.notSynchronized
  subst hsz
  have hD := hD0.self (sz := s.heap.size)
  generalize hAe : va_A (w0 h a b cB cJ f g (nI n8) zc zg zo ++ wo o cO go) s.heap.size = A at hD hZ hX ⊢
  have hA : ∀ q : Nat, s.heap.size ≤ q → A q := fun q h => by rw [← hAe]; exact Or.inr h
  have hS : va_S A s.heap s.heap [] := va_S.rf
  have hP : va_P (dC, dI) vwCl (w0 h a b cB cJ f g (nI n8) zc zg zo ++ wo o cO go) s.heap := hP
  have hKx : va_K (dC, dI) vwCl (t0 cB cJ) s := hK.sub [0, 1] rfl
  have hl := lv_entry ([.ref h, .int (nI v9), .ref o]) (n := 4) (Nat.le_of_ble_eq_true rfl)
  rw [lg_entry_eq]
  generalize (lg_sl ([.ref h, .int (nI v9), .ref o]) ++ List.replicate (4 - (lg_sl ([.ref h, .int (nI v9), .ref o])).length) Slot.unset).toArray = ls at hl ⊢
  have hl : lv_has ls 4 [(0, .ref h), (1, .int (nI v9)), (2, .ref o)] := hl
  refine lv_aload_n hx hb dL_feed_0 rfl (lv_at hl 2 rfl) ?_
  refine lv_iconst (v := 0) hx hb dL_feed_1 (by decide) ?_
  refine lv_aload_n hx hb dL_feed_2 rfl (lv_at hl 0 rfl) ?_
  refine lv_iload_n hx hb dL_feed_3 rfl (lv_at hl 1 rfl) ?_
  refine gji (wc := w0 h a b cB cJ f g (nI n8) zc zg zo) (wr := wo o cO go) (As := [.int (nI v9)]) (rest := [.int 0, .ref o]) ⟨hx, hb, hml, hown, hts⟩ (c_X0_feed l dC dI tk tw h a b cB cJ _ f g zc zg zo n8 hn8 v9 hv9) (cwV 1 hts gL_feed_X0_feed rfl rfl rfl (by decide +kernel) ⟨Nat.le_of_ble_eq_true rfl, Nat.le_of_ble_eq_true rfl⟩) hKx hP hD hS hA hZ (q0 := 0) (ci := 0) rfl rfl rfl rfl hl.1 rfl (Nat.le_of_ble_eq_true rfl) dL_feed_4 ⟨Nat.le_of_ble_eq_true rfl, Nat.le_of_ble_eq_true rfl⟩ (fun r u H locs hw hP hD hS => ?_)
  obtain rfl : r = nI (n8 + 1) := hw
  have hP : va_P (dC, dI) vwCl (w0 h a b cB cJ (apR f n8 (nI v9).toInt64 1) g (nI (n8 + 1)) zc zg zo ++ wo o cO go) H := hP
  have hD : va_D A (w0 h a b cB cJ (apR f n8 (nI v9).toInt64 1) g (nI (n8 + 1)) zc zg zo ++ wo o cO go) := hD
  refine lv_i2l hx hb dL_feed_7 rfl ?_
  refine va_last hx hb hK hP hD hS 3 2 rfl rfl vp01 dL_feed_8 (fun H locs hP hD hS => ?_)
  have hP : va_P (dC, dI) vwCl (w0 h a b cB cJ (apR f n8 (nI v9).toInt64 1) g (nI (n8 + 1)) zc zg zo ++ wo o cO (vp_updL go 0 ((nI (n8 + 1)).toInt64))) H := hP
  have hD : va_D A (w0 h a b cB cJ (apR f n8 (nI v9).toInt64 1) g (nI (n8 + 1)) zc zg zo ++ wo o cO (vp_updL go 0 ((nI (n8 + 1)).toInt64))) := hD
  refine lv_goto (tgt := 18) hx hb dL_feed_9 (by decide) ?_
  refine lv_iconst (v := 0) hx hb dL_feed_18 (by decide) ?_
  exact W.iret (v := 0) hx hb hr (fun t ht hW => ⟨⟨0, (), rfl, rfl, by rw [ht]; exact hP, va_K.moved hW.alike hK, hD⟩, hS.F ht⟩) hS.2.2 dL_feed_19
set_option maxHeartbeats 4000000 in
set_option maxRecDepth 100000 in
theorem c_L_feed_b (l : Launch) (hst : l.stackTraces = false) (sa : Nat → Nat) (dC : Nat → ClassId) (dI : Nat → Nat → Nat) (tk tw : Nat) (h a b : Nat) (cB cJ : ClassId) (o : Nat) (cO : ClassId) (go : Nat → Int64) (sz : Nat) (f : Nat → Int32) (g : Nat → Int64) (zs : Int32) (zc : Int32) (zg : Int32) (zo : Int32) (b9 : Int32) (hb9 : b9 < 0 ∨ 255 < b9) : Met l yL_feed wsL_feed ({ frames := 7, cells := 1, slots := 6, locals := 103 }) (va_Pc [.ref h, .int b9, .ref o] (prx dC dI (th cB cJ cO) (w0 h a b cB cJ f g zs zc zg zo ++ wo o cO go) sz tk tw sa)) (va_Qi (fun (r : Int32) (_ : Unit) => r = 1) (fun (_ : Unit) => po dC dI (th cB cJ cO) (va_A (w0 h a b cB cJ f g zs zc zg zo ++ wo o cO go) sz) (w0 h a b cB cJ f g zs zc zg zo ++ wo o cO go)) (va_A (w0 h a b cB cJ f g zs zc zg zo ++ wo o cO go) sz)) 1 6 (va_A (w0 h a b cB cJ f g zs zc zg zo ++ wo o cO go) sz) := by
  refine va_MetW (cc := cL_feed) (maxL := 4) (ret := (some .int)) (hh := [(0, 9, 12, 13), (0, 9, 15, 15)]) (by decide) rfl ?_
  intro p e s m args below meth c s₁ Bd hml hv
  obtain ⟨rfl, hsz, hP, hK, hD0, hZ, hX⟩ := hv
  have hx := Bd.exec
  have hb := Bd.bytes
  have hr := Bd.returns
  have hts := atoms_spec (ws := wsL_feed) Bd.pre
  have hown : s.vm.findClass RL = some m.cls := findClass_of_methodNamed Bd.named
  have hlocks := Bd.notSynchronized
  have hTab : c.exceptionTable.toList = tableOf [(0, 9, 12, 13), (0, 9, 15, 15)] := vx_table (x := yL_feed) Bd (hts (.codeWith yL_feed cL_feed 4 (some .int) [(0, 9, 12, 13), (0, 9, 15, 15)]) (by decide +kernel))
  subst hsz
  have hD := hD0.self (sz := s.heap.size)
  generalize hAe : va_A (w0 h a b cB cJ f g zs zc zg zo ++ wo o cO go) s.heap.size = A at hD hZ hX ⊢
  have hA : ∀ q : Nat, s.heap.size ≤ q → A q := fun q h => by rw [← hAe]; exact Or.inr h
  have hS : va_S A s.heap s.heap [] := va_S.rf
  have hP : va_P (dC, dI) vwCl (w0 h a b cB cJ f g zs zc zg zo ++ wo o cO go) s.heap := hP
  have hKx : va_K (dC, dI) vwCl (t0 cB cJ) s := hK.sub [0, 1] rfl
  have hl := lv_entry ([.ref h, .int b9, .ref o]) (n := 4) (Nat.le_of_ble_eq_true rfl)
  rw [lg_entry_eq]
  generalize (lg_sl ([.ref h, .int b9, .ref o]) ++ List.replicate (4 - (lg_sl ([.ref h, .int b9, .ref o])).length) Slot.unset).toArray = ls at hl ⊢
  have hl : lv_has ls 4 [(0, .ref h), (1, .int b9), (2, .ref o)] := hl
  refine lv_aload_n hx hb dL_feed_0 rfl (lv_at hl 2 rfl) ?_
  refine lv_iconst (v := 0) hx hb dL_feed_1 (by decide) ?_
  refine lv_aload_n hx hb dL_feed_2 rfl (lv_at hl 0 rfl) ?_
  refine lv_iload_n hx hb dL_feed_3 rfl (lv_at hl 1 rfl) ?_
  refine gxi (wc := w0 h a b cB cJ f g zs zc zg zo) (wr := wo o cO go) (As := [.int b9]) (rest := [.int 0, .ref o]) ⟨hx, hb, hml, hown, hts⟩ (c_X0_feed_b l hst sa dC dI tk tw h a b cB cJ _ f g zs zc zg zo b9 hb9) (cwV 1 hts gL_feed_X0_feed rfl rfl rfl (by decide +kernel) ⟨Nat.le_of_ble_eq_true rfl, Nat.le_of_ble_eq_true rfl⟩) hKx hP hD hS hA hZ hX (q0 := 0) (ci := 0) rfl rfl rfl rfl hl.1 rfl (Nat.le_of_ble_eq_true rfl) dL_feed_4 ⟨Nat.le_of_ble_eq_true rfl, Nat.le_of_ble_eq_true rfl⟩ (fun ce q9 H locs hP hD hS hce hcv hcl => ?_)
  refine vx_catch (own := RL) (name := "java/lang/IllegalArgumentException") (E := "java/lang/IllegalArgumentException") hown [] ⟨0, 9, 12, 13⟩ [⟨0, 9, 15, 15⟩] (by rw [hTab]; rfl) (fun z hz => nomatch hz) (by decide) (by decide) (hts (.classLink RL 13 "java/lang/IllegalArgumentException") (by decide +kernel)) (va_Nw.use rfl hX.2.2.2.1) hce hcv hcl ?_
  refine lv_astore_n (lv' := [(3, .ref q9), (0, .ref h), (1, .int b9), (2, .ref o)]) hx hb dL_feed_12 rfl hl (by decide) rfl (fun ls hl => ?_)
  refine lv_iconst (v := 1) hx hb dL_feed_13 (by decide) ?_
  exact W.iret (v := 1) hx hb hr (fun t ht hW => ⟨⟨1, (), rfl, rfl, by rw [ht]; exact hP, va_K.moved hW.alike hK, hD⟩, hS.F ht⟩) hS.2.2 dL_feed_14
set_option maxHeartbeats 4000000 in
set_option maxRecDepth 100000 in
theorem c_L_feed_f (l : Launch) (hst : l.stackTraces = false) (sa : Nat → Nat) (dC : Nat → ClassId) (dI : Nat → Nat → Nat) (tk tw : Nat) (h a b : Nat) (cB cJ : ClassId) (o : Nat) (cO : ClassId) (go : Nat → Int64) (sz : Nat) (f : Nat → Int32) (g : Nat → Int64) (zc : Int32) (zg : Int32) (zo : Int32) (v9 : Nat) (hv9 : v9 < 256) : Met l yL_feed wsL_feed ({ frames := 7, cells := 1, slots := 6, locals := 103 }) (va_Pc [.ref h, .int (nI v9), .ref o] (prx dC dI (th cB cJ cO) (w0 h a b cB cJ f g (nI 4096) zc zg zo ++ wo o cO go) sz tk tw sa)) (va_Qi (fun (r : Int32) (_ : Unit) => r = 2) (fun (_ : Unit) => po dC dI (th cB cJ cO) (va_A (w0 h a b cB cJ f g (nI 4096) zc zg zo ++ wo o cO go) sz) (w0 h a b cB cJ f g (nI 4096) zc zg zo ++ wo o cO go)) (va_A (w0 h a b cB cJ f g (nI 4096) zc zg zo ++ wo o cO go) sz)) 1 6 (va_A (w0 h a b cB cJ f g (nI 4096) zc zg zo ++ wo o cO go) sz) := by
  refine va_MetW (cc := cL_feed) (maxL := 4) (ret := (some .int)) (hh := [(0, 9, 12, 13), (0, 9, 15, 15)]) (by decide) rfl ?_
  intro p e s m args below meth c s₁ Bd hml hv
  obtain ⟨rfl, hsz, hP, hK, hD0, hZ, hX⟩ := hv
  have hx := Bd.exec
  have hb := Bd.bytes
  have hr := Bd.returns
  have hts := atoms_spec (ws := wsL_feed) Bd.pre
  have hown : s.vm.findClass RL = some m.cls := findClass_of_methodNamed Bd.named
  have hlocks := Bd.notSynchronized
  have hTab : c.exceptionTable.toList = tableOf [(0, 9, 12, 13), (0, 9, 15, 15)] := vx_table (x := yL_feed) Bd (hts (.codeWith yL_feed cL_feed 4 (some .int) [(0, 9, 12, 13), (0, 9, 15, 15)]) (by decide +kernel))
  subst hsz
  have hD := hD0.self (sz := s.heap.size)
  generalize hAe : va_A (w0 h a b cB cJ f g (nI 4096) zc zg zo ++ wo o cO go) s.heap.size = A at hD hZ hX ⊢
  have hA : ∀ q : Nat, s.heap.size ≤ q → A q := fun q h => by rw [← hAe]; exact Or.inr h
  have hS : va_S A s.heap s.heap [] := va_S.rf
  have hP : va_P (dC, dI) vwCl (w0 h a b cB cJ f g (nI 4096) zc zg zo ++ wo o cO go) s.heap := hP
  have hKx : va_K (dC, dI) vwCl (t0 cB cJ) s := hK.sub [0, 1] rfl
  have hl := lv_entry ([.ref h, .int (nI v9), .ref o]) (n := 4) (Nat.le_of_ble_eq_true rfl)
  rw [lg_entry_eq]
  generalize (lg_sl ([.ref h, .int (nI v9), .ref o]) ++ List.replicate (4 - (lg_sl ([.ref h, .int (nI v9), .ref o])).length) Slot.unset).toArray = ls at hl ⊢
  have hl : lv_has ls 4 [(0, .ref h), (1, .int (nI v9)), (2, .ref o)] := hl
  refine lv_aload_n hx hb dL_feed_0 rfl (lv_at hl 2 rfl) ?_
  refine lv_iconst (v := 0) hx hb dL_feed_1 (by decide) ?_
  refine lv_aload_n hx hb dL_feed_2 rfl (lv_at hl 0 rfl) ?_
  refine lv_iload_n hx hb dL_feed_3 rfl (lv_at hl 1 rfl) ?_
  refine gxi (wc := w0 h a b cB cJ f g (nI 4096) zc zg zo) (wr := wo o cO go) (As := [.int (nI v9)]) (rest := [.int 0, .ref o]) ⟨hx, hb, hml, hown, hts⟩ (c_X0_feed_f l hst sa dC dI tk tw h a b cB cJ _ f g zc zg zo v9 hv9) (cwV 1 hts gL_feed_X0_feed rfl rfl rfl (by decide +kernel) ⟨Nat.le_of_ble_eq_true rfl, Nat.le_of_ble_eq_true rfl⟩) hKx hP hD hS hA hZ hX (q0 := 0) (ci := 0) rfl rfl rfl rfl hl.1 rfl (Nat.le_of_ble_eq_true rfl) dL_feed_4 ⟨Nat.le_of_ble_eq_true rfl, Nat.le_of_ble_eq_true rfl⟩ (fun ce q9 H locs hP hD hS hce hcv hcl => ?_)
  refine vx_catch (own := RL) (name := "java/lang/IllegalStateException") (E := "java/lang/IllegalStateException") hown [⟨0, 9, 12, 13⟩] ⟨0, 9, 15, 15⟩ [] (by rw [hTab]; rfl) (fun z hz => by rcases List.mem_cons.mp hz with rfl | hz; exact Or.inr ⟨by decide, "java/lang/IllegalArgumentException", hts (.classLink RL 13 "java/lang/IllegalArgumentException") (by decide +kernel), hX.2.2.2.2.2.2.2.2⟩; exact nomatch hz) (by decide) (by decide) (hts (.classLink RL 15 "java/lang/IllegalStateException") (by decide +kernel)) (va_Nw.use rfl hX.2.2.2.2.1) hce hcv hcl ?_
  refine lv_astore_n (lv' := [(3, .ref q9), (0, .ref h), (1, .int (nI v9)), (2, .ref o)]) hx hb dL_feed_15 rfl hl (by decide) rfl (fun ls hl => ?_)
  refine lv_iconst (v := 2) hx hb dL_feed_16 (by decide) ?_
  exact W.iret (v := 2) hx hb hr (fun t ht hW => ⟨⟨2, (), rfl, rfl, by rw [ht]; exact hP, va_K.moved hW.alike hK, hD⟩, hS.F ht⟩) hS.2.2 dL_feed_17
set_option maxHeartbeats 4000000 in
set_option maxRecDepth 100000 in
theorem c_L_put (l : Launch) (hst : l.stackTraces = false) (sa : Nat → Nat) (dC : Nat → ClassId) (dI : Nat → Nat → Nat) (tk tw : Nat) (h a b : Nat) (cB cJ : ClassId) (o : Nat) (cO : ClassId) (go : Nat → Int64) (sz : Nat) (f : Nat → Int32) (g : Nat → Int64) (zc : Int32) (zg : Int32) (zo : Int32) (n8 : Nat) (hn8 : n8 ≤ 4096) (k9 : Nat) (hk9 : 1 ≤ k9 ∧ k9 ≤ 8) (x9 : Int64) (hr9 : n8 + k9 ≤ 4096) : Met l yL_put wsL_put ({ frames := 7, cells := 0, slots := 0, locals := 105 }) (va_Pc [.ref h, .long x9, .int (nI k9), .ref o] (prx dC dI (th cB cJ cO) (w0 h a b cB cJ f g (nI n8) zc zg zo ++ wo o cO go) sz tk tw sa)) (va_Qi (fun (r : Int32) (_ : Unit) => r = 0) (fun (_ : Unit) => po dC dI (th cB cJ cO) (va_A (w0 h a b cB cJ f g (nI n8) zc zg zo ++ wo o cO go) sz) (w0 h a b cB cJ (apR f n8 x9 k9) g (nI (n8 + k9)) zc zg zo ++ wo o cO (vp_updL go 0 ((nI (n8 + k9)).toInt64)))) (va_A (w0 h a b cB cJ f g (nI n8) zc zg zo ++ wo o cO go) sz)) 0 0 (va_A (w0 h a b cB cJ f g (nI n8) zc zg zo ++ wo o cO go) sz) := by
  refine va_MetW (cc := cL_put) (maxL := 6) (ret := (some .int)) (hh := [(0, 11, 14, 13), (0, 11, 18, 15)]) (by decide) rfl ?_
  intro p e s m args below meth c s₁ Bd hml hv
  obtain ⟨rfl, hsz, hP, hK, hD0, hZ, hX⟩ := hv
  have hx := Bd.exec
  have hb := Bd.bytes
  have hr := Bd.returns
  have hts := atoms_spec (ws := wsL_put) Bd.pre
  have hown : s.vm.findClass RL = some m.cls := findClass_of_methodNamed Bd.named
  have hlocks := Bd.notSynchronized
  subst hsz
  have hD := hD0.self (sz := s.heap.size)
  generalize hAe : va_A (w0 h a b cB cJ f g (nI n8) zc zg zo ++ wo o cO go) s.heap.size = A at hD hZ hX ⊢
  have hA : ∀ q : Nat, s.heap.size ≤ q → A q := fun q h => by rw [← hAe]; exact Or.inr h
  have hS : va_S A s.heap s.heap [] := va_S.rf
  have hP : va_P (dC, dI) vwCl (w0 h a b cB cJ f g (nI n8) zc zg zo ++ wo o cO go) s.heap := hP
  have hKx : va_K (dC, dI) vwCl (t0 cB cJ) s := hK.sub [0, 1] rfl
  have hl := lv_entry ([.ref h, .long x9, .int (nI k9), .ref o]) (n := 6) (Nat.le_of_ble_eq_true rfl)
  rw [lg_entry_eq]
  generalize (lg_sl ([.ref h, .long x9, .int (nI k9), .ref o]) ++ List.replicate (6 - (lg_sl ([.ref h, .long x9, .int (nI k9), .ref o])).length) Slot.unset).toArray = ls at hl ⊢
  have hl : lv_has ls 6 [(0, .ref h), (1, .long x9), (3, .int (nI k9)), (4, .ref o)] := hl
  refine lv_aload hx hb dL_put_0 (lv_at hl 3 rfl) ?_
  refine lv_iconst (v := 0) hx hb dL_put_2 (by decide) ?_
  refine lv_aload_n hx hb dL_put_3 rfl (lv_at hl 0 rfl) ?_
  refine lv_lload_n hx hb dL_put_4 rfl (lv_at hl 1 rfl) ?_
  refine lv_iload_n hx hb dL_put_5 rfl (lv_at hl 2 rfl) ?_
  refine gji (wc := w0 h a b cB cJ f g (nI n8) zc zg zo) (wr := wo o cO go) (As := [.long x9, .int (nI k9)]) (rest := [.int 0, .ref o]) ⟨hx, hb, hml, hown, hts⟩ (c_X0_put l dC dI tk tw h a b cB cJ _ f g zc zg zo n8 hn8 k9 hk9 x9 hr9) (cwV 2 hts gL_put_X0_put rfl rfl rfl (by decide +kernel) ⟨Nat.le_of_ble_eq_true rfl, Nat.le_of_ble_eq_true rfl⟩) hKx hP hD hS hA hZ (q0 := 0) (ci := 0) rfl rfl rfl rfl hl.1 rfl (Nat.le_of_ble_eq_true rfl) dL_put_6 ⟨Nat.le_of_ble_eq_true rfl, Nat.le_of_ble_eq_true rfl⟩ (fun r u H locs hw hP hD hS => ?_)
  obtain rfl : r = nI (n8 + k9) := hw
  have hP : va_P (dC, dI) vwCl (w0 h a b cB cJ (apR f n8 x9 k9) g (nI (n8 + k9)) zc zg zo ++ wo o cO go) H := hP
  have hD : va_D A (w0 h a b cB cJ (apR f n8 x9 k9) g (nI (n8 + k9)) zc zg zo ++ wo o cO go) := hD
  refine lv_i2l hx hb dL_put_9 rfl ?_
  refine va_last hx hb hK hP hD hS 3 2 rfl rfl vp01 dL_put_10 (fun H locs hP hD hS => ?_)
  have hP : va_P (dC, dI) vwCl (w0 h a b cB cJ (apR f n8 x9 k9) g (nI (n8 + k9)) zc zg zo ++ wo o cO (vp_updL go 0 ((nI (n8 + k9)).toInt64))) H := hP
  have hD : va_D A (w0 h a b cB cJ (apR f n8 x9 k9) g (nI (n8 + k9)) zc zg zo ++ wo o cO (vp_updL go 0 ((nI (n8 + k9)).toInt64))) := hD
  refine lv_goto (tgt := 22) hx hb dL_put_11 (by decide) ?_
  refine lv_iconst (v := 0) hx hb dL_put_22 (by decide) ?_
  exact W.iret (v := 0) hx hb hr (fun t ht hW => ⟨⟨0, (), rfl, rfl, by rw [ht]; exact hP, va_K.moved hW.alike hK, hD⟩, hS.F ht⟩) hS.2.2 dL_put_23
set_option maxHeartbeats 4000000 in
set_option maxRecDepth 100000 in
theorem c_L_put_b (l : Launch) (hst : l.stackTraces = false) (sa : Nat → Nat) (dC : Nat → ClassId) (dI : Nat → Nat → Nat) (tk tw : Nat) (h a b : Nat) (cB cJ : ClassId) (o : Nat) (cO : ClassId) (go : Nat → Int64) (sz : Nat) (f : Nat → Int32) (g : Nat → Int64) (zs : Int32) (zc : Int32) (zg : Int32) (zo : Int32) (x9 : Int64) (m9 : Int32) (hm9 : m9 < 1 ∨ 8 < m9) : Met l yL_put wsL_put ({ frames := 7, cells := 1, slots := 6, locals := 105 }) (va_Pc [.ref h, .long x9, .int m9, .ref o] (prx dC dI (th cB cJ cO) (w0 h a b cB cJ f g zs zc zg zo ++ wo o cO go) sz tk tw sa)) (va_Qi (fun (r : Int32) (_ : Unit) => r = 1) (fun (_ : Unit) => po dC dI (th cB cJ cO) (va_A (w0 h a b cB cJ f g zs zc zg zo ++ wo o cO go) sz) (w0 h a b cB cJ f g zs zc zg zo ++ wo o cO go)) (va_A (w0 h a b cB cJ f g zs zc zg zo ++ wo o cO go) sz)) 1 6 (va_A (w0 h a b cB cJ f g zs zc zg zo ++ wo o cO go) sz) := by
  refine va_MetW (cc := cL_put) (maxL := 6) (ret := (some .int)) (hh := [(0, 11, 14, 13), (0, 11, 18, 15)]) (by decide) rfl ?_
  intro p e s m args below meth c s₁ Bd hml hv
  obtain ⟨rfl, hsz, hP, hK, hD0, hZ, hX⟩ := hv
  have hx := Bd.exec
  have hb := Bd.bytes
  have hr := Bd.returns
  have hts := atoms_spec (ws := wsL_put) Bd.pre
  have hown : s.vm.findClass RL = some m.cls := findClass_of_methodNamed Bd.named
  have hlocks := Bd.notSynchronized
  have hTab : c.exceptionTable.toList = tableOf [(0, 11, 14, 13), (0, 11, 18, 15)] := vx_table (x := yL_put) Bd (hts (.codeWith yL_put cL_put 6 (some .int) [(0, 11, 14, 13), (0, 11, 18, 15)]) (by decide +kernel))
  subst hsz
  have hD := hD0.self (sz := s.heap.size)
  generalize hAe : va_A (w0 h a b cB cJ f g zs zc zg zo ++ wo o cO go) s.heap.size = A at hD hZ hX ⊢
  have hA : ∀ q : Nat, s.heap.size ≤ q → A q := fun q h => by rw [← hAe]; exact Or.inr h
  have hS : va_S A s.heap s.heap [] := va_S.rf
  have hP : va_P (dC, dI) vwCl (w0 h a b cB cJ f g zs zc zg zo ++ wo o cO go) s.heap := hP
  have hKx : va_K (dC, dI) vwCl (t0 cB cJ) s := hK.sub [0, 1] rfl
  have hl := lv_entry ([.ref h, .long x9, .int m9, .ref o]) (n := 6) (Nat.le_of_ble_eq_true rfl)
  rw [lg_entry_eq]
  generalize (lg_sl ([.ref h, .long x9, .int m9, .ref o]) ++ List.replicate (6 - (lg_sl ([.ref h, .long x9, .int m9, .ref o])).length) Slot.unset).toArray = ls at hl ⊢
  have hl : lv_has ls 6 [(0, .ref h), (1, .long x9), (3, .int m9), (4, .ref o)] := hl
  refine lv_aload hx hb dL_put_0 (lv_at hl 3 rfl) ?_
  refine lv_iconst (v := 0) hx hb dL_put_2 (by decide) ?_
  refine lv_aload_n hx hb dL_put_3 rfl (lv_at hl 0 rfl) ?_
  refine lv_lload_n hx hb dL_put_4 rfl (lv_at hl 1 rfl) ?_
  refine lv_iload_n hx hb dL_put_5 rfl (lv_at hl 2 rfl) ?_
  refine gxi (wc := w0 h a b cB cJ f g zs zc zg zo) (wr := wo o cO go) (As := [.long x9, .int m9]) (rest := [.int 0, .ref o]) ⟨hx, hb, hml, hown, hts⟩ (c_X0_put_b l hst sa dC dI tk tw h a b cB cJ _ f g zs zc zg zo x9 m9 hm9) (cwV 2 hts gL_put_X0_put rfl rfl rfl (by decide +kernel) ⟨Nat.le_of_ble_eq_true rfl, Nat.le_of_ble_eq_true rfl⟩) hKx hP hD hS hA hZ hX (q0 := 0) (ci := 0) rfl rfl rfl rfl hl.1 rfl (Nat.le_of_ble_eq_true rfl) dL_put_6 ⟨Nat.le_of_ble_eq_true rfl, Nat.le_of_ble_eq_true rfl⟩ (fun ce q9 H locs hP hD hS hce hcv hcl => ?_)
  refine vx_catch (own := RL) (name := "java/lang/IllegalArgumentException") (E := "java/lang/IllegalArgumentException") hown [] ⟨0, 11, 14, 13⟩ [⟨0, 11, 18, 15⟩] (by rw [hTab]; rfl) (fun z hz => nomatch hz) (by decide) (by decide) (hts (.classLink RL 13 "java/lang/IllegalArgumentException") (by decide +kernel)) (va_Nw.use rfl hX.2.2.2.1) hce hcv hcl ?_
  refine lv_astore (lv' := [(5, .ref q9), (0, .ref h), (1, .long x9), (3, .int m9), (4, .ref o)]) hx hb dL_put_14 hl (by decide) rfl (fun ls hl => ?_)
  refine lv_iconst (v := 1) hx hb dL_put_16 (by decide) ?_
  exact W.iret (v := 1) hx hb hr (fun t ht hW => ⟨⟨1, (), rfl, rfl, by rw [ht]; exact hP, va_K.moved hW.alike hK, hD⟩, hS.F ht⟩) hS.2.2 dL_put_17
set_option maxHeartbeats 4000000 in
set_option maxRecDepth 100000 in
theorem c_L_put_f (l : Launch) (hst : l.stackTraces = false) (sa : Nat → Nat) (dC : Nat → ClassId) (dI : Nat → Nat → Nat) (tk tw : Nat) (h a b : Nat) (cB cJ : ClassId) (o : Nat) (cO : ClassId) (go : Nat → Int64) (sz : Nat) (f : Nat → Int32) (g : Nat → Int64) (zc : Int32) (zg : Int32) (zo : Int32) (n8 : Nat) (hn8 : n8 ≤ 4096) (k9 : Nat) (hk9 : 1 ≤ k9 ∧ k9 ≤ 8) (x9 : Int64) (hr9 : 4096 < n8 + k9) : Met l yL_put wsL_put ({ frames := 7, cells := 1, slots := 6, locals := 105 }) (va_Pc [.ref h, .long x9, .int (nI k9), .ref o] (prx dC dI (th cB cJ cO) (w0 h a b cB cJ f g (nI n8) zc zg zo ++ wo o cO go) sz tk tw sa)) (va_Qi (fun (r : Int32) (_ : Unit) => r = 2) (fun (_ : Unit) => po dC dI (th cB cJ cO) (va_A (w0 h a b cB cJ f g (nI n8) zc zg zo ++ wo o cO go) sz) (w0 h a b cB cJ f g (nI n8) zc zg zo ++ wo o cO go)) (va_A (w0 h a b cB cJ f g (nI n8) zc zg zo ++ wo o cO go) sz)) 1 6 (va_A (w0 h a b cB cJ f g (nI n8) zc zg zo ++ wo o cO go) sz) := by
  refine va_MetW (cc := cL_put) (maxL := 6) (ret := (some .int)) (hh := [(0, 11, 14, 13), (0, 11, 18, 15)]) (by decide) rfl ?_
  intro p e s m args below meth c s₁ Bd hml hv
  obtain ⟨rfl, hsz, hP, hK, hD0, hZ, hX⟩ := hv
  have hx := Bd.exec
  have hb := Bd.bytes
  have hr := Bd.returns
  have hts := atoms_spec (ws := wsL_put) Bd.pre
  have hown : s.vm.findClass RL = some m.cls := findClass_of_methodNamed Bd.named
  have hlocks := Bd.notSynchronized
  have hTab : c.exceptionTable.toList = tableOf [(0, 11, 14, 13), (0, 11, 18, 15)] := vx_table (x := yL_put) Bd (hts (.codeWith yL_put cL_put 6 (some .int) [(0, 11, 14, 13), (0, 11, 18, 15)]) (by decide +kernel))
  subst hsz
  have hD := hD0.self (sz := s.heap.size)
  generalize hAe : va_A (w0 h a b cB cJ f g (nI n8) zc zg zo ++ wo o cO go) s.heap.size = A at hD hZ hX ⊢
  have hA : ∀ q : Nat, s.heap.size ≤ q → A q := fun q h => by rw [← hAe]; exact Or.inr h
  have hS : va_S A s.heap s.heap [] := va_S.rf
  have hP : va_P (dC, dI) vwCl (w0 h a b cB cJ f g (nI n8) zc zg zo ++ wo o cO go) s.heap := hP
  have hKx : va_K (dC, dI) vwCl (t0 cB cJ) s := hK.sub [0, 1] rfl
  have hl := lv_entry ([.ref h, .long x9, .int (nI k9), .ref o]) (n := 6) (Nat.le_of_ble_eq_true rfl)
  rw [lg_entry_eq]
  generalize (lg_sl ([.ref h, .long x9, .int (nI k9), .ref o]) ++ List.replicate (6 - (lg_sl ([.ref h, .long x9, .int (nI k9), .ref o])).length) Slot.unset).toArray = ls at hl ⊢
  have hl : lv_has ls 6 [(0, .ref h), (1, .long x9), (3, .int (nI k9)), (4, .ref o)] := hl
  refine lv_aload hx hb dL_put_0 (lv_at hl 3 rfl) ?_
  refine lv_iconst (v := 0) hx hb dL_put_2 (by decide) ?_
  refine lv_aload_n hx hb dL_put_3 rfl (lv_at hl 0 rfl) ?_
  refine lv_lload_n hx hb dL_put_4 rfl (lv_at hl 1 rfl) ?_
  refine lv_iload_n hx hb dL_put_5 rfl (lv_at hl 2 rfl) ?_
  refine gxi (wc := w0 h a b cB cJ f g (nI n8) zc zg zo) (wr := wo o cO go) (As := [.long x9, .int (nI k9)]) (rest := [.int 0, .ref o]) ⟨hx, hb, hml, hown, hts⟩ (c_X0_put_f l hst sa dC dI tk tw h a b cB cJ _ f g zc zg zo n8 hn8 k9 hk9 x9 hr9) (cwV 2 hts gL_put_X0_put rfl rfl rfl (by decide +kernel) ⟨Nat.le_of_ble_eq_true rfl, Nat.le_of_ble_eq_true rfl⟩) hKx hP hD hS hA hZ hX (q0 := 0) (ci := 0) rfl rfl rfl rfl hl.1 rfl (Nat.le_of_ble_eq_true rfl) dL_put_6 ⟨Nat.le_of_ble_eq_true rfl, Nat.le_of_ble_eq_true rfl⟩ (fun ce q9 H locs hP hD hS hce hcv hcl => ?_)
  refine vx_catch (own := RL) (name := "java/lang/IllegalStateException") (E := "java/lang/IllegalStateException") hown [⟨0, 11, 14, 13⟩] ⟨0, 11, 18, 15⟩ [] (by rw [hTab]; rfl) (fun z hz => by rcases List.mem_cons.mp hz with rfl | hz; exact Or.inr ⟨by decide, "java/lang/IllegalArgumentException", hts (.classLink RL 13 "java/lang/IllegalArgumentException") (by decide +kernel), hX.2.2.2.2.2.2.2.2⟩; exact nomatch hz) (by decide) (by decide) (hts (.classLink RL 15 "java/lang/IllegalStateException") (by decide +kernel)) (va_Nw.use rfl hX.2.2.2.2.1) hce hcv hcl ?_
  refine lv_astore (lv' := [(5, .ref q9), (0, .ref h), (1, .long x9), (3, .int (nI k9)), (4, .ref o)]) hx hb dL_put_18 hl (by decide) rfl (fun ls hl => ?_)
  refine lv_iconst (v := 2) hx hb dL_put_20 (by decide) ?_
  exact W.iret (v := 2) hx hb hr (fun t ht hW => ⟨⟨2, (), rfl, rfl, by rw [ht]; exact hP, va_K.moved hW.alike hK, hD⟩, hS.F ht⟩) hS.2.2 dL_put_21
set_option maxHeartbeats 4000000 in
set_option maxRecDepth 100000 in
theorem c_L_cut (l : Launch) (hst : l.stackTraces = false) (sa : Nat → Nat) (dC : Nat → ClassId) (dI : Nat → Nat → Nat) (tk tw : Nat) (h a b : Nat) (cB cJ : ClassId) (o : Nat) (cO : ClassId) (go : Nat → Int64) (sz : Nat) (f : Nat → Int32) (g : Nat → Int64) (zg : Int32) (zo : Int32) (n8 c9 : Nat) (hn8 : n8 ≤ 4096) (hc9 : c9 ≤ n8) (k9 : Nat) (hk9 : k9 ≤ n8 - c9) : Met l yL_cut wsL_cut ({ frames := 7, cells := 0, slots := 0, locals := 103 }) (va_Pc [.ref h, .int (nI k9), .ref o] (prx dC dI (th cB cJ cO) (w0 h a b cB cJ f g (nI n8) (nI c9) zg zo ++ wo o cO go) sz tk tw sa)) (va_Qi (fun (r : Int32) (_ : Unit) => r = 0) (fun (_ : Unit) => po dC dI (th cB cJ cO) (va_A (w0 h a b cB cJ f g (nI n8) (nI c9) zg zo ++ wo o cO go) sz) (w0 h a b cB cJ f g (nI (n8 - k9)) (nI c9) zg zo ++ wo o cO (vp_updL go 0 ((nI (n8 - k9)).toInt64)))) (va_A (w0 h a b cB cJ f g (nI n8) (nI c9) zg zo ++ wo o cO go) sz)) 0 0 (va_A (w0 h a b cB cJ f g (nI n8) (nI c9) zg zo ++ wo o cO go) sz) := by
  refine va_MetW (cc := cL_cut) (maxL := 4) (ret := (some .int)) (hh := [(0, 9, 12, 13)]) (by decide) rfl ?_
  intro p e s m args below meth c s₁ Bd hml hv
  obtain ⟨rfl, hsz, hP, hK, hD0, hZ, hX⟩ := hv
  have hx := Bd.exec
  have hb := Bd.bytes
  have hr := Bd.returns
  have hts := atoms_spec (ws := wsL_cut) Bd.pre
  have hown : s.vm.findClass RL = some m.cls := findClass_of_methodNamed Bd.named
  have hlocks := Bd.notSynchronized
  subst hsz
  have hD := hD0.self (sz := s.heap.size)
  generalize hAe : va_A (w0 h a b cB cJ f g (nI n8) (nI c9) zg zo ++ wo o cO go) s.heap.size = A at hD hZ hX ⊢
  have hA : ∀ q : Nat, s.heap.size ≤ q → A q := fun q h => by rw [← hAe]; exact Or.inr h
  have hS : va_S A s.heap s.heap [] := va_S.rf
  have hP : va_P (dC, dI) vwCl (w0 h a b cB cJ f g (nI n8) (nI c9) zg zo ++ wo o cO go) s.heap := hP
  have hKx : va_K (dC, dI) vwCl (t0 cB cJ) s := hK.sub [0, 1] rfl
  have hl := lv_entry ([.ref h, .int (nI k9), .ref o]) (n := 4) (Nat.le_of_ble_eq_true rfl)
  rw [lg_entry_eq]
  generalize (lg_sl ([.ref h, .int (nI k9), .ref o]) ++ List.replicate (4 - (lg_sl ([.ref h, .int (nI k9), .ref o])).length) Slot.unset).toArray = ls at hl ⊢
  have hl : lv_has ls 4 [(0, .ref h), (1, .int (nI k9)), (2, .ref o)] := hl
  refine lv_aload_n hx hb dL_cut_0 rfl (lv_at hl 2 rfl) ?_
  refine lv_iconst (v := 0) hx hb dL_cut_1 (by decide) ?_
  refine lv_aload_n hx hb dL_cut_2 rfl (lv_at hl 0 rfl) ?_
  refine lv_iload_n hx hb dL_cut_3 rfl (lv_at hl 1 rfl) ?_
  refine gji (wc := w0 h a b cB cJ f g (nI n8) (nI c9) zg zo) (wr := wo o cO go) (As := [.int (nI k9)]) (rest := [.int 0, .ref o]) ⟨hx, hb, hml, hown, hts⟩ (c_X0_cut l dC dI tk tw h a b cB cJ _ f g zg zo n8 c9 hn8 hc9 k9 hk9) (cwV 1 hts gL_cut_X0_cut rfl rfl rfl (by decide +kernel) ⟨Nat.le_of_ble_eq_true rfl, Nat.le_of_ble_eq_true rfl⟩) hKx hP hD hS hA hZ (q0 := 0) (ci := 0) rfl rfl rfl rfl hl.1 rfl (Nat.le_of_ble_eq_true rfl) dL_cut_4 ⟨Nat.le_of_ble_eq_true rfl, Nat.le_of_ble_eq_true rfl⟩ (fun r u H locs hw hP hD hS => ?_)
  obtain rfl : r = nI (n8 - k9) := hw
  have hP : va_P (dC, dI) vwCl (w0 h a b cB cJ f g (nI (n8 - k9)) (nI c9) zg zo ++ wo o cO go) H := hP
  have hD : va_D A (w0 h a b cB cJ f g (nI (n8 - k9)) (nI c9) zg zo ++ wo o cO go) := hD
  refine lv_i2l hx hb dL_cut_7 rfl ?_
  refine va_last hx hb hK hP hD hS 3 2 rfl rfl vp01 dL_cut_8 (fun H locs hP hD hS => ?_)
  have hP : va_P (dC, dI) vwCl (w0 h a b cB cJ f g (nI (n8 - k9)) (nI c9) zg zo ++ wo o cO (vp_updL go 0 ((nI (n8 - k9)).toInt64))) H := hP
  have hD : va_D A (w0 h a b cB cJ f g (nI (n8 - k9)) (nI c9) zg zo ++ wo o cO (vp_updL go 0 ((nI (n8 - k9)).toInt64))) := hD
  refine lv_goto (tgt := 15) hx hb dL_cut_9 (by decide) ?_
  refine lv_iconst (v := 0) hx hb dL_cut_15 (by decide) ?_
  exact W.iret (v := 0) hx hb hr (fun t ht hW => ⟨⟨0, (), rfl, rfl, by rw [ht]; exact hP, va_K.moved hW.alike hK, hD⟩, hS.F ht⟩) hS.2.2 dL_cut_16
set_option maxHeartbeats 4000000 in
set_option maxRecDepth 100000 in
theorem c_L_cut_b (l : Launch) (hst : l.stackTraces = false) (sa : Nat → Nat) (dC : Nat → ClassId) (dI : Nat → Nat → Nat) (tk tw : Nat) (h a b : Nat) (cB cJ : ClassId) (o : Nat) (cO : ClassId) (go : Nat → Int64) (sz : Nat) (f : Nat → Int32) (g : Nat → Int64) (zg : Int32) (zo : Int32) (n8 c9 : Nat) (hn8 : n8 ≤ 4096) (hc9 : c9 ≤ n8) (m9 : Int32) (hm9 : m9 < 0 ∨ nI (n8 - c9) < m9) : Met l yL_cut wsL_cut ({ frames := 7, cells := 1, slots := 6, locals := 103 }) (va_Pc [.ref h, .int m9, .ref o] (prx dC dI (th cB cJ cO) (w0 h a b cB cJ f g (nI n8) (nI c9) zg zo ++ wo o cO go) sz tk tw sa)) (va_Qi (fun (r : Int32) (_ : Unit) => r = 1) (fun (_ : Unit) => po dC dI (th cB cJ cO) (va_A (w0 h a b cB cJ f g (nI n8) (nI c9) zg zo ++ wo o cO go) sz) (w0 h a b cB cJ f g (nI n8) (nI c9) zg zo ++ wo o cO go)) (va_A (w0 h a b cB cJ f g (nI n8) (nI c9) zg zo ++ wo o cO go) sz)) 1 6 (va_A (w0 h a b cB cJ f g (nI n8) (nI c9) zg zo ++ wo o cO go) sz) := by
  refine va_MetW (cc := cL_cut) (maxL := 4) (ret := (some .int)) (hh := [(0, 9, 12, 13)]) (by decide) rfl ?_
  intro p e s m args below meth c s₁ Bd hml hv
  obtain ⟨rfl, hsz, hP, hK, hD0, hZ, hX⟩ := hv
  have hx := Bd.exec
  have hb := Bd.bytes
  have hr := Bd.returns
  have hts := atoms_spec (ws := wsL_cut) Bd.pre
  have hown : s.vm.findClass RL = some m.cls := findClass_of_methodNamed Bd.named
  have hlocks := Bd.notSynchronized
  have hTab : c.exceptionTable.toList = tableOf [(0, 9, 12, 13)] := vx_table (x := yL_cut) Bd (hts (.codeWith yL_cut cL_cut 4 (some .int) [(0, 9, 12, 13)]) (by decide +kernel))
  subst hsz
  have hD := hD0.self (sz := s.heap.size)
  generalize hAe : va_A (w0 h a b cB cJ f g (nI n8) (nI c9) zg zo ++ wo o cO go) s.heap.size = A at hD hZ hX ⊢
  have hA : ∀ q : Nat, s.heap.size ≤ q → A q := fun q h => by rw [← hAe]; exact Or.inr h
  have hS : va_S A s.heap s.heap [] := va_S.rf
  have hP : va_P (dC, dI) vwCl (w0 h a b cB cJ f g (nI n8) (nI c9) zg zo ++ wo o cO go) s.heap := hP
  have hKx : va_K (dC, dI) vwCl (t0 cB cJ) s := hK.sub [0, 1] rfl
  have hl := lv_entry ([.ref h, .int m9, .ref o]) (n := 4) (Nat.le_of_ble_eq_true rfl)
  rw [lg_entry_eq]
  generalize (lg_sl ([.ref h, .int m9, .ref o]) ++ List.replicate (4 - (lg_sl ([.ref h, .int m9, .ref o])).length) Slot.unset).toArray = ls at hl ⊢
  have hl : lv_has ls 4 [(0, .ref h), (1, .int m9), (2, .ref o)] := hl
  refine lv_aload_n hx hb dL_cut_0 rfl (lv_at hl 2 rfl) ?_
  refine lv_iconst (v := 0) hx hb dL_cut_1 (by decide) ?_
  refine lv_aload_n hx hb dL_cut_2 rfl (lv_at hl 0 rfl) ?_
  refine lv_iload_n hx hb dL_cut_3 rfl (lv_at hl 1 rfl) ?_
  refine gxi (wc := w0 h a b cB cJ f g (nI n8) (nI c9) zg zo) (wr := wo o cO go) (As := [.int m9]) (rest := [.int 0, .ref o]) ⟨hx, hb, hml, hown, hts⟩ (c_X0_cut_b l hst sa dC dI tk tw h a b cB cJ _ f g zg zo n8 c9 hn8 hc9 m9 hm9) (cwV 1 hts gL_cut_X0_cut rfl rfl rfl (by decide +kernel) ⟨Nat.le_of_ble_eq_true rfl, Nat.le_of_ble_eq_true rfl⟩) hKx hP hD hS hA hZ hX (q0 := 0) (ci := 0) rfl rfl rfl rfl hl.1 rfl (Nat.le_of_ble_eq_true rfl) dL_cut_4 ⟨Nat.le_of_ble_eq_true rfl, Nat.le_of_ble_eq_true rfl⟩ (fun ce q9 H locs hP hD hS hce hcv hcl => ?_)
  refine vx_catch (own := RL) (name := "java/lang/IllegalArgumentException") (E := "java/lang/IllegalArgumentException") hown [] ⟨0, 9, 12, 13⟩ [] (by rw [hTab]; rfl) (fun z hz => nomatch hz) (by decide) (by decide) (hts (.classLink RL 13 "java/lang/IllegalArgumentException") (by decide +kernel)) (va_Nw.use rfl hX.2.2.2.1) hce hcv hcl ?_
  refine lv_astore_n (lv' := [(3, .ref q9), (0, .ref h), (1, .int m9), (2, .ref o)]) hx hb dL_cut_12 rfl hl (by decide) rfl (fun ls hl => ?_)
  refine lv_iconst (v := 1) hx hb dL_cut_13 (by decide) ?_
  exact W.iret (v := 1) hx hb hr (fun t ht hW => ⟨⟨1, (), rfl, rfl, by rw [ht]; exact hP, va_K.moved hW.alike hK, hD⟩, hS.F ht⟩) hS.2.2 dL_cut_14
set_option maxHeartbeats 4000000 in
set_option maxRecDepth 100000 in
theorem c_L_byteAt (l : Launch) (hst : l.stackTraces = false) (sa : Nat → Nat) (dC : Nat → ClassId) (dI : Nat → Nat → Nat) (tk tw : Nat) (h a b : Nat) (cB cJ : ClassId) (o : Nat) (cO : ClassId) (go : Nat → Int64) (sz : Nat) (f : Nat → Int32) (g : Nat → Int64) (zc : Int32) (zg : Int32) (zo : Int32) (n8 : Nat) (hn8 : n8 ≤ 4096) (j9 : Nat) (hj9 : j9 < n8) : Met l yL_byteAt wsL_byteAt ({ frames := 7, cells := 0, slots := 0, locals := 103 }) (va_Pc [.ref h, .int (nI j9), .ref o] (prx dC dI (th cB cJ cO) (w0 h a b cB cJ f g (nI n8) zc zg zo ++ wo o cO go) sz tk tw sa)) (va_Qi (fun (r : Int32) (_ : Unit) => r = 0) (fun (_ : Unit) => po dC dI (th cB cJ cO) (va_A (w0 h a b cB cJ f g (nI n8) zc zg zo ++ wo o cO go) sz) (w0 h a b cB cJ f g (nI n8) zc zg zo ++ wo o cO (vp_updL go 0 ((nI (bY f j9)).toInt64)))) (va_A (w0 h a b cB cJ f g (nI n8) zc zg zo ++ wo o cO go) sz)) 0 0 (va_A (w0 h a b cB cJ f g (nI n8) zc zg zo ++ wo o cO go) sz) := by
  refine va_MetW (cc := cL_byteAt) (maxL := 4) (ret := (some .int)) (hh := [(0, 9, 12, 13)]) (by decide) rfl ?_
  intro p e s m args below meth c s₁ Bd hml hv
  obtain ⟨rfl, hsz, hP, hK, hD0, hZ, hX⟩ := hv
  have hx := Bd.exec
  have hb := Bd.bytes
  have hr := Bd.returns
  have hts := atoms_spec (ws := wsL_byteAt) Bd.pre
  have hown : s.vm.findClass RL = some m.cls := findClass_of_methodNamed Bd.named
  have hlocks := Bd.notSynchronized
  subst hsz
  have hD := hD0.self (sz := s.heap.size)
  generalize hAe : va_A (w0 h a b cB cJ f g (nI n8) zc zg zo ++ wo o cO go) s.heap.size = A at hD hZ hX ⊢
  have hA : ∀ q : Nat, s.heap.size ≤ q → A q := fun q h => by rw [← hAe]; exact Or.inr h
  have hS : va_S A s.heap s.heap [] := va_S.rf
  have hP : va_P (dC, dI) vwCl (w0 h a b cB cJ f g (nI n8) zc zg zo ++ wo o cO go) s.heap := hP
  have hKx : va_K (dC, dI) vwCl (t0 cB cJ) s := hK.sub [0, 1] rfl
  have hl := lv_entry ([.ref h, .int (nI j9), .ref o]) (n := 4) (Nat.le_of_ble_eq_true rfl)
  rw [lg_entry_eq]
  generalize (lg_sl ([.ref h, .int (nI j9), .ref o]) ++ List.replicate (4 - (lg_sl ([.ref h, .int (nI j9), .ref o])).length) Slot.unset).toArray = ls at hl ⊢
  have hl : lv_has ls 4 [(0, .ref h), (1, .int (nI j9)), (2, .ref o)] := hl
  refine lv_aload_n hx hb dL_byteAt_0 rfl (lv_at hl 2 rfl) ?_
  refine lv_iconst (v := 0) hx hb dL_byteAt_1 (by decide) ?_
  refine lv_aload_n hx hb dL_byteAt_2 rfl (lv_at hl 0 rfl) ?_
  refine lv_iload_n hx hb dL_byteAt_3 rfl (lv_at hl 1 rfl) ?_
  refine gji (wc := w0 h a b cB cJ f g (nI n8) zc zg zo) (wr := wo o cO go) (As := [.int (nI j9)]) (rest := [.int 0, .ref o]) ⟨hx, hb, hml, hown, hts⟩ (c_X0_byteAt l dC dI tk tw h a b cB cJ _ f g zc zg zo n8 hn8 j9 hj9) (cwV 1 hts gL_byteAt_X0_byteAt rfl rfl rfl (by decide +kernel) ⟨Nat.le_of_ble_eq_true rfl, Nat.le_of_ble_eq_true rfl⟩) hKx hP hD hS hA hZ (q0 := 0) (ci := 0) rfl rfl rfl rfl hl.1 rfl (Nat.le_of_ble_eq_true rfl) dL_byteAt_4 ⟨Nat.le_of_ble_eq_true rfl, Nat.le_of_ble_eq_true rfl⟩ (fun r u H locs hw hP hD hS => ?_)
  obtain rfl : r = nI (bY f j9) := hw
  have hP : va_P (dC, dI) vwCl (w0 h a b cB cJ f g (nI n8) zc zg zo ++ wo o cO go) H := hP
  have hD : va_D A (w0 h a b cB cJ f g (nI n8) zc zg zo ++ wo o cO go) := hD
  refine lv_i2l hx hb dL_byteAt_7 rfl ?_
  refine va_last hx hb hK hP hD hS 3 2 rfl rfl vp01 dL_byteAt_8 (fun H locs hP hD hS => ?_)
  have hP : va_P (dC, dI) vwCl (w0 h a b cB cJ f g (nI n8) zc zg zo ++ wo o cO (vp_updL go 0 ((nI (bY f j9)).toInt64))) H := hP
  have hD : va_D A (w0 h a b cB cJ f g (nI n8) zc zg zo ++ wo o cO (vp_updL go 0 ((nI (bY f j9)).toInt64))) := hD
  refine lv_goto (tgt := 15) hx hb dL_byteAt_9 (by decide) ?_
  refine lv_iconst (v := 0) hx hb dL_byteAt_15 (by decide) ?_
  exact W.iret (v := 0) hx hb hr (fun t ht hW => ⟨⟨0, (), rfl, rfl, by rw [ht]; exact hP, va_K.moved hW.alike hK, hD⟩, hS.F ht⟩) hS.2.2 dL_byteAt_16
set_option maxHeartbeats 4000000 in
set_option maxRecDepth 100000 in
theorem c_L_byteAt_b (l : Launch) (hst : l.stackTraces = false) (sa : Nat → Nat) (dC : Nat → ClassId) (dI : Nat → Nat → Nat) (tk tw : Nat) (h a b : Nat) (cB cJ : ClassId) (o : Nat) (cO : ClassId) (go : Nat → Int64) (sz : Nat) (f : Nat → Int32) (g : Nat → Int64) (zc : Int32) (zg : Int32) (zo : Int32) (n8 : Nat) (hn8 : n8 ≤ 4096) (i9 : Int32) (hi9 : i9 < 0 ∨ nI n8 ≤ i9) : Met l yL_byteAt wsL_byteAt ({ frames := 7, cells := 1, slots := 6, locals := 103 }) (va_Pc [.ref h, .int i9, .ref o] (prx dC dI (th cB cJ cO) (w0 h a b cB cJ f g (nI n8) zc zg zo ++ wo o cO go) sz tk tw sa)) (va_Qi (fun (r : Int32) (_ : Unit) => r = 1) (fun (_ : Unit) => po dC dI (th cB cJ cO) (va_A (w0 h a b cB cJ f g (nI n8) zc zg zo ++ wo o cO go) sz) (w0 h a b cB cJ f g (nI n8) zc zg zo ++ wo o cO go)) (va_A (w0 h a b cB cJ f g (nI n8) zc zg zo ++ wo o cO go) sz)) 1 6 (va_A (w0 h a b cB cJ f g (nI n8) zc zg zo ++ wo o cO go) sz) := by
  refine va_MetW (cc := cL_byteAt) (maxL := 4) (ret := (some .int)) (hh := [(0, 9, 12, 13)]) (by decide) rfl ?_
  intro p e s m args below meth c s₁ Bd hml hv
  obtain ⟨rfl, hsz, hP, hK, hD0, hZ, hX⟩ := hv
  have hx := Bd.exec
  have hb := Bd.bytes
  have hr := Bd.returns
  have hts := atoms_spec (ws := wsL_byteAt) Bd.pre
  have hown : s.vm.findClass RL = some m.cls := findClass_of_methodNamed Bd.named
  have hlocks := Bd.notSynchronized
  have hTab : c.exceptionTable.toList = tableOf [(0, 9, 12, 13)] := vx_table (x := yL_byteAt) Bd (hts (.codeWith yL_byteAt cL_byteAt 4 (some .int) [(0, 9, 12, 13)]) (by decide +kernel))
  subst hsz
  have hD := hD0.self (sz := s.heap.size)
  generalize hAe : va_A (w0 h a b cB cJ f g (nI n8) zc zg zo ++ wo o cO go) s.heap.size = A at hD hZ hX ⊢
  have hA : ∀ q : Nat, s.heap.size ≤ q → A q := fun q h => by rw [← hAe]; exact Or.inr h
  have hS : va_S A s.heap s.heap [] := va_S.rf
  have hP : va_P (dC, dI) vwCl (w0 h a b cB cJ f g (nI n8) zc zg zo ++ wo o cO go) s.heap := hP
  have hKx : va_K (dC, dI) vwCl (t0 cB cJ) s := hK.sub [0, 1] rfl
  have hl := lv_entry ([.ref h, .int i9, .ref o]) (n := 4) (Nat.le_of_ble_eq_true rfl)
  rw [lg_entry_eq]
  generalize (lg_sl ([.ref h, .int i9, .ref o]) ++ List.replicate (4 - (lg_sl ([.ref h, .int i9, .ref o])).length) Slot.unset).toArray = ls at hl ⊢
  have hl : lv_has ls 4 [(0, .ref h), (1, .int i9), (2, .ref o)] := hl
  refine lv_aload_n hx hb dL_byteAt_0 rfl (lv_at hl 2 rfl) ?_
  refine lv_iconst (v := 0) hx hb dL_byteAt_1 (by decide) ?_
  refine lv_aload_n hx hb dL_byteAt_2 rfl (lv_at hl 0 rfl) ?_
  refine lv_iload_n hx hb dL_byteAt_3 rfl (lv_at hl 1 rfl) ?_
  refine gxi (wc := w0 h a b cB cJ f g (nI n8) zc zg zo) (wr := wo o cO go) (As := [.int i9]) (rest := [.int 0, .ref o]) ⟨hx, hb, hml, hown, hts⟩ (c_X0_byteAt_b l hst sa dC dI tk tw h a b cB cJ _ f g zc zg zo n8 hn8 i9 hi9) (cwV 1 hts gL_byteAt_X0_byteAt rfl rfl rfl (by decide +kernel) ⟨Nat.le_of_ble_eq_true rfl, Nat.le_of_ble_eq_true rfl⟩) hKx hP hD hS hA hZ hX (q0 := 0) (ci := 0) rfl rfl rfl rfl hl.1 rfl (Nat.le_of_ble_eq_true rfl) dL_byteAt_4 ⟨Nat.le_of_ble_eq_true rfl, Nat.le_of_ble_eq_true rfl⟩ (fun ce q9 H locs hP hD hS hce hcv hcl => ?_)
  refine vx_catch (own := RL) (name := "java/lang/IllegalArgumentException") (E := "java/lang/IllegalArgumentException") hown [] ⟨0, 9, 12, 13⟩ [] (by rw [hTab]; rfl) (fun z hz => nomatch hz) (by decide) (by decide) (hts (.classLink RL 13 "java/lang/IllegalArgumentException") (by decide +kernel)) (va_Nw.use rfl hX.2.2.2.1) hce hcv hcl ?_
  refine lv_astore_n (lv' := [(3, .ref q9), (0, .ref h), (1, .int i9), (2, .ref o)]) hx hb dL_byteAt_12 rfl hl (by decide) rfl (fun ls hl => ?_)
  refine lv_iconst (v := 1) hx hb dL_byteAt_13 (by decide) ?_
  exact W.iret (v := 1) hx hb hr (fun t ht hW => ⟨⟨1, (), rfl, rfl, by rw [ht]; exact hP, va_K.moved hW.alike hK, hD⟩, hS.F ht⟩) hS.2.2 dL_byteAt_14
set_option maxHeartbeats 4000000 in
set_option maxRecDepth 100000 in
theorem c_L_remaining (l : Launch) (hst : l.stackTraces = false) (sa : Nat → Nat) (dC : Nat → ClassId) (dI : Nat → Nat → Nat) (tk tw : Nat) (h a b : Nat) (cB cJ : ClassId) (o : Nat) (cO : ClassId) (go : Nat → Int64) (sz : Nat) (f : Nat → Int32) (g : Nat → Int64) (zs : Int32) (zc : Int32) (zg : Int32) (k9 : Nat) (hk9 : k9 ≤ 100) (i9 : Int32) (hi9 : ¬ i9 < 0) : Met l yL_remaining wsL_remaining ({ frames := 7, cells := 0, slots := 0, locals := 103 }) (va_Pc [.ref h, .int i9, .ref o] (prx dC dI (th cB cJ cO) (w0 h a b cB cJ f g zs zc zg (nI k9) ++ wo o cO go) sz tk tw sa)) (va_Qi (fun (r : Int32) (_ : Unit) => r = 0) (fun (_ : Unit) => po dC dI (th cB cJ cO) (va_A (w0 h a b cB cJ f g zs zc zg (nI k9) ++ wo o cO go) sz) (w0 h a b cB cJ f g zs zc zg (nI k9) ++ wo o cO (vp_updL go 0 (rmS g k9 i9)))) (va_A (w0 h a b cB cJ f g zs zc zg (nI k9) ++ wo o cO go) sz)) 0 0 (va_A (w0 h a b cB cJ f g zs zc zg (nI k9) ++ wo o cO go) sz) := by
  refine va_MetW (cc := cL_remaining) (maxL := 4) (ret := (some .int)) (hh := [(0, 8, 11, 13)]) (by decide) rfl ?_
  intro p e s m args below meth c s₁ Bd hml hv
  obtain ⟨rfl, hsz, hP, hK, hD0, hZ, hX⟩ := hv
  have hx := Bd.exec
  have hb := Bd.bytes
  have hr := Bd.returns
  have hts := atoms_spec (ws := wsL_remaining) Bd.pre
  have hown : s.vm.findClass RL = some m.cls := findClass_of_methodNamed Bd.named
  have hlocks := Bd.notSynchronized
  subst hsz
  have hD := hD0.self (sz := s.heap.size)
  generalize hAe : va_A (w0 h a b cB cJ f g zs zc zg (nI k9) ++ wo o cO go) s.heap.size = A at hD hZ hX ⊢
  have hA : ∀ q : Nat, s.heap.size ≤ q → A q := fun q h => by rw [← hAe]; exact Or.inr h
  have hS : va_S A s.heap s.heap [] := va_S.rf
  have hP : va_P (dC, dI) vwCl (w0 h a b cB cJ f g zs zc zg (nI k9) ++ wo o cO go) s.heap := hP
  have hKx : va_K (dC, dI) vwCl (t0 cB cJ) s := hK.sub [0, 1] rfl
  have hl := lv_entry ([.ref h, .int i9, .ref o]) (n := 4) (Nat.le_of_ble_eq_true rfl)
  rw [lg_entry_eq]
  generalize (lg_sl ([.ref h, .int i9, .ref o]) ++ List.replicate (4 - (lg_sl ([.ref h, .int i9, .ref o])).length) Slot.unset).toArray = ls at hl ⊢
  have hl : lv_has ls 4 [(0, .ref h), (1, .int i9), (2, .ref o)] := hl
  refine lv_aload_n hx hb dL_remaining_0 rfl (lv_at hl 2 rfl) ?_
  refine lv_iconst (v := 0) hx hb dL_remaining_1 (by decide) ?_
  refine lv_aload_n hx hb dL_remaining_2 rfl (lv_at hl 0 rfl) ?_
  refine lv_iload_n hx hb dL_remaining_3 rfl (lv_at hl 1 rfl) ?_
  refine gjl (wc := w0 h a b cB cJ f g zs zc zg (nI k9)) (wr := wo o cO go) (As := [.int i9]) (rest := [.int 0, .ref o]) ⟨hx, hb, hml, hown, hts⟩ (c_X0_remaining l dC dI tk tw h a b cB cJ _ f g zs zc zg k9 hk9 i9 hi9) (cwV 1 hts gL_remaining_X0_remaining rfl rfl rfl (by decide +kernel) ⟨Nat.le_of_ble_eq_true rfl, Nat.le_of_ble_eq_true rfl⟩) hKx hP hD hS hA hZ (q0 := 0) (ci := 0) rfl rfl rfl rfl hl.1 rfl (Nat.le_of_ble_eq_true rfl) dL_remaining_4 ⟨Nat.le_of_ble_eq_true rfl, Nat.le_of_ble_eq_true rfl⟩ (fun r u H locs hw hP hD hS => ?_)
  obtain rfl : r = rmS g k9 i9 := hw
  have hP : va_P (dC, dI) vwCl (w0 h a b cB cJ f g zs zc zg (nI k9) ++ wo o cO go) H := hP
  have hD : va_D A (w0 h a b cB cJ f g zs zc zg (nI k9) ++ wo o cO go) := hD
  refine va_last hx hb hK hP hD hS 3 2 rfl rfl vp01 dL_remaining_7 (fun H locs hP hD hS => ?_)
  have hP : va_P (dC, dI) vwCl (w0 h a b cB cJ f g zs zc zg (nI k9) ++ wo o cO (vp_updL go 0 (rmS g k9 i9))) H := hP
  have hD : va_D A (w0 h a b cB cJ f g zs zc zg (nI k9) ++ wo o cO (vp_updL go 0 (rmS g k9 i9))) := hD
  refine lv_goto (tgt := 14) hx hb dL_remaining_8 (by decide) ?_
  refine lv_iconst (v := 0) hx hb dL_remaining_14 (by decide) ?_
  exact W.iret (v := 0) hx hb hr (fun t ht hW => ⟨⟨0, (), rfl, rfl, by rw [ht]; exact hP, va_K.moved hW.alike hK, hD⟩, hS.F ht⟩) hS.2.2 dL_remaining_15
set_option maxHeartbeats 4000000 in
set_option maxRecDepth 100000 in
theorem c_L_remaining_b (l : Launch) (hst : l.stackTraces = false) (sa : Nat → Nat) (dC : Nat → ClassId) (dI : Nat → Nat → Nat) (tk tw : Nat) (h a b : Nat) (cB cJ : ClassId) (o : Nat) (cO : ClassId) (go : Nat → Int64) (sz : Nat) (f : Nat → Int32) (g : Nat → Int64) (zs : Int32) (zc : Int32) (zg : Int32) (zo : Int32) (i9 : Int32) (hi9 : i9 < 0) : Met l yL_remaining wsL_remaining ({ frames := 7, cells := 1, slots := 6, locals := 103 }) (va_Pc [.ref h, .int i9, .ref o] (prx dC dI (th cB cJ cO) (w0 h a b cB cJ f g zs zc zg zo ++ wo o cO go) sz tk tw sa)) (va_Qi (fun (r : Int32) (_ : Unit) => r = 1) (fun (_ : Unit) => po dC dI (th cB cJ cO) (va_A (w0 h a b cB cJ f g zs zc zg zo ++ wo o cO go) sz) (w0 h a b cB cJ f g zs zc zg zo ++ wo o cO go)) (va_A (w0 h a b cB cJ f g zs zc zg zo ++ wo o cO go) sz)) 1 6 (va_A (w0 h a b cB cJ f g zs zc zg zo ++ wo o cO go) sz) := by
  refine va_MetW (cc := cL_remaining) (maxL := 4) (ret := (some .int)) (hh := [(0, 8, 11, 13)]) (by decide) rfl ?_
  intro p e s m args below meth c s₁ Bd hml hv
  obtain ⟨rfl, hsz, hP, hK, hD0, hZ, hX⟩ := hv
  have hx := Bd.exec
  have hb := Bd.bytes
  have hr := Bd.returns
  have hts := atoms_spec (ws := wsL_remaining) Bd.pre
  have hown : s.vm.findClass RL = some m.cls := findClass_of_methodNamed Bd.named
  have hlocks := Bd.notSynchronized
  have hTab : c.exceptionTable.toList = tableOf [(0, 8, 11, 13)] := vx_table (x := yL_remaining) Bd (hts (.codeWith yL_remaining cL_remaining 4 (some .int) [(0, 8, 11, 13)]) (by decide +kernel))
  subst hsz
  have hD := hD0.self (sz := s.heap.size)
  generalize hAe : va_A (w0 h a b cB cJ f g zs zc zg zo ++ wo o cO go) s.heap.size = A at hD hZ hX ⊢
  have hA : ∀ q : Nat, s.heap.size ≤ q → A q := fun q h => by rw [← hAe]; exact Or.inr h
  have hS : va_S A s.heap s.heap [] := va_S.rf
  have hP : va_P (dC, dI) vwCl (w0 h a b cB cJ f g zs zc zg zo ++ wo o cO go) s.heap := hP
  have hKx : va_K (dC, dI) vwCl (t0 cB cJ) s := hK.sub [0, 1] rfl
  have hl := lv_entry ([.ref h, .int i9, .ref o]) (n := 4) (Nat.le_of_ble_eq_true rfl)
  rw [lg_entry_eq]
  generalize (lg_sl ([.ref h, .int i9, .ref o]) ++ List.replicate (4 - (lg_sl ([.ref h, .int i9, .ref o])).length) Slot.unset).toArray = ls at hl ⊢
  have hl : lv_has ls 4 [(0, .ref h), (1, .int i9), (2, .ref o)] := hl
  refine lv_aload_n hx hb dL_remaining_0 rfl (lv_at hl 2 rfl) ?_
  refine lv_iconst (v := 0) hx hb dL_remaining_1 (by decide) ?_
  refine lv_aload_n hx hb dL_remaining_2 rfl (lv_at hl 0 rfl) ?_
  refine lv_iload_n hx hb dL_remaining_3 rfl (lv_at hl 1 rfl) ?_
  refine gxl (wc := w0 h a b cB cJ f g zs zc zg zo) (wr := wo o cO go) (As := [.int i9]) (rest := [.int 0, .ref o]) ⟨hx, hb, hml, hown, hts⟩ (c_X0_remaining_b l hst sa dC dI tk tw h a b cB cJ _ f g zs zc zg zo i9 hi9) (cwV 1 hts gL_remaining_X0_remaining rfl rfl rfl (by decide +kernel) ⟨Nat.le_of_ble_eq_true rfl, Nat.le_of_ble_eq_true rfl⟩) hKx hP hD hS hA hZ hX (q0 := 0) (ci := 0) rfl rfl rfl rfl hl.1 rfl (Nat.le_of_ble_eq_true rfl) dL_remaining_4 ⟨Nat.le_of_ble_eq_true rfl, Nat.le_of_ble_eq_true rfl⟩ (fun ce q9 H locs hP hD hS hce hcv hcl => ?_)
  refine vx_catch (own := RL) (name := "java/lang/IllegalArgumentException") (E := "java/lang/IllegalArgumentException") hown [] ⟨0, 8, 11, 13⟩ [] (by rw [hTab]; rfl) (fun z hz => nomatch hz) (by decide) (by decide) (hts (.classLink RL 13 "java/lang/IllegalArgumentException") (by decide +kernel)) (va_Nw.use rfl hX.2.2.2.1) hce hcv hcl ?_
  refine lv_astore_n (lv' := [(3, .ref q9), (0, .ref h), (1, .int i9), (2, .ref o)]) hx hb dL_remaining_11 rfl hl (by decide) rfl (fun ls hl => ?_)
  refine lv_iconst (v := 1) hx hb dL_remaining_12 (by decide) ?_
  exact W.iret (v := 1) hx hb hr (fun t ht hW => ⟨⟨1, (), rfl, rfl, by rw [ht]; exact hP, va_K.moved hW.alike hK, hD⟩, hS.F ht⟩) hS.2.2 dL_remaining_13
set_option maxHeartbeats 4000000 in
set_option maxRecDepth 100000 in
theorem c_L_pack (l : Launch) (hst : l.stackTraces = false) (sa : Nat → Nat) (dC : Nat → ClassId) (dI : Nat → Nat → Nat) (tk tw : Nat) (h a b : Nat) (cB cJ : ClassId) (o : Nat) (cO : ClassId) (go : Nat → Int64) (sz : Nat) (f : Nat → Int32) (g : Nat → Int64) (zc : Int32) (zg : Int32) (zo : Int32) (n8 : Nat) (k9 lo hi : Int32) (hk1 : ¬ k9 < 1) (hk2 : k9 ≤ 12) (h8 : ¬ k9 < 8 → ¬ lo < 0) (h12 : k9 = 12 → ¬ hi < -128 ∧ ¬ 127 < hi) (b9 : Nat) (hb9 : b9 < 256) (hs9 : sF k9 (nO k9 lo hi) = nI b9) (hr9 : n8 + hd b9 ≤ 4096) : Met l yL_pack wsL_pack ({ frames := 7, cells := 0, slots := 0, locals := 109 }) (va_Pc [.ref h, .int k9, .int lo, .int hi, .ref o] (prx dC dI (th cB cJ cO) (w0 h a b cB cJ f g (nI n8) zc zg zo ++ wo o cO go) sz tk tw sa)) (va_Qi (fun (r : Int32) (_ : Unit) => r = 0) (fun (_ : Unit) => po dC dI (th cB cJ cO) (va_A (w0 h a b cB cJ f g (nI n8) zc zg zo ++ wo o cO go) sz) (w0 h a b cB cJ (apR (apR (apR f n8 (nI b9).toInt64 1) (n8 + 1) (nO k9 lo hi) (wd b9)) (n8 + 1 + wd b9) hi.toInt64 (tW b9)) g (nI (n8 + hd b9)) zc zg zo ++ wo o cO (vp_updL go 0 ((nI (hd b9)).toInt64)))) (va_A (w0 h a b cB cJ f g (nI n8) zc zg zo ++ wo o cO go) sz)) 0 0 (va_A (w0 h a b cB cJ f g (nI n8) zc zg zo ++ wo o cO go) sz) := by
  refine va_MetW (cc := cL_pack) (maxL := 6) (ret := (some .int)) (hh := [(0, 12, 15, 13), (0, 12, 19, 15)]) (by decide) rfl ?_
  intro p e s m args below meth c s₁ Bd hml hv
  obtain ⟨rfl, hsz, hP, hK, hD0, hZ, hX⟩ := hv
  have hx := Bd.exec
  have hb := Bd.bytes
  have hr := Bd.returns
  have hts := atoms_spec (ws := wsL_pack) Bd.pre
  have hown : s.vm.findClass RL = some m.cls := findClass_of_methodNamed Bd.named
  have hlocks := Bd.notSynchronized
  subst hsz
  have hD := hD0.self (sz := s.heap.size)
  generalize hAe : va_A (w0 h a b cB cJ f g (nI n8) zc zg zo ++ wo o cO go) s.heap.size = A at hD hZ hX ⊢
  have hA : ∀ q : Nat, s.heap.size ≤ q → A q := fun q h => by rw [← hAe]; exact Or.inr h
  have hS : va_S A s.heap s.heap [] := va_S.rf
  have hP : va_P (dC, dI) vwCl (w0 h a b cB cJ f g (nI n8) zc zg zo ++ wo o cO go) s.heap := hP
  have hKx : va_K (dC, dI) vwCl (t0 cB cJ) s := hK.sub [0, 1] rfl
  have hl := lv_entry ([.ref h, .int k9, .int lo, .int hi, .ref o]) (n := 6) (Nat.le_of_ble_eq_true rfl)
  rw [lg_entry_eq]
  generalize (lg_sl ([.ref h, .int k9, .int lo, .int hi, .ref o]) ++ List.replicate (6 - (lg_sl ([.ref h, .int k9, .int lo, .int hi, .ref o])).length) Slot.unset).toArray = ls at hl ⊢
  have hl : lv_has ls 6 [(0, .ref h), (1, .int k9), (2, .int lo), (3, .int hi), (4, .ref o)] := hl
  refine lv_aload hx hb dL_pack_0 (lv_at hl 4 rfl) ?_
  refine lv_iconst (v := 0) hx hb dL_pack_2 (by decide) ?_
  refine lv_aload_n hx hb dL_pack_3 rfl (lv_at hl 0 rfl) ?_
  refine lv_iload_n hx hb dL_pack_4 rfl (lv_at hl 1 rfl) ?_
  refine lv_iload_n hx hb dL_pack_5 rfl (lv_at hl 2 rfl) ?_
  refine lv_iload_n hx hb dL_pack_6 rfl (lv_at hl 3 rfl) ?_
  refine gji (wc := w0 h a b cB cJ f g (nI n8) zc zg zo) (wr := wo o cO go) (As := [.int k9, .int lo, .int hi]) (rest := [.int 0, .ref o]) ⟨hx, hb, hml, hown, hts⟩ (c_X0_pack l dC dI tk tw h a b cB cJ _ f g zc zg zo n8 k9 lo hi hk1 hk2 h8 h12 b9 hb9 hs9 hr9) (cwV 3 hts gL_pack_X0_pack rfl rfl rfl (by decide +kernel) ⟨Nat.le_of_ble_eq_true rfl, Nat.le_of_ble_eq_true rfl⟩) hKx hP hD hS hA hZ (q0 := 0) (ci := 0) rfl rfl rfl rfl hl.1 rfl (Nat.le_of_ble_eq_true rfl) dL_pack_7 ⟨Nat.le_of_ble_eq_true rfl, Nat.le_of_ble_eq_true rfl⟩ (fun r u H locs hw hP hD hS => ?_)
  obtain rfl : r = nI (hd b9) := hw
  have hP : va_P (dC, dI) vwCl (w0 h a b cB cJ (apR (apR (apR f n8 (nI b9).toInt64 1) (n8 + 1) (nO k9 lo hi) (wd b9)) (n8 + 1 + wd b9) hi.toInt64 (tW b9)) g (nI (n8 + hd b9)) zc zg zo ++ wo o cO go) H := hP
  have hD : va_D A (w0 h a b cB cJ (apR (apR (apR f n8 (nI b9).toInt64 1) (n8 + 1) (nO k9 lo hi) (wd b9)) (n8 + 1 + wd b9) hi.toInt64 (tW b9)) g (nI (n8 + hd b9)) zc zg zo ++ wo o cO go) := hD
  refine lv_i2l hx hb dL_pack_10 rfl ?_
  refine va_last hx hb hK hP hD hS 3 2 rfl rfl vp01 dL_pack_11 (fun H locs hP hD hS => ?_)
  have hP : va_P (dC, dI) vwCl (w0 h a b cB cJ (apR (apR (apR f n8 (nI b9).toInt64 1) (n8 + 1) (nO k9 lo hi) (wd b9)) (n8 + 1 + wd b9) hi.toInt64 (tW b9)) g (nI (n8 + hd b9)) zc zg zo ++ wo o cO (vp_updL go 0 ((nI (hd b9)).toInt64))) H := hP
  have hD : va_D A (w0 h a b cB cJ (apR (apR (apR f n8 (nI b9).toInt64 1) (n8 + 1) (nO k9 lo hi) (wd b9)) (n8 + 1 + wd b9) hi.toInt64 (tW b9)) g (nI (n8 + hd b9)) zc zg zo ++ wo o cO (vp_updL go 0 ((nI (hd b9)).toInt64))) := hD
  refine lv_goto (tgt := 23) hx hb dL_pack_12 (by decide) ?_
  refine lv_iconst (v := 0) hx hb dL_pack_23 (by decide) ?_
  exact W.iret (v := 0) hx hb hr (fun t ht hW => ⟨⟨0, (), rfl, rfl, by rw [ht]; exact hP, va_K.moved hW.alike hK, hD⟩, hS.F ht⟩) hS.2.2 dL_pack_24
set_option maxHeartbeats 4000000 in
set_option maxRecDepth 100000 in
theorem c_L_pack_b (l : Launch) (hst : l.stackTraces = false) (sa : Nat → Nat) (dC : Nat → ClassId) (dI : Nat → Nat → Nat) (tk tw : Nat) (h a b : Nat) (cB cJ : ClassId) (o : Nat) (cO : ClassId) (go : Nat → Int64) (sz : Nat) (f : Nat → Int32) (g : Nat → Int64) (zs : Int32) (zc : Int32) (zg : Int32) (zo : Int32) (k9 lo hi : Int32) (hb9 : ¬ (0 < k9 ∧ k9 < 13 ∧ (¬ k9 < 8 → ¬ lo < 0) ∧ (k9 = 12 → ¬ hi < -128 ∧ ¬ 127 < hi))) : Met l yL_pack wsL_pack ({ frames := 7, cells := 1, slots := 6, locals := 109 }) (va_Pc [.ref h, .int k9, .int lo, .int hi, .ref o] (prx dC dI (th cB cJ cO) (w0 h a b cB cJ f g zs zc zg zo ++ wo o cO go) sz tk tw sa)) (va_Qi (fun (r : Int32) (_ : Unit) => r = 1) (fun (_ : Unit) => po dC dI (th cB cJ cO) (va_A (w0 h a b cB cJ f g zs zc zg zo ++ wo o cO go) sz) (w0 h a b cB cJ f g zs zc zg zo ++ wo o cO go)) (va_A (w0 h a b cB cJ f g zs zc zg zo ++ wo o cO go) sz)) 1 6 (va_A (w0 h a b cB cJ f g zs zc zg zo ++ wo o cO go) sz) := by
  refine va_MetW (cc := cL_pack) (maxL := 6) (ret := (some .int)) (hh := [(0, 12, 15, 13), (0, 12, 19, 15)]) (by decide) rfl ?_
  intro p e s m args below meth c s₁ Bd hml hv
  obtain ⟨rfl, hsz, hP, hK, hD0, hZ, hX⟩ := hv
  have hx := Bd.exec
  have hb := Bd.bytes
  have hr := Bd.returns
  have hts := atoms_spec (ws := wsL_pack) Bd.pre
  have hown : s.vm.findClass RL = some m.cls := findClass_of_methodNamed Bd.named
  have hlocks := Bd.notSynchronized
  have hTab : c.exceptionTable.toList = tableOf [(0, 12, 15, 13), (0, 12, 19, 15)] := vx_table (x := yL_pack) Bd (hts (.codeWith yL_pack cL_pack 6 (some .int) [(0, 12, 15, 13), (0, 12, 19, 15)]) (by decide +kernel))
  subst hsz
  have hD := hD0.self (sz := s.heap.size)
  generalize hAe : va_A (w0 h a b cB cJ f g zs zc zg zo ++ wo o cO go) s.heap.size = A at hD hZ hX ⊢
  have hA : ∀ q : Nat, s.heap.size ≤ q → A q := fun q h => by rw [← hAe]; exact Or.inr h
  have hS : va_S A s.heap s.heap [] := va_S.rf
  have hP : va_P (dC, dI) vwCl (w0 h a b cB cJ f g zs zc zg zo ++ wo o cO go) s.heap := hP
  have hKx : va_K (dC, dI) vwCl (t0 cB cJ) s := hK.sub [0, 1] rfl
  have hl := lv_entry ([.ref h, .int k9, .int lo, .int hi, .ref o]) (n := 6) (Nat.le_of_ble_eq_true rfl)
  rw [lg_entry_eq]
  generalize (lg_sl ([.ref h, .int k9, .int lo, .int hi, .ref o]) ++ List.replicate (6 - (lg_sl ([.ref h, .int k9, .int lo, .int hi, .ref o])).length) Slot.unset).toArray = ls at hl ⊢
  have hl : lv_has ls 6 [(0, .ref h), (1, .int k9), (2, .int lo), (3, .int hi), (4, .ref o)] := hl
  refine lv_aload hx hb dL_pack_0 (lv_at hl 4 rfl) ?_
  refine lv_iconst (v := 0) hx hb dL_pack_2 (by decide) ?_
  refine lv_aload_n hx hb dL_pack_3 rfl (lv_at hl 0 rfl) ?_
  refine lv_iload_n hx hb dL_pack_4 rfl (lv_at hl 1 rfl) ?_
  refine lv_iload_n hx hb dL_pack_5 rfl (lv_at hl 2 rfl) ?_
  refine lv_iload_n hx hb dL_pack_6 rfl (lv_at hl 3 rfl) ?_
  refine gxi (wc := w0 h a b cB cJ f g zs zc zg zo) (wr := wo o cO go) (As := [.int k9, .int lo, .int hi]) (rest := [.int 0, .ref o]) ⟨hx, hb, hml, hown, hts⟩ (c_X0_pack_b l hst sa dC dI tk tw h a b cB cJ _ f g zs zc zg zo k9 lo hi hb9) (cwV 3 hts gL_pack_X0_pack rfl rfl rfl (by decide +kernel) ⟨Nat.le_of_ble_eq_true rfl, Nat.le_of_ble_eq_true rfl⟩) hKx hP hD hS hA hZ hX (q0 := 0) (ci := 0) rfl rfl rfl rfl hl.1 rfl (Nat.le_of_ble_eq_true rfl) dL_pack_7 ⟨Nat.le_of_ble_eq_true rfl, Nat.le_of_ble_eq_true rfl⟩ (fun ce q9 H locs hP hD hS hce hcv hcl => ?_)
  refine vx_catch (own := RL) (name := "java/lang/IllegalArgumentException") (E := "java/lang/IllegalArgumentException") hown [] ⟨0, 12, 15, 13⟩ [⟨0, 12, 19, 15⟩] (by rw [hTab]; rfl) (fun z hz => nomatch hz) (by decide) (by decide) (hts (.classLink RL 13 "java/lang/IllegalArgumentException") (by decide +kernel)) (va_Nw.use rfl hX.2.2.2.1) hce hcv hcl ?_
  refine lv_astore (lv' := [(5, .ref q9), (0, .ref h), (1, .int k9), (2, .int lo), (3, .int hi), (4, .ref o)]) hx hb dL_pack_15 hl (by decide) rfl (fun ls hl => ?_)
  refine lv_iconst (v := 1) hx hb dL_pack_17 (by decide) ?_
  exact W.iret (v := 1) hx hb hr (fun t ht hW => ⟨⟨1, (), rfl, rfl, by rw [ht]; exact hP, va_K.moved hW.alike hK, hD⟩, hS.F ht⟩) hS.2.2 dL_pack_18
set_option maxHeartbeats 4000000 in
set_option maxRecDepth 100000 in
theorem c_L_pack_f (l : Launch) (hst : l.stackTraces = false) (sa : Nat → Nat) (dC : Nat → ClassId) (dI : Nat → Nat → Nat) (tk tw : Nat) (h a b : Nat) (cB cJ : ClassId) (o : Nat) (cO : ClassId) (go : Nat → Int64) (sz : Nat) (f : Nat → Int32) (g : Nat → Int64) (zc : Int32) (zg : Int32) (zo : Int32) (n8 : Nat) (hn8 : n8 ≤ 4096) (k9 lo hi : Int32) (hk1 : ¬ k9 < 1) (hk2 : k9 ≤ 12) (h8 : ¬ k9 < 8 → ¬ lo < 0) (h12 : k9 = 12 → ¬ hi < -128 ∧ ¬ 127 < hi) (b9 : Nat) (hb9 : b9 < 256) (hs9 : sF k9 (nO k9 lo hi) = nI b9) (hr9 : 4096 < n8 + hd b9) : Met l yL_pack wsL_pack ({ frames := 7, cells := 1, slots := 6, locals := 109 }) (va_Pc [.ref h, .int k9, .int lo, .int hi, .ref o] (prx dC dI (th cB cJ cO) (w0 h a b cB cJ f g (nI n8) zc zg zo ++ wo o cO go) sz tk tw sa)) (va_Qi (fun (r : Int32) (_ : Unit) => r = 2) (fun (_ : Unit) => po dC dI (th cB cJ cO) (va_A (w0 h a b cB cJ f g (nI n8) zc zg zo ++ wo o cO go) sz) (w0 h a b cB cJ f g (nI n8) zc zg zo ++ wo o cO go)) (va_A (w0 h a b cB cJ f g (nI n8) zc zg zo ++ wo o cO go) sz)) 1 6 (va_A (w0 h a b cB cJ f g (nI n8) zc zg zo ++ wo o cO go) sz) := by
  refine va_MetW (cc := cL_pack) (maxL := 6) (ret := (some .int)) (hh := [(0, 12, 15, 13), (0, 12, 19, 15)]) (by decide) rfl ?_
  intro p e s m args below meth c s₁ Bd hml hv
  obtain ⟨rfl, hsz, hP, hK, hD0, hZ, hX⟩ := hv
  have hx := Bd.exec
  have hb := Bd.bytes
  have hr := Bd.returns
  have hts := atoms_spec (ws := wsL_pack) Bd.pre
  have hown : s.vm.findClass RL = some m.cls := findClass_of_methodNamed Bd.named
  have hlocks := Bd.notSynchronized
  have hTab : c.exceptionTable.toList = tableOf [(0, 12, 15, 13), (0, 12, 19, 15)] := vx_table (x := yL_pack) Bd (hts (.codeWith yL_pack cL_pack 6 (some .int) [(0, 12, 15, 13), (0, 12, 19, 15)]) (by decide +kernel))
  subst hsz
  have hD := hD0.self (sz := s.heap.size)
  generalize hAe : va_A (w0 h a b cB cJ f g (nI n8) zc zg zo ++ wo o cO go) s.heap.size = A at hD hZ hX ⊢
  have hA : ∀ q : Nat, s.heap.size ≤ q → A q := fun q h => by rw [← hAe]; exact Or.inr h
  have hS : va_S A s.heap s.heap [] := va_S.rf
  have hP : va_P (dC, dI) vwCl (w0 h a b cB cJ f g (nI n8) zc zg zo ++ wo o cO go) s.heap := hP
  have hKx : va_K (dC, dI) vwCl (t0 cB cJ) s := hK.sub [0, 1] rfl
  have hl := lv_entry ([.ref h, .int k9, .int lo, .int hi, .ref o]) (n := 6) (Nat.le_of_ble_eq_true rfl)
  rw [lg_entry_eq]
  generalize (lg_sl ([.ref h, .int k9, .int lo, .int hi, .ref o]) ++ List.replicate (6 - (lg_sl ([.ref h, .int k9, .int lo, .int hi, .ref o])).length) Slot.unset).toArray = ls at hl ⊢
  have hl : lv_has ls 6 [(0, .ref h), (1, .int k9), (2, .int lo), (3, .int hi), (4, .ref o)] := hl
  refine lv_aload hx hb dL_pack_0 (lv_at hl 4 rfl) ?_
  refine lv_iconst (v := 0) hx hb dL_pack_2 (by decide) ?_
  refine lv_aload_n hx hb dL_pack_3 rfl (lv_at hl 0 rfl) ?_
  refine lv_iload_n hx hb dL_pack_4 rfl (lv_at hl 1 rfl) ?_
  refine lv_iload_n hx hb dL_pack_5 rfl (lv_at hl 2 rfl) ?_
  refine lv_iload_n hx hb dL_pack_6 rfl (lv_at hl 3 rfl) ?_
  refine gxi (wc := w0 h a b cB cJ f g (nI n8) zc zg zo) (wr := wo o cO go) (As := [.int k9, .int lo, .int hi]) (rest := [.int 0, .ref o]) ⟨hx, hb, hml, hown, hts⟩ (c_X0_pack_f l hst sa dC dI tk tw h a b cB cJ _ f g zc zg zo n8 hn8 k9 lo hi hk1 hk2 h8 h12 b9 hb9 hs9 hr9) (cwV 3 hts gL_pack_X0_pack rfl rfl rfl (by decide +kernel) ⟨Nat.le_of_ble_eq_true rfl, Nat.le_of_ble_eq_true rfl⟩) hKx hP hD hS hA hZ hX (q0 := 0) (ci := 0) rfl rfl rfl rfl hl.1 rfl (Nat.le_of_ble_eq_true rfl) dL_pack_7 ⟨Nat.le_of_ble_eq_true rfl, Nat.le_of_ble_eq_true rfl⟩ (fun ce q9 H locs hP hD hS hce hcv hcl => ?_)
  refine vx_catch (own := RL) (name := "java/lang/IllegalStateException") (E := "java/lang/IllegalStateException") hown [⟨0, 12, 15, 13⟩] ⟨0, 12, 19, 15⟩ [] (by rw [hTab]; rfl) (fun z hz => by rcases List.mem_cons.mp hz with rfl | hz; exact Or.inr ⟨by decide, "java/lang/IllegalArgumentException", hts (.classLink RL 13 "java/lang/IllegalArgumentException") (by decide +kernel), hX.2.2.2.2.2.2.2.2⟩; exact nomatch hz) (by decide) (by decide) (hts (.classLink RL 15 "java/lang/IllegalStateException") (by decide +kernel)) (va_Nw.use rfl hX.2.2.2.2.1) hce hcv hcl ?_
  refine lv_astore (lv' := [(5, .ref q9), (0, .ref h), (1, .int k9), (2, .int lo), (3, .int hi), (4, .ref o)]) hx hb dL_pack_19 hl (by decide) rfl (fun ls hl => ?_)
  refine lv_iconst (v := 2) hx hb dL_pack_21 (by decide) ?_
  exact W.iret (v := 2) hx hb hr (fun t ht hW => ⟨⟨2, (), rfl, rfl, by rw [ht]; exact hP, va_K.moved hW.alike hK, hD⟩, hS.F ht⟩) hS.2.2 dL_pack_22
