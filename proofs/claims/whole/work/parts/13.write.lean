set_option maxHeartbeats 4000000 in
set_option maxRecDepth 100000 in
theorem c_X0_hasRoom (l : Launch) (dC : Nat → ClassId) (dI : Nat → Nat → Nat) (tk tw : Nat) (h a b : Nat) (cB cJ : ClassId) (sz : Nat) (f : Nat → Int32) (g : Nat → Int64) (zc : Int32) (zg : Int32) (zo : Int32) (n9 : Nat) (hn9 : n9 ≤ 4096) (k9 : Nat) (hk9 : k9 ≤ 4096) : Met l yX0_hasRoom wsX0_hasRoom ({ frames := 0, cells := 0, slots := 0, locals := 0 }) (va_Pc [.ref h, .int (nI k9)] (pr dC dI (t0 cB cJ) (w0 h a b cB cJ f g (nI n9) zc zg zo) sz tk tw)) (va_Qi (fun (r : Int32) (_ : Unit) => r = (if n9 + k9 ≤ 4096 then 1 else 0)) (fun (_ : Unit) => po dC dI (t0 cB cJ) (va_A (w0 h a b cB cJ f g (nI n9) zc zg zo) sz) (w0 h a b cB cJ f g (nI n9) zc zg zo)) (va_A (w0 h a b cB cJ f g (nI n9) zc zg zo) sz)) 0 0 (va_A (w0 h a b cB cJ f g (nI n9) zc zg zo) sz) := by
  refine Met.ofW (cc := cX0_hasRoom) (maxL := 2) (ret := (some .boolean)) (by decide) rfl ?_
  intro p e s m args below meth c s₁ Bd hml hv
  obtain ⟨rfl, hsz, hP, hK, hD0, hZ⟩ := hv
  have hx := Bd.exec
  have hb := Bd.bytes
  have hr := Bd.returns
  have hts := atoms_spec (ws := wsX0_hasRoom) Bd.pre
  have hown : s.vm.findClass RX0 = some m.cls := findClass_of_methodNamed Bd.named
  have hlocks := Bd.notSynchronized
  subst hsz
  have hD := hD0.self (sz := s.heap.size)
  generalize hAe : va_A (w0 h a b cB cJ f g (nI n9) zc zg zo) s.heap.size = A at hD hZ ⊢
  have hA : ∀ q : Nat, s.heap.size ≤ q → A q := fun q h => by rw [← hAe]; exact Or.inr h
  have hS : va_S A s.heap s.heap [] := va_S.rf
  have hP : va_P (dC, dI) vwCl (w0 h a b cB cJ f g (nI n9) zc zg zo) s.heap := hP
  have hin0 : ∀ w ∈ wsX00, w ∈ wsX0_hasRoom := by decide +kernel
  have fl13 := hts (.fieldLink RX0 13 "MessageReader" "size" "I") (by decide +kernel)
  have hl := lv_entry ([.ref h, .int (nI k9)]) (n := 2) (Nat.le_of_ble_eq_true rfl)
  rw [lg_entry_eq]
  generalize (lg_sl ([.ref h, .int (nI k9)]) ++ List.replicate (2 - (lg_sl ([.ref h, .int (nI k9)])).length) Slot.unset).toArray = ls at hl ⊢
  have hl : lv_has ls 2 [(0, .ref h), (1, .int (nI k9))] := hl
  refine lv_iload_n hx hb dX0_hasRoom_0 rfl (lv_at hl 1 rfl) ?_
  refine lv_sipush (v := 4096) hx hb dX0_hasRoom_1 (by decide) ?_
  refine lv_aload_n hx hb dX0_hasRoom_4 rfl (lv_at hl 0 rfl) ?_
  refine va_get (D := (dC, dI)) (ci := 0) (v := .int (nI n9)) (C := RX0) (T := TX0) (N := 6) hx hb hts hin0 hown hK hP 0 rfl rfl 1 (by decide) fl13 (fun _ h9 => h9) rfl dX0_hasRoom_5 ?_
  refine lv_isub hx hb dX0_hasRoom_8 ?_
  have e_1 : (4096 - (nI n9) : Int32) = nI (4096 - n9) := (show nI 4096 - nI n9 = _ from pk_sub hn9)
  rw [e_1]
  refine lv_icmp_gt (tgt := 16) hx hb dX0_hasRoom_9 (by decide) (fun c_2 => ?_) (fun c_2 => ?_)
  · skip
    refine lv_iconst (v := 0) hx hb dX0_hasRoom_16 (by decide) ?_
    exact W.zret (v := 0) hx hb hr (by first | rfl | decide) (fun t ht hW => ⟨⟨0, (), rfl, (by have q := (nI_ltI (by omega) (by omega)).mp c_2; rw [if_neg (by omega)]), by rw [ht]; exact hP, va_K.moved hW.alike hK, hD⟩, hS.F ht⟩) hS.2.2 dX0_hasRoom_17
  · skip
    refine lv_iconst (v := 1) hx hb dX0_hasRoom_12 (by decide) ?_
    refine lv_goto (tgt := 17) hx hb dX0_hasRoom_13 (by decide) ?_
    exact W.zret (v := 1) hx hb hr (by first | rfl | decide) (fun t ht hW => ⟨⟨1, (), rfl, (by have q := (not_congr (nI_ltI (by omega) (by omega))).mp c_2; rw [if_pos (by omega)]), by rw [ht]; exact hP, va_K.moved hW.alike hK, hD⟩, hS.F ht⟩) hS.2.2 dX0_hasRoom_17
def bb (x : Int64) (i : Nat) : Int32 := vp_nar .byte ((x.toUInt64 >>> ((8 * nI i).toInt64.toUInt64 &&& Int64.toUInt64 63)).toInt64.toInt32.toInt8.toInt32)
def apR (f : Nat → Int32) (n : Nat) (x : Int64) : Nat → Nat → Int32
  | 0 => f
  | i + 1 => apR (upd f n (bb x i)) (n + 1) x i
set_option maxHeartbeats 4000000 in
set_option maxRecDepth 100000 in
theorem c_X0_append (l : Launch) (dC : Nat → ClassId) (dI : Nat → Nat → Nat) (tk tw : Nat) (h a b : Nat) (cB cJ : ClassId) (sz : Nat) (f : Nat → Int32) (g : Nat → Int64) (zc : Int32) (zg : Int32) (zo : Int32) (n9 k9 : Nat) (x9 : Int64) (h9 : n9 + k9 ≤ 4096) : Met l yX0_append wsX0_append ({ frames := 0, cells := 0, slots := 0, locals := 0 }) (va_Pc [.ref h, .long x9, .int (nI k9)] (pr dC dI (t0 cB cJ) (w0 h a b cB cJ f g (nI n9) zc zg zo) sz tk tw)) (va_Qv (fun (_ : Unit) => True) (fun (_ : Unit) => po dC dI (t0 cB cJ) (va_A (w0 h a b cB cJ f g (nI n9) zc zg zo) sz) (w0 h a b cB cJ (apR f n9 x9 k9) g (nI (n9 + k9)) zc zg zo)) (va_A (w0 h a b cB cJ f g (nI n9) zc zg zo) sz)) 0 0 (va_A (w0 h a b cB cJ f g (nI n9) zc zg zo) sz) := by
  refine Met.ofW (cc := cX0_append) (maxL := 5) (ret := none) (by decide) rfl ?_
  intro p e s m args below meth c s₁ Bd hml hv
  obtain ⟨rfl, hsz, hP, hK, hD0, hZ⟩ := hv
  have hx := Bd.exec
  have hb := Bd.bytes
  have hr := Bd.returns
  have hts := atoms_spec (ws := wsX0_append) Bd.pre
  have hown : s.vm.findClass RX0 = some m.cls := findClass_of_methodNamed Bd.named
  have hlocks := Bd.notSynchronized
  subst hsz
  have hD := hD0.self (sz := s.heap.size)
  generalize hAe : va_A (w0 h a b cB cJ f g (nI n9) zc zg zo) s.heap.size = A at hD hZ ⊢
  have hA : ∀ q : Nat, s.heap.size ≤ q → A q := fun q h => by rw [← hAe]; exact Or.inr h
  have hS : va_S A s.heap s.heap [] := va_S.rf
  have hP : va_P (dC, dI) vwCl (w0 h a b cB cJ f g (nI n9) zc zg zo) s.heap := hP
  have hin0 : ∀ w ∈ wsX00, w ∈ wsX0_append := by decide +kernel
  have fl9 := hts (.fieldLink RX0 9 "MessageReader" "store" "[B") (by decide +kernel)
  have fl13 := hts (.fieldLink RX0 13 "MessageReader" "size" "I") (by decide +kernel)
  have hl := lv_entry ([.ref h, .long x9, .int (nI k9)]) (n := 5) (Nat.le_of_ble_eq_true rfl)
  rw [lg_entry_eq]
  generalize (lg_sl ([.ref h, .long x9, .int (nI k9)]) ++ List.replicate (5 - (lg_sl ([.ref h, .long x9, .int (nI k9)])).length) Slot.unset).toArray = ls at hl ⊢
  have hl : lv_has ls 5 [(0, .ref h), (1, .long x9), (3, .int (nI k9))] := hl
  refine lv_iload_n hx hb dX0_append_0 rfl (lv_at hl 2 rfl) ?_
  refine lv_iconst (v := 1) hx hb dX0_append_1 (by decide) ?_
  refine lv_isub hx hb dX0_append_2 ?_
  refine lv_istore (lv' := [(4, .int ((nI k9) - 1)), (0, .ref h), (1, .long x9), (3, .int (nI k9))]) hx hb dX0_append_3 hl (by decide) rfl (fun ls hl => ?_)
  have loop5 : ∀ (fz : Nat) (q m1 : Nat) (f1 : Nat → Int32), q < fz → m1 + q = n9 + k9 → apR f1 m1 x9 q = apR f n9 x9 k9 → ∀ (H : Heap) (locs : List Loc), va_P (dC, dI) vwCl (w0 h a b cB cJ f1 g (nI m1) zc zg zo) H → va_D A (w0 h a b cB cJ f1 g (nI m1) zc zg zo) → va_S A s.heap H locs → ∀ ls : Array Slot, lv_has ls 5 [(0, .ref h), (1, .long x9), (3, .int (nI k9)), (4, .int (nI q - 1))] → W p l e (headSpec wsX0_append ({ frames := 0, cells := 0, slots := 0, locals := 0 })).room s m ([.ref h, .long x9, .int (nI k9)]).toArray below meth c H locs 0 0 (MQ below (va_Qv (fun (_ : Unit) => True) (fun (_ : Unit) => po dC dI (t0 cB cJ) A (w0 h a b cB cJ (apR f n9 x9 k9) g (nI (n9 + k9)) zc zg zo)) A) ([.ref h, .long x9, .int (nI k9)]).toArray s 0 0 A) (F0 m 5 ls []) := by
    intro fz
    induction fz with
    | zero =>
      intro q m1 f1 hq hm hf H locs hP hD hS ls hl
      exact absurd hq (Nat.not_lt_zero _)
    | succ fz ih =>
      intro q m1 f1 hq hm hf H locs hP hD hS ls hl
      refine lv_iload hx hb dX0_append_5 (lv_at hl 3 rfl) ?_
      refine lv_if_lt (tgt := 44) hx hb dX0_append_7 (by decide) (fun c_1 => ?_) (fun c_1 => ?_)
      · skip
        have hq0 : q = 0 := Nat.eq_zero_of_not_pos (fun z => by obtain ⟨d, hc⟩ : ∃ d, q = d + 1 := ⟨q - 1, by omega⟩; rw [hc, nI_pred] at c_1; exact nI_pos (by omega) c_1)
        subst hq0
        have e1 : f1 = apR f n9 x9 k9 := hf
        have e2 : m1 = n9 + k9 := by omega
        have hP9 : va_P (dC, dI) vwCl ((fun (_ : Unit) => w0 h a b cB cJ (apR f n9 x9 k9) g (nI (n9 + k9)) zc zg zo) (())) H := by rw [← e1, ← e2]; exact hP
        have hD9 : va_D A ((fun (_ : Unit) => w0 h a b cB cJ (apR f n9 x9 k9) g (nI (n9 + k9)) zc zg zo) (())) := by rw [← e1, ← e2]; exact hD
        exact W.vret hx hb hr (fun t ht hW => ⟨⟨(), rfl, trivial, by rw [ht]; exact hP9, va_K.moved hW.alike hK, hD9⟩, hS.F ht⟩) hS.2.2 dX0_append_44
      · skip
        obtain ⟨d, hc⟩ : ∃ d, q = d + 1 := ⟨q - 1, by have z : 0 < q := Nat.pos_of_ne_zero (fun z => c_1 (by rw [z]; decide)); omega⟩
        have hcd : nI q - 1 = nI d := by rw [hc]; exact nI_pred d
        refine lv_aload_n hx hb dX0_append_10 rfl (lv_at hl 0 rfl) ?_
        refine va_get (D := (dC, dI)) (ci := 0) (v := .ref a) (C := RX0) (T := TX0) (N := 6) hx hb hts hin0 hown hK hP 0 rfl rfl 0 (by decide) fl9 (fun _ h9 => h9) rfl dX0_append_11 ?_
        refine lv_aload_n hx hb dX0_append_14 rfl (lv_at hl 0 rfl) ?_
        refine va_get (D := (dC, dI)) (ci := 0) (v := .int (nI m1)) (C := RX0) (T := TX0) (N := 6) hx hb hts hin0 hown hK hP 0 rfl rfl 1 (by decide) fl13 (fun _ h9 => h9) rfl dX0_append_15 ?_
        refine lv_lload_n hx hb dX0_append_18 rfl (lv_at hl 1 rfl) ?_
        refine lv_bipush (v := 8) hx hb dX0_append_19 (by decide) ?_
        refine lv_iload hx hb dX0_append_21 (lv_at hl 3 rfl) ?_
        refine lv_imul hx hb dX0_append_23 ?_
        have e_2 : (8 * (nI q - 1) : Int32) = 8 * nI d := by rw [hcd]
        rw [e_2]
        refine lv_lushr hx hb dX0_append_24 rfl ?_
        refine lv_l2i hx hb dX0_append_25 rfl ?_
        refine lv_i2b hx hb dX0_append_26 rfl ?_
        refine va_bast hx hb hK hP hD hS 1 0 rfl rfl (vp_in_nI (by omega) (by decide)) dX0_append_27 (fun H locs hP hD hS => ?_)
        have hP : va_P (dC, dI) vwCl (w0 h a b cB cJ (upd f1 (nI m1).toNatClampNeg (vp_nar .byte ((((x9.toUInt64 >>> ((8 * nI d).toInt64.toUInt64 &&& Int64.toUInt64 63)).toInt64).toInt32).toInt8.toInt32))) g (nI m1) zc zg zo) H := hP
        have hD : va_D A (w0 h a b cB cJ (upd f1 (nI m1).toNatClampNeg (vp_nar .byte ((((x9.toUInt64 >>> ((8 * nI d).toInt64.toUInt64 &&& Int64.toUInt64 63)).toInt64).toInt32).toInt8.toInt32))) g (nI m1) zc zg zo) := hD
        refine lv_aload_n hx hb dX0_append_28 rfl (lv_at hl 0 rfl) ?_
        refine lv_dup hx hb dX0_append_29 rfl ?_
        refine va_get (D := (dC, dI)) (ci := 0) (v := .int (nI m1)) (C := RX0) (T := TX0) (N := 6) hx hb hts hin0 hown hK hP 0 rfl rfl 1 (by decide) fl13 (fun _ h9 => h9) rfl dX0_append_30 ?_
        refine lv_iconst (v := 1) hx hb dX0_append_33 (by decide) ?_
        refine lv_iadd hx hb dX0_append_34 ?_
        have e_3 : ((nI m1) + 1 : Int32) = nI (m1 + 1) := nI_1 m1
        rw [e_3]
        refine va_put (D := (dC, dI)) (ci := 0) (v := .int (nI (m1 + 1))) (ty := .int) (C := RX0) (T := TX0) (N := 6) hx hb hts hin0 tyX0 tyX0_ok nmX0 hown hK hP hD hS 0 rfl rfl 1 (by decide) fl13 (fun _ h9 => h9) rfl (by decide +kernel) rfl rfl (Nat.le_of_ble_eq_true rfl) dX0_append_35 (fun H locs hP hD hS => ?_)
        have hP : va_P (dC, dI) vwCl (w0 h a b cB cJ (upd f1 (nI m1).toNatClampNeg (vp_nar .byte ((((x9.toUInt64 >>> ((8 * nI d).toInt64.toUInt64 &&& Int64.toUInt64 63)).toInt64).toInt32).toInt8.toInt32))) g (nI (m1 + 1)) zc zg zo) H := hP
        have hD : va_D A (w0 h a b cB cJ (upd f1 (nI m1).toNatClampNeg (vp_nar .byte ((((x9.toUInt64 >>> ((8 * nI d).toInt64.toUInt64 &&& Int64.toUInt64 63)).toInt64).toInt32).toInt8.toInt32))) g (nI (m1 + 1)) zc zg zo) := hD
        refine lv_iinc (v := nI d - 1) (lv' := [(4, .int (nI d - 1)), (0, .ref h), (1, .long x9), (3, .int (nI k9))]) hx hb dX0_append_38 hl (k := 3) rfl (by rw [hcd, Int32.sub_eq_add_neg]; rfl) (by decide) rfl (fun ls hl => ?_)
        refine lv_goto (tgt := 5) hx hb dX0_append_41 (by decide) ?_
        exact ih d (m1 + 1) _ (by omega) (by omega) (by rw [nI_clamp (by omega)]; rw [hc] at hf; exact hf) _ _ hP hD hS ls (lv_sub hl [1, 2, 3, 0] rfl)
  exact loop5 (k9 + 1) k9 n9 f (by omega) rfl rfl _ _ hP hD hS ls (lv_sub hl [1, 2, 3, 0] rfl)
set_option maxHeartbeats 4000000 in
set_option maxRecDepth 100000 in
theorem c_X0_consume (l : Launch) (dC : Nat → ClassId) (dI : Nat → Nat → Nat) (tk tw : Nat) (h a b : Nat) (cB cJ : ClassId) (sz : Nat) (f : Nat → Int32) (g : Nat → Int64) (zs : Int32) (zc : Int32) (zg : Int32) (zo : Int32) (a9 : Nat) (h9 : a9 + 1 + wd (bY f a9) ≤ 4096) : Met l yX0_consume wsX0_consume ({ frames := 5, cells := 0, slots := 0, locals := 113 }) (va_Pc [.ref h, .int (nI a9)] (pr dC dI (t0 cB cJ) (w0 h a b cB cJ f g zs zc zg zo) sz tk tw)) (va_Qv (fun (_ : Unit) => True) (fun (_ : Unit) => po dC dI (t0 cB cJ) (va_A (w0 h a b cB cJ f g zs zc zg zo) sz) (w0 h a b cB cJ f g zs (nI a9 + nI (hd (bY f a9)) + pl (bY f) a9) (nI a9) zo)) (va_A (w0 h a b cB cJ f g zs zc zg zo) sz)) 0 0 (va_A (w0 h a b cB cJ f g zs zc zg zo) sz) := by
  refine Met.ofW (cc := cX0_consume) (maxL := 2) (ret := none) (by decide) rfl ?_
  intro p e s m args below meth c s₁ Bd hml hv
  obtain ⟨rfl, hsz, hP, hK, hD0, hZ⟩ := hv
  have hx := Bd.exec
  have hb := Bd.bytes
  have hr := Bd.returns
  have hts := atoms_spec (ws := wsX0_consume) Bd.pre
  have hown : s.vm.findClass RX0 = some m.cls := findClass_of_methodNamed Bd.named
  have hlocks := Bd.notSynchronized
  subst hsz
  have hD := hD0.self (sz := s.heap.size)
  generalize hAe : va_A (w0 h a b cB cJ f g zs zc zg zo) s.heap.size = A at hD hZ ⊢
  have hA : ∀ q : Nat, s.heap.size ≤ q → A q := fun q h => by rw [← hAe]; exact Or.inr h
  have hS : va_S A s.heap s.heap [] := va_S.rf
  have hP : va_P (dC, dI) vwCl (w0 h a b cB cJ f g zs zc zg zo) s.heap := hP
  have hin0 : ∀ w ∈ wsX00, w ∈ wsX0_consume := by decide +kernel
  have fl17 := hts (.fieldLink RX0 17 "MessageReader" "consumed" "I") (by decide +kernel)
  have fl20 := hts (.fieldLink RX0 20 "MessageReader" "given" "I") (by decide +kernel)
  have hl := lv_entry ([.ref h, .int (nI a9)]) (n := 2) (Nat.le_of_ble_eq_true rfl)
  rw [lg_entry_eq]
  generalize (lg_sl ([.ref h, .int (nI a9)]) ++ List.replicate (2 - (lg_sl ([.ref h, .int (nI a9)])).length) Slot.unset).toArray = ls at hl ⊢
  have hl : lv_has ls 2 [(0, .ref h), (1, .int (nI a9))] := hl
  refine lv_aload_n hx hb dX0_consume_0 rfl (lv_at hl 0 rfl) ?_
  refine lv_iload_n hx hb dX0_consume_1 rfl (lv_at hl 1 rfl) ?_
  refine va_put (D := (dC, dI)) (ci := 0) (v := .int (nI a9)) (ty := .int) (C := RX0) (T := TX0) (N := 6) hx hb hts hin0 tyX0 tyX0_ok nmX0 hown hK hP hD hS 0 rfl rfl 3 (by decide) fl20 (fun _ h9 => h9) rfl (by decide +kernel) rfl rfl (Nat.le_of_ble_eq_true rfl) dX0_consume_2 (fun H locs hP hD hS => ?_)
  have hP : va_P (dC, dI) vwCl (w0 h a b cB cJ f g zs zc (nI a9) zo) H := hP
  have hD : va_D A (w0 h a b cB cJ f g zs zc (nI a9) zo) := hD
  refine lv_aload_n hx hb dX0_consume_5 rfl (lv_at hl 0 rfl) ?_
  refine lv_aload_n hx hb dX0_consume_6 rfl (lv_at hl 0 rfl) ?_
  refine lv_iload_n hx hb dX0_consume_7 rfl (lv_at hl 1 rfl) ?_
  refine gvi (As := [.int (nI a9)]) (rest := [.ref h]) ⟨hx, hb, hml, hown, hts⟩ (c_X0_endAt l dC dI tk tw h a b cB cJ _ f g zs zc (nI a9) zo a9 h9) (cwV 1 hts gX0_consume_X0_endAt rfl rfl rfl (by decide +kernel) ⟨Nat.le_of_ble_eq_true rfl, Nat.le_of_ble_eq_true rfl⟩) hK hP hD hS hA hZ (q0 := 0) (ci := 0) rfl rfl rfl rfl hl.1 rfl (Nat.le_of_ble_eq_true rfl) dX0_consume_8 ⟨Nat.le_of_ble_eq_true rfl, Nat.le_of_ble_eq_true rfl⟩ (fun r_2 u_3 H locs hw_1 hP hD hS => ?_)
  obtain rfl : r_2 = nI a9 + nI (hd (bY f a9)) + pl (bY f) a9 := hw_1
  refine va_put (D := (dC, dI)) (ci := 0) (v := .int (nI a9 + nI (hd (bY f a9)) + pl (bY f) a9)) (ty := .int) (C := RX0) (T := TX0) (N := 6) hx hb hts hin0 tyX0 tyX0_ok nmX0 hown hK hP hD hS 0 rfl rfl 2 (by decide) fl17 (fun _ h9 => h9) rfl (by decide +kernel) rfl rfl (Nat.le_of_ble_eq_true rfl) dX0_consume_11 (fun H locs hP hD hS => ?_)
  have hP : va_P (dC, dI) vwCl (w0 h a b cB cJ f g zs (nI a9 + nI (hd (bY f a9)) + pl (bY f) a9) (nI a9) zo) H := hP
  have hD : va_D A (w0 h a b cB cJ f g zs (nI a9 + nI (hd (bY f a9)) + pl (bY f) a9) (nI a9) zo) := hD
  have hP9 : va_P (dC, dI) vwCl ((fun (_ : Unit) => w0 h a b cB cJ f g zs (nI a9 + nI (hd (bY f a9)) + pl (bY f) a9) (nI a9) zo) (())) H := hP
  have hD9 : va_D A ((fun (_ : Unit) => w0 h a b cB cJ f g zs (nI a9 + nI (hd (bY f a9)) + pl (bY f) a9) (nI a9) zo) (())) := hD
  exact W.vret hx hb hr (fun t ht hW => ⟨⟨(), rfl, trivial, by rw [ht]; exact hP9, va_K.moved hW.alike hK, hD9⟩, hS.F ht⟩) hS.2.2 dX0_consume_14
def cc1 (g : Nat → Int64) (k : Nat) : Nat → Int64 := if k = 0 then g else vp_updL g (k - 1) (g (k - 1) - 1)
theorem cc1_z {g : Nat → Int64} {k : Nat} (h : k = 0) : cc1 g k = g := if_pos h
theorem cc1_p {g : Nat → Int64} {k : Nat} (h : 0 < k) : cc1 g k = vp_updL g (k - 1) (g (k - 1) - 1) := if_neg (by omega)
def og (g : Nat → Int64) (k : Nat) (x : Int64) : Nat → Int64 := if 0 < x ∧ k < 100 then vp_updL g k x else g
def ok (k : Nat) (x : Int64) : Nat := if 0 < x ∧ k < 100 then k + 1 else k
theorem og_n {g : Nat → Int64} {k : Nat} {x : Int64} (h : ¬ (0 < x ∧ k < 100)) : og g k x = g := if_neg h
theorem og_p {g : Nat → Int64} {k : Nat} {x : Int64} (h : 0 < x ∧ k < 100) : og g k x = vp_updL g k x := if_pos h
theorem ok_n {k : Nat} {x : Int64} (h : ¬ (0 < x ∧ k < 100)) : ok k x = k := if_neg h
theorem ok_p {k : Nat} {x : Int64} (h : 0 < x ∧ k < 100) : ok k x = k + 1 := if_pos h
theorem ok_le {k : Nat} {x : Int64} (h : k ≤ 100) : ok k x ≤ 100 := by unfold ok; split <;> omega
def cl (g : Nat → Int64) : Nat → Nat
  | 0 => 0
  | k + 1 => if g k = 0 then cl g k else k + 1
theorem cl_z {g : Nat → Int64} {k : Nat} (h : 0 < k) (h2 : g (k - 1) = 0) : cl g k = cl g (k - 1) := by
  obtain ⟨d, rfl⟩ : ∃ d, k = d + 1 := ⟨k - 1, by omega⟩
  simp only [Nat.add_sub_cancel] at h2 ⊢
  simp [cl, h2]
theorem cl_e {g : Nat → Int64} {k : Nat} (h : k = 0 ∨ ¬ g (k - 1) = 0) : cl g k = k := by
  cases k with
  | zero => rfl
  | succ d =>
    rcases h with h | h
    · omega
    · simp only [Nat.add_sub_cancel] at h
      simp [cl, h]
theorem cl_le {g : Nat → Int64} {k : Nat} : cl g k ≤ k := by
  induction k with
  | zero => exact Nat.le_refl 0
  | succ d ih =>
    simp only [cl]
    split
    · omega
    · exact Nat.le_refl _
set_option maxHeartbeats 4000000 in
set_option maxRecDepth 100000 in
theorem c_X0_countChild (l : Launch) (dC : Nat → ClassId) (dI : Nat → Nat → Nat) (tk tw : Nat) (h a b : Nat) (cB cJ : ClassId) (sz : Nat) (f : Nat → Int32) (g : Nat → Int64) (zs : Int32) (zc : Int32) (zg : Int32) (k9 : Nat) (hk9 : k9 ≤ 100) : Met l yX0_countChild wsX0_countChild ({ frames := 0, cells := 0, slots := 0, locals := 0 }) (va_Pc [.ref h] (pr dC dI (t0 cB cJ) (w0 h a b cB cJ f g zs zc zg (nI k9)) sz tk tw)) (va_Qv (fun (_ : Unit) => True) (fun (_ : Unit) => po dC dI (t0 cB cJ) (va_A (w0 h a b cB cJ f g zs zc zg (nI k9)) sz) (w0 h a b cB cJ f (cc1 g k9) zs zc zg (nI k9))) (va_A (w0 h a b cB cJ f g zs zc zg (nI k9)) sz)) 0 0 (va_A (w0 h a b cB cJ f g zs zc zg (nI k9)) sz) := by
  refine Met.ofW (cc := cX0_countChild) (maxL := 1) (ret := none) (by decide) rfl ?_
  intro p e s m args below meth c s₁ Bd hml hv
  obtain ⟨rfl, hsz, hP, hK, hD0, hZ⟩ := hv
  have hx := Bd.exec
  have hb := Bd.bytes
  have hr := Bd.returns
  have hts := atoms_spec (ws := wsX0_countChild) Bd.pre
  have hown : s.vm.findClass RX0 = some m.cls := findClass_of_methodNamed Bd.named
  have hlocks := Bd.notSynchronized
  subst hsz
  have hD := hD0.self (sz := s.heap.size)
  generalize hAe : va_A (w0 h a b cB cJ f g zs zc zg (nI k9)) s.heap.size = A at hD hZ ⊢
  have hA : ∀ q : Nat, s.heap.size ≤ q → A q := fun q h => by rw [← hAe]; exact Or.inr h
  have hS : va_S A s.heap s.heap [] := va_S.rf
  have hP : va_P (dC, dI) vwCl (w0 h a b cB cJ f g zs zc zg (nI k9)) s.heap := hP
  have hin0 : ∀ w ∈ wsX00, w ∈ wsX0_countChild := by decide +kernel
  have fl23 := hts (.fieldLink RX0 23 "MessageReader" "childrenLeft" "[J") (by decide +kernel)
  have fl27 := hts (.fieldLink RX0 27 "MessageReader" "open" "I") (by decide +kernel)
  have hl := lv_entry ([.ref h]) (n := 1) (Nat.le_of_ble_eq_true rfl)
  rw [lg_entry_eq]
  generalize (lg_sl ([.ref h]) ++ List.replicate (1 - (lg_sl ([.ref h])).length) Slot.unset).toArray = ls at hl ⊢
  have hl : lv_has ls 1 [(0, .ref h)] := hl
  refine lv_aload_n hx hb dX0_countChild_0 rfl (lv_at hl 0 rfl) ?_
  refine va_get (D := (dC, dI)) (ci := 0) (v := .int (nI k9)) (C := RX0) (T := TX0) (N := 6) hx hb hts hin0 hown hK hP 0 rfl rfl 5 (by decide) fl27 (fun _ h9 => h9) rfl dX0_countChild_1 ?_
  refine lv_if_le (tgt := 22) hx hb dX0_countChild_4 (by decide) (fun c_1 => ?_) (fun c_1 => ?_)
  · skip
    have hP9 : va_P (dC, dI) vwCl ((fun (_ : Unit) => w0 h a b cB cJ f (cc1 g k9) zs zc zg (nI k9)) (())) s.heap := by rw [show cc1 g k9 = g from cc1_z (Nat.eq_zero_of_not_pos (fun z => nI_nle z (by omega) c_1))]; exact hP
    have hD9 : va_D A ((fun (_ : Unit) => w0 h a b cB cJ f (cc1 g k9) zs zc zg (nI k9)) (())) := by rw [show cc1 g k9 = g from cc1_z (Nat.eq_zero_of_not_pos (fun z => nI_nle z (by omega) c_1))]; exact hD
    exact W.vret hx hb hr (fun t ht hW => ⟨⟨(), rfl, trivial, by rw [ht]; exact hP9, va_K.moved hW.alike hK, hD9⟩, hS.F ht⟩) hS.2.2 dX0_countChild_22
  · skip
    have q0 : 0 < k9 := Nat.pos_of_ne_zero (fun z => c_1 (by rw [z]; decide))
    have q1 : nI k9 - 1 = nI (k9 - 1) := pk_sub (b := 1) q0
    refine lv_aload_n hx hb dX0_countChild_7 rfl (lv_at hl 0 rfl) ?_
    refine va_get (D := (dC, dI)) (ci := 0) (v := .ref b) (C := RX0) (T := TX0) (N := 6) hx hb hts hin0 hown hK hP 0 rfl rfl 4 (by decide) fl23 (fun _ h9 => h9) rfl dX0_countChild_8 ?_
    refine lv_aload_n hx hb dX0_countChild_11 rfl (lv_at hl 0 rfl) ?_
    refine va_get (D := (dC, dI)) (ci := 0) (v := .int (nI k9)) (C := RX0) (T := TX0) (N := 6) hx hb hts hin0 hown hK hP 0 rfl rfl 5 (by decide) fl27 (fun _ h9 => h9) rfl dX0_countChild_12 ?_
    refine lv_iconst (v := 1) hx hb dX0_countChild_15 (by decide) ?_
    refine lv_isub hx hb dX0_countChild_16 ?_
    have e_2 : ((nI k9) - 1 : Int32) = nI (k9 - 1) := q1
    rw [e_2]
    refine lv_dup2_11 hx hb dX0_countChild_17 rfl rfl ?_
    refine va_lald hx hb hK hP 2 1 rfl rfl (vp_in_nI (by omega) (by decide)) dX0_countChild_18 ?_
    refine lv_lconst (v := 1) hx hb dX0_countChild_19 (by decide) ?_
    refine lv_lsub hx hb dX0_countChild_20 ?_
    refine va_last hx hb hK hP hD hS 2 1 rfl rfl (vp_in_nI (by omega) (by decide)) dX0_countChild_21 (fun H locs hP hD hS => ?_)
    have hP : va_P (dC, dI) vwCl (w0 h a b cB cJ f (vp_updL g (nI (k9 - 1)).toNatClampNeg ((g (nI (k9 - 1)).toNatClampNeg) - 1)) zs zc zg (nI k9)) H := hP
    have hD : va_D A (w0 h a b cB cJ f (vp_updL g (nI (k9 - 1)).toNatClampNeg ((g (nI (k9 - 1)).toNatClampNeg) - 1)) zs zc zg (nI k9)) := hD
    have hP9 : va_P (dC, dI) vwCl ((fun (_ : Unit) => w0 h a b cB cJ f (cc1 g k9) zs zc zg (nI k9)) (())) H := by rw [show cc1 g k9 = _ from cc1_p q0]; rw [nI_clamp (by omega)] at hP; exact hP
    have hD9 : va_D A ((fun (_ : Unit) => w0 h a b cB cJ f (cc1 g k9) zs zc zg (nI k9)) (())) := by rw [show cc1 g k9 = _ from cc1_p q0]; rw [nI_clamp (by omega)] at hD; exact hD
    exact W.vret hx hb hr (fun t ht hW => ⟨⟨(), rfl, trivial, by rw [ht]; exact hP9, va_K.moved hW.alike hK, hD9⟩, hS.F ht⟩) hS.2.2 dX0_countChild_22
set_option maxHeartbeats 4000000 in
set_option maxRecDepth 100000 in
theorem c_X0_openContainer (l : Launch) (dC : Nat → ClassId) (dI : Nat → Nat → Nat) (tk tw : Nat) (h a b : Nat) (cB cJ : ClassId) (sz : Nat) (f : Nat → Int32) (g : Nat → Int64) (zs : Int32) (zc : Int32) (zg : Int32) (x9 : Int64) (k9 : Nat) (hk9 : k9 ≤ 100) : Met l yX0_openContainer wsX0_openContainer ({ frames := 0, cells := 0, slots := 0, locals := 0 }) (va_Pc [.ref h, .long x9] (pr dC dI (t0 cB cJ) (w0 h a b cB cJ f g zs zc zg (nI k9)) sz tk tw)) (va_Qv (fun (_ : Unit) => True) (fun (_ : Unit) => po dC dI (t0 cB cJ) (va_A (w0 h a b cB cJ f g zs zc zg (nI k9)) sz) (w0 h a b cB cJ f (og g k9 x9) zs zc zg (nI (ok k9 x9)))) (va_A (w0 h a b cB cJ f g zs zc zg (nI k9)) sz)) 0 0 (va_A (w0 h a b cB cJ f g zs zc zg (nI k9)) sz) := by
  refine Met.ofW (cc := cX0_openContainer) (maxL := 3) (ret := none) (by decide) rfl ?_
  intro p e s m args below meth c s₁ Bd hml hv
  obtain ⟨rfl, hsz, hP, hK, hD0, hZ⟩ := hv
  have hx := Bd.exec
  have hb := Bd.bytes
  have hr := Bd.returns
  have hts := atoms_spec (ws := wsX0_openContainer) Bd.pre
  have hown : s.vm.findClass RX0 = some m.cls := findClass_of_methodNamed Bd.named
  have hlocks := Bd.notSynchronized
  subst hsz
  have hD := hD0.self (sz := s.heap.size)
  generalize hAe : va_A (w0 h a b cB cJ f g zs zc zg (nI k9)) s.heap.size = A at hD hZ ⊢
  have hA : ∀ q : Nat, s.heap.size ≤ q → A q := fun q h => by rw [← hAe]; exact Or.inr h
  have hS : va_S A s.heap s.heap [] := va_S.rf
  have hP : va_P (dC, dI) vwCl (w0 h a b cB cJ f g zs zc zg (nI k9)) s.heap := hP
  have hin0 : ∀ w ∈ wsX00, w ∈ wsX0_openContainer := by decide +kernel
  have fl23 := hts (.fieldLink RX0 23 "MessageReader" "childrenLeft" "[J") (by decide +kernel)
  have fl27 := hts (.fieldLink RX0 27 "MessageReader" "open" "I") (by decide +kernel)
  have hl := lv_entry ([.ref h, .long x9]) (n := 3) (Nat.le_of_ble_eq_true rfl)
  rw [lg_entry_eq]
  generalize (lg_sl ([.ref h, .long x9]) ++ List.replicate (3 - (lg_sl ([.ref h, .long x9])).length) Slot.unset).toArray = ls at hl ⊢
  have hl : lv_has ls 3 [(0, .ref h), (1, .long x9)] := hl
  refine lv_lload_n hx hb dX0_openContainer_0 rfl (lv_at hl 1 rfl) ?_
  refine lv_lconst (v := 0) hx hb dX0_openContainer_1 (by decide) ?_
  refine W.lcmp hx hb dX0_openContainer_2 ?_
  refine lv_if_le (tgt := 35) hx hb dX0_openContainer_3 (by decide) (fun c_1 => ?_) (fun c_1 => ?_)
  · skip
    have c_1 := (lg_cmp_le x9 (0 : Int64)).mp c_1
    have hP9 : va_P (dC, dI) vwCl ((fun (_ : Unit) => w0 h a b cB cJ f (og g k9 x9) zs zc zg (nI (ok k9 x9))) (())) s.heap := by have q : ¬ (0 < x9 ∧ k9 < 100) := fun z => Int64.not_lt.mpr c_1 z.1; rw [og_n q, ok_n q]; exact hP
    have hD9 : va_D A ((fun (_ : Unit) => w0 h a b cB cJ f (og g k9 x9) zs zc zg (nI (ok k9 x9))) (())) := by have q : ¬ (0 < x9 ∧ k9 < 100) := fun z => Int64.not_lt.mpr c_1 z.1; rw [og_n q, ok_n q]; exact hD
    exact W.vret hx hb hr (fun t ht hW => ⟨⟨(), rfl, trivial, by rw [ht]; exact hP9, va_K.moved hW.alike hK, hD9⟩, hS.F ht⟩) hS.2.2 dX0_openContainer_35
  · skip
    have c_1 := (not_congr (lg_cmp_le x9 (0 : Int64))).mp c_1
    refine lv_aload_n hx hb dX0_openContainer_6 rfl (lv_at hl 0 rfl) ?_
    refine va_get (D := (dC, dI)) (ci := 0) (v := .int (nI k9)) (C := RX0) (T := TX0) (N := 6) hx hb hts hin0 hown hK hP 0 rfl rfl 5 (by decide) fl27 (fun _ h9 => h9) rfl dX0_openContainer_7 ?_
    refine lv_bipush (v := 100) hx hb dX0_openContainer_10 (by decide) ?_
    refine lv_icmp_ge (tgt := 35) hx hb dX0_openContainer_12 (by decide) (fun c_2 => ?_) (fun c_2 => ?_)
    · skip
      have hP9 : va_P (dC, dI) vwCl ((fun (_ : Unit) => w0 h a b cB cJ f (og g k9 x9) zs zc zg (nI (ok k9 x9))) (())) s.heap := by have q : ¬ (0 < x9 ∧ k9 < 100) := (fun z => by have q := (nI_leI (a := 100) (b := k9) (by decide) (by omega)).mp c_2; omega); rw [og_n q, ok_n q]; exact hP
      have hD9 : va_D A ((fun (_ : Unit) => w0 h a b cB cJ f (og g k9 x9) zs zc zg (nI (ok k9 x9))) (())) := by have q : ¬ (0 < x9 ∧ k9 < 100) := (fun z => by have q := (nI_leI (a := 100) (b := k9) (by decide) (by omega)).mp c_2; omega); rw [og_n q, ok_n q]; exact hD
      exact W.vret hx hb hr (fun t ht hW => ⟨⟨(), rfl, trivial, by rw [ht]; exact hP9, va_K.moved hW.alike hK, hD9⟩, hS.F ht⟩) hS.2.2 dX0_openContainer_35
    · skip
      have q0 : k9 < 100 := by have q := (not_congr (nI_leI (a := 100) (b := k9) (by decide) (by omega))).mp c_2; omega
      refine lv_aload_n hx hb dX0_openContainer_15 rfl (lv_at hl 0 rfl) ?_
      refine va_get (D := (dC, dI)) (ci := 0) (v := .ref b) (C := RX0) (T := TX0) (N := 6) hx hb hts hin0 hown hK hP 0 rfl rfl 4 (by decide) fl23 (fun _ h9 => h9) rfl dX0_openContainer_16 ?_
      refine lv_aload_n hx hb dX0_openContainer_19 rfl (lv_at hl 0 rfl) ?_
      refine va_get (D := (dC, dI)) (ci := 0) (v := .int (nI k9)) (C := RX0) (T := TX0) (N := 6) hx hb hts hin0 hown hK hP 0 rfl rfl 5 (by decide) fl27 (fun _ h9 => h9) rfl dX0_openContainer_20 ?_
      refine lv_lload_n hx hb dX0_openContainer_23 rfl (lv_at hl 1 rfl) ?_
      refine va_last hx hb hK hP hD hS 2 1 rfl rfl (vp_in_nI q0 (by decide)) dX0_openContainer_24 (fun H locs hP hD hS => ?_)
      have hP : va_P (dC, dI) vwCl (w0 h a b cB cJ f (vp_updL g (nI k9).toNatClampNeg x9) zs zc zg (nI k9)) H := hP
      have hD : va_D A (w0 h a b cB cJ f (vp_updL g (nI k9).toNatClampNeg x9) zs zc zg (nI k9)) := hD
      refine lv_aload_n hx hb dX0_openContainer_25 rfl (lv_at hl 0 rfl) ?_
      refine lv_dup hx hb dX0_openContainer_26 rfl ?_
      refine va_get (D := (dC, dI)) (ci := 0) (v := .int (nI k9)) (C := RX0) (T := TX0) (N := 6) hx hb hts hin0 hown hK hP 0 rfl rfl 5 (by decide) fl27 (fun _ h9 => h9) rfl dX0_openContainer_27 ?_
      refine lv_iconst (v := 1) hx hb dX0_openContainer_30 (by decide) ?_
      refine lv_iadd hx hb dX0_openContainer_31 ?_
      have e_3 : ((nI k9) + 1 : Int32) = nI (k9 + 1) := nI_1 k9
      rw [e_3]
      refine va_put (D := (dC, dI)) (ci := 0) (v := .int (nI (k9 + 1))) (ty := .int) (C := RX0) (T := TX0) (N := 6) hx hb hts hin0 tyX0 tyX0_ok nmX0 hown hK hP hD hS 0 rfl rfl 5 (by decide) fl27 (fun _ h9 => h9) rfl (by decide +kernel) rfl rfl (Nat.le_of_ble_eq_true rfl) dX0_openContainer_32 (fun H locs hP hD hS => ?_)
      have hP : va_P (dC, dI) vwCl (w0 h a b cB cJ f (vp_updL g (nI k9).toNatClampNeg x9) zs zc zg (nI (k9 + 1))) H := hP
      have hD : va_D A (w0 h a b cB cJ f (vp_updL g (nI k9).toNatClampNeg x9) zs zc zg (nI (k9 + 1))) := hD
      have hP9 : va_P (dC, dI) vwCl ((fun (_ : Unit) => w0 h a b cB cJ f (og g k9 x9) zs zc zg (nI (ok k9 x9))) (())) H := by have q : 0 < x9 ∧ k9 < 100 := ⟨Int64.not_le.mp c_1, q0⟩; rw [og_p q, ok_p q]; rw [nI_clamp (by omega)] at hP; exact hP
      have hD9 : va_D A ((fun (_ : Unit) => w0 h a b cB cJ f (og g k9 x9) zs zc zg (nI (ok k9 x9))) (())) := by have q : 0 < x9 ∧ k9 < 100 := ⟨Int64.not_le.mp c_1, q0⟩; rw [og_p q, ok_p q]; rw [nI_clamp (by omega)] at hD; exact hD
      exact W.vret hx hb hr (fun t ht hW => ⟨⟨(), rfl, trivial, by rw [ht]; exact hP9, va_K.moved hW.alike hK, hD9⟩, hS.F ht⟩) hS.2.2 dX0_openContainer_35
set_option maxHeartbeats 4000000 in
set_option maxRecDepth 100000 in
theorem c_X0_closeFinished (l : Launch) (dC : Nat → ClassId) (dI : Nat → Nat → Nat) (tk tw : Nat) (h a b : Nat) (cB cJ : ClassId) (sz : Nat) (f : Nat → Int32) (g : Nat → Int64) (zs : Int32) (zc : Int32) (zg : Int32) (k9 : Nat) (hk9 : k9 ≤ 100) : Met l yX0_closeFinished wsX0_closeFinished ({ frames := 0, cells := 0, slots := 0, locals := 0 }) (va_Pc [.ref h] (pr dC dI (t0 cB cJ) (w0 h a b cB cJ f g zs zc zg (nI k9)) sz tk tw)) (va_Qv (fun (_ : Unit) => True) (fun (_ : Unit) => po dC dI (t0 cB cJ) (va_A (w0 h a b cB cJ f g zs zc zg (nI k9)) sz) (w0 h a b cB cJ f g zs zc zg (nI (cl g k9)))) (va_A (w0 h a b cB cJ f g zs zc zg (nI k9)) sz)) 0 0 (va_A (w0 h a b cB cJ f g zs zc zg (nI k9)) sz) := by
  refine Met.ofW (cc := cX0_closeFinished) (maxL := 1) (ret := none) (by decide) rfl ?_
  intro p e s m args below meth c s₁ Bd hml hv
  obtain ⟨rfl, hsz, hP, hK, hD0, hZ⟩ := hv
  have hx := Bd.exec
  have hb := Bd.bytes
  have hr := Bd.returns
  have hts := atoms_spec (ws := wsX0_closeFinished) Bd.pre
  have hown : s.vm.findClass RX0 = some m.cls := findClass_of_methodNamed Bd.named
  have hlocks := Bd.notSynchronized
  subst hsz
  have hD := hD0.self (sz := s.heap.size)
  generalize hAe : va_A (w0 h a b cB cJ f g zs zc zg (nI k9)) s.heap.size = A at hD hZ ⊢
  have hA : ∀ q : Nat, s.heap.size ≤ q → A q := fun q h => by rw [← hAe]; exact Or.inr h
  have hS : va_S A s.heap s.heap [] := va_S.rf
  have hP : va_P (dC, dI) vwCl (w0 h a b cB cJ f g zs zc zg (nI k9)) s.heap := hP
  have hin0 : ∀ w ∈ wsX00, w ∈ wsX0_closeFinished := by decide +kernel
  have fl23 := hts (.fieldLink RX0 23 "MessageReader" "childrenLeft" "[J") (by decide +kernel)
  have fl27 := hts (.fieldLink RX0 27 "MessageReader" "open" "I") (by decide +kernel)
  have hl := lv_entry ([.ref h]) (n := 1) (Nat.le_of_ble_eq_true rfl)
  rw [lg_entry_eq]
  generalize (lg_sl ([.ref h]) ++ List.replicate (1 - (lg_sl ([.ref h])).length) Slot.unset).toArray = ls at hl ⊢
  have hl : lv_has ls 1 [(0, .ref h)] := hl
  have loop0 : ∀ (fz : Nat) (k : Nat), k < fz → k ≤ 100 → cl g k = cl g k9 → ∀ (H : Heap) (locs : List Loc), va_P (dC, dI) vwCl (w0 h a b cB cJ f g zs zc zg (nI k)) H → va_D A (w0 h a b cB cJ f g zs zc zg (nI k)) → va_S A s.heap H locs → ∀ ls : Array Slot, lv_has ls 1 [(0, .ref h)] → W p l e (headSpec wsX0_closeFinished ({ frames := 0, cells := 0, slots := 0, locals := 0 })).room s m ([.ref h]).toArray below meth c H locs 0 0 (MQ below (va_Qv (fun (_ : Unit) => True) (fun (_ : Unit) => po dC dI (t0 cB cJ) A (w0 h a b cB cJ f g zs zc zg (nI (cl g k9)))) A) ([.ref h]).toArray s 0 0 A) (F0 m 0 ls []) := by
    intro fz
    induction fz with
    | zero =>
      intro k hk hk1 hcl H locs hP hD hS ls hl
      exact absurd hk (Nat.not_lt_zero _)
    | succ fz ih =>
      intro k hk hk1 hcl H locs hP hD hS ls hl
      refine lv_aload_n hx hb dX0_closeFinished_0 rfl (lv_at hl 0 rfl) ?_
      refine va_get (D := (dC, dI)) (ci := 0) (v := .int (nI k)) (C := RX0) (T := TX0) (N := 6) hx hb hts hin0 hown hK hP 0 rfl rfl 5 (by decide) fl27 (fun _ h9 => h9) rfl dX0_closeFinished_1 ?_
      refine lv_if_le (tgt := 36) hx hb dX0_closeFinished_4 (by decide) (fun c_1 => ?_) (fun c_1 => ?_)
      · skip
        have hP9 : va_P (dC, dI) vwCl ((fun (_ : Unit) => w0 h a b cB cJ f g zs zc zg (nI (cl g k9))) (())) H := by rw [← hcl, show cl g k = k from cl_e (Or.inl (Nat.eq_zero_of_not_pos (fun z => nI_nle z (by omega) c_1)))]; exact hP
        have hD9 : va_D A ((fun (_ : Unit) => w0 h a b cB cJ f g zs zc zg (nI (cl g k9))) (())) := by rw [← hcl, show cl g k = k from cl_e (Or.inl (Nat.eq_zero_of_not_pos (fun z => nI_nle z (by omega) c_1)))]; exact hD
        exact W.vret hx hb hr (fun t ht hW => ⟨⟨(), rfl, trivial, by rw [ht]; exact hP9, va_K.moved hW.alike hK, hD9⟩, hS.F ht⟩) hS.2.2 dX0_closeFinished_36
      · skip
        have q0 : 0 < k := Nat.pos_of_ne_zero (fun z => c_1 (by rw [z]; decide))
        have q1 : nI k - 1 = nI (k - 1) := pk_sub (b := 1) q0
        refine lv_aload_n hx hb dX0_closeFinished_7 rfl (lv_at hl 0 rfl) ?_
        refine va_get (D := (dC, dI)) (ci := 0) (v := .ref b) (C := RX0) (T := TX0) (N := 6) hx hb hts hin0 hown hK hP 0 rfl rfl 4 (by decide) fl23 (fun _ h9 => h9) rfl dX0_closeFinished_8 ?_
        refine lv_aload_n hx hb dX0_closeFinished_11 rfl (lv_at hl 0 rfl) ?_
        refine va_get (D := (dC, dI)) (ci := 0) (v := .int (nI k)) (C := RX0) (T := TX0) (N := 6) hx hb hts hin0 hown hK hP 0 rfl rfl 5 (by decide) fl27 (fun _ h9 => h9) rfl dX0_closeFinished_12 ?_
        refine lv_iconst (v := 1) hx hb dX0_closeFinished_15 (by decide) ?_
        refine lv_isub hx hb dX0_closeFinished_16 ?_
        have e_2 : ((nI k) - 1 : Int32) = nI (k - 1) := q1
        rw [e_2]
        refine va_lald hx hb hK hP 2 1 rfl rfl (vp_in_nI (by omega) (by decide)) dX0_closeFinished_17 ?_
        refine lv_lconst (v := 0) hx hb dX0_closeFinished_18 (by decide) ?_
        refine W.lcmp hx hb dX0_closeFinished_19 ?_
        refine lv_if_ne (tgt := 36) hx hb dX0_closeFinished_20 (by decide) (fun c_3 => ?_) (fun c_3 => ?_)
        · skip
          have c_3 := (not_congr (lg_cmp_eq (g (nI (k - 1)).toNatClampNeg) (0 : Int64))).mp c_3
          have hP9 : va_P (dC, dI) vwCl ((fun (_ : Unit) => w0 h a b cB cJ f g zs zc zg (nI (cl g k9))) (())) H := by rw [← hcl, show cl g k = k from cl_e (Or.inr (by rw [nI_clamp (by omega)] at c_3; exact c_3))]; exact hP
          have hD9 : va_D A ((fun (_ : Unit) => w0 h a b cB cJ f g zs zc zg (nI (cl g k9))) (())) := by rw [← hcl, show cl g k = k from cl_e (Or.inr (by rw [nI_clamp (by omega)] at c_3; exact c_3))]; exact hD
          exact W.vret hx hb hr (fun t ht hW => ⟨⟨(), rfl, trivial, by rw [ht]; exact hP9, va_K.moved hW.alike hK, hD9⟩, hS.F ht⟩) hS.2.2 dX0_closeFinished_36
        · skip
          have c_3 := (lg_cmp_eq (g (nI (k - 1)).toNatClampNeg) (0 : Int64)).mp c_3
          refine lv_aload_n hx hb dX0_closeFinished_23 rfl (lv_at hl 0 rfl) ?_
          refine lv_dup hx hb dX0_closeFinished_24 rfl ?_
          refine va_get (D := (dC, dI)) (ci := 0) (v := .int (nI k)) (C := RX0) (T := TX0) (N := 6) hx hb hts hin0 hown hK hP 0 rfl rfl 5 (by decide) fl27 (fun _ h9 => h9) rfl dX0_closeFinished_25 ?_
          refine lv_iconst (v := 1) hx hb dX0_closeFinished_28 (by decide) ?_
          refine lv_isub hx hb dX0_closeFinished_29 ?_
          have e_4 : ((nI k) - 1 : Int32) = nI (k - 1) := q1
          rw [e_4]
          refine va_put (D := (dC, dI)) (ci := 0) (v := .int (nI (k - 1))) (ty := .int) (C := RX0) (T := TX0) (N := 6) hx hb hts hin0 tyX0 tyX0_ok nmX0 hown hK hP hD hS 0 rfl rfl 5 (by decide) fl27 (fun _ h9 => h9) rfl (by decide +kernel) rfl rfl (Nat.le_of_ble_eq_true rfl) dX0_closeFinished_30 (fun H locs hP hD hS => ?_)
          have hP : va_P (dC, dI) vwCl (w0 h a b cB cJ f g zs zc zg (nI (k - 1))) H := hP
          have hD : va_D A (w0 h a b cB cJ f g zs zc zg (nI (k - 1))) := hD
          refine lv_goto (tgt := 0) hx hb dX0_closeFinished_33 (by decide) ?_
          exact ih (k - 1) (by omega) (by omega) (by rw [← hcl]; exact (cl_z q0 (by rw [nI_clamp (by omega)] at c_3; exact c_3)).symm) _ _ hP hD hS ls (lv_sub hl [0] rfl)
  exact loop0 (k9 + 1) k9 (by omega) hk9 rfl _ _ hP hD hS ls (lv_sub hl [0] rfl)
