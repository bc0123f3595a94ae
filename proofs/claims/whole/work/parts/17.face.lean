set_option maxHeartbeats 4000000 in
set_option maxRecDepth 100000 in
theorem c_X0_whole (l : Launch) (dC : Nat → ClassId) (dI : Nat → Nat → Nat) (tk tw : Nat) (h a b : Nat) (cB cJ : ClassId) (sz : Nat) (f : Nat → Int32) (g : Nat → Int64) (zg : Int32) (zo : Int32) (n8 c9 : Nat) (hn8 : n8 ≤ 4096) (hc9 : c9 ≤ 4096) : Met l yX0_whole wsX0_whole ({ frames := 6, cells := 0, slots := 0, locals := 142 }) (va_Pc [.ref h] (pr dC dI (t0 cB cJ) (w0 h a b cB cJ f g (nI n8) (nI c9) zg zo) sz tk tw)) (va_Qi (fun (r : Int32) (_ : Unit) => r = nI (wh (bY f) n8 4096 c9)) (fun (_ : Unit) => po dC dI (t0 cB cJ) (va_A (w0 h a b cB cJ f g (nI n8) (nI c9) zg zo) sz) (w0 h a b cB cJ f g (nI n8) (nI c9) zg zo)) (va_A (w0 h a b cB cJ f g (nI n8) (nI c9) zg zo) sz)) 0 0 (va_A (w0 h a b cB cJ f g (nI n8) (nI c9) zg zo) sz) := by
  refine Met.ofW (cc := cX0_whole) (maxL := 4) (ret := (some .int)) (by decide) rfl ?_
  intro p e s m args below meth c s₁ Bd hml hv
  obtain ⟨rfl, hsz, hP, hK, hD0, hZ⟩ := hv
  have hx := Bd.exec
  have hb := Bd.bytes
  have hr := Bd.returns
  have hts := atoms_spec (ws := wsX0_whole) Bd.pre
  have hown : s.vm.findClass RX0 = some m.cls := findClass_of_methodNamed Bd.named
  have hlocks := Bd.notSynchronized
  subst hsz
  have hD := hD0.self (sz := s.heap.size)
  generalize hAe : va_A (w0 h a b cB cJ f g (nI n8) (nI c9) zg zo) s.heap.size = A at hD hZ ⊢
  have hA : ∀ q : Nat, s.heap.size ≤ q → A q := fun q h => by rw [← hAe]; exact Or.inr h
  have hS : va_S A s.heap s.heap [] := va_S.rf
  have hP : va_P (dC, dI) vwCl (w0 h a b cB cJ f g (nI n8) (nI c9) zg zo) s.heap := hP
  have hin0 : ∀ w ∈ wsX00, w ∈ wsX0_whole := by decide +kernel
  have fl17 := hts (.fieldLink RX0 17 "MessageReader" "consumed" "I") (by decide +kernel)
  have hl := lv_entry ([.ref h]) (n := 4) (Nat.le_of_ble_eq_true rfl)
  rw [lg_entry_eq]
  generalize (lg_sl ([.ref h]) ++ List.replicate (4 - (lg_sl ([.ref h])).length) Slot.unset).toArray = ls at hl ⊢
  have hl : lv_has ls 4 [(0, .ref h)] := hl
  refine lv_aload_n hx hb dX0_whole_0 rfl (lv_at hl 0 rfl) ?_
  refine va_get (D := (dC, dI)) (ci := 0) (v := .int (nI c9)) (C := RX0) (T := TX0) (N := 6) hx hb hts hin0 hown hK hP 0 rfl rfl 2 (by decide) fl17 (fun _ h9 => h9) rfl dX0_whole_1 ?_
  refine lv_istore_n (lv' := [(1, .int (nI c9)), (0, .ref h)]) hx hb dX0_whole_4 rfl hl (by decide) rfl (fun ls hl => ?_)
  refine lv_iconst (v := 0) hx hb dX0_whole_5 (by decide) ?_
  refine lv_istore_n (lv' := [(2, .int 0), (1, .int (nI c9)), (0, .ref h)]) hx hb dX0_whole_6 rfl hl (by decide) rfl (fun ls hl => ?_)
  have loop7 : ∀ (fz : Nat) (q i x : Nat), q < fz → i + q = 4096 → x ≤ 4096 → i + wh (bY f) n8 q x = wh (bY f) n8 4096 c9 → ∀ (H : Heap) (locs : List Loc), va_P (dC, dI) vwCl (w0 h a b cB cJ f g (nI n8) (nI c9) zg zo) H → va_D A (w0 h a b cB cJ f g (nI n8) (nI c9) zg zo) → va_S A s.heap H locs → ∀ ls : Array Slot, lv_has ls 4 [(0, .ref h), (1, .int (nI x)), (2, .int (nI i))] → W p l e (headSpec wsX0_whole ({ frames := 6, cells := 0, slots := 0, locals := 142 })).room s m ([.ref h]).toArray below meth c H locs 0 0 (MQ below (va_Qi (fun (r : Int32) (_ : Unit) => r = nI (wh (bY f) n8 4096 c9)) (fun (_ : Unit) => po dC dI (t0 cB cJ) A (w0 h a b cB cJ f g (nI n8) (nI c9) zg zo)) A) ([.ref h]).toArray s 0 0 A) (F0 m 7 ls []) := by
    intro fz
    induction fz with
    | zero =>
      intro q i x hq hi hx9 hw9 H locs hP hD hS ls hl
      exact absurd hq (Nat.not_lt_zero _)
    | succ fz ih =>
      intro q i x hq hi hx9 hw9 H locs hP hD hS ls hl
      refine lv_iload_n hx hb dX0_whole_7 rfl (lv_at hl 2 rfl) ?_
      refine lv_sipush (v := 4096) hx hb dX0_whole_8 (by decide) ?_
      refine lv_icmp_ge (tgt := 38) hx hb dX0_whole_11 (by decide) (fun c_1 => ?_) (fun c_1 => ?_)
      · skip
        have hq0 : q = 0 := by have z := (nI_leI (a := 4096) (b := i) (by decide) (by omega)).mp c_1; omega
        refine lv_sipush (v := 4096) hx hb dX0_whole_38 (by decide) ?_
        exact W.iret (v := 4096) hx hb hr (fun t ht hW => ⟨⟨4096, (), rfl, (by rw [← hw9, hq0, show i = 4096 by omega]; rfl), by rw [ht]; exact hP, va_K.moved hW.alike hK, hD⟩, hS.F ht⟩) hS.2.2 dX0_whole_41
      · skip
        obtain ⟨t, ht9⟩ : ∃ t, q = t + 1 := ⟨q - 1, by have z := (not_congr (nI_leI (a := 4096) (b := i) (by decide) (by omega))).mp c_1; omega⟩
        refine lv_aload_n hx hb dX0_whole_14 rfl (lv_at hl 0 rfl) ?_
        refine lv_iload_n hx hb dX0_whole_15 rfl (lv_at hl 1 rfl) ?_
        refine gvi (As := [.int (nI x)]) (rest := []) ⟨hx, hb, hml, hown, hts⟩ (c_X0_lastHeadFrom l dC dI tk tw h a b cB cJ _ f g (nI c9) zg zo n8 x hn8 hx9) (cwV 1 hts gX0_whole_X0_lastHeadFrom rfl rfl rfl (by decide +kernel) ⟨Nat.le_of_ble_eq_true rfl, Nat.le_of_ble_eq_true rfl⟩) hK hP hD hS hA hZ (q0 := 0) (ci := 0) rfl rfl rfl rfl hl.1 rfl (Nat.le_of_ble_eq_true rfl) dX0_whole_16 ⟨Nat.le_of_ble_eq_true rfl, Nat.le_of_ble_eq_true rfl⟩ (fun r_3 u_4 H locs hw_2 hP hD hS => ?_)
        obtain rfl : r_3 = wr (bY f) n8 4097 x 1 := hw_2
        refine lv_istore_n (lv' := [(3, .int (wr (bY f) n8 4097 x 1)), (0, .ref h), (1, .int (nI x)), (2, .int (nI i))]) hx hb dX0_whole_19 rfl hl (by decide) rfl (fun ls hl => ?_)
        refine lv_iload_n hx hb dX0_whole_20 rfl (lv_at hl 0 rfl) ?_
        refine lv_if_ge (tgt := 26) hx hb dX0_whole_21 (by decide) (fun c_5 => ?_) (fun c_5 => ?_)
        · skip
          have c_5x : ¬ wr (bY f) n8 4097 x 1 < 0 := Int32.not_lt.mpr c_5
          have c_5 := c_5x
          have q2 := wk_end (bY_lt f) hn8 hx9 c_5
          refine lv_aload_n hx hb dX0_whole_26 rfl (lv_at hl 1 rfl) ?_
          refine lv_iload_n hx hb dX0_whole_27 rfl (lv_at hl 0 rfl) ?_
          have e_8 : (wr (bY f) n8 4097 x 1 : Int32) = nI (wk (bY f) n8 4097 x 1).2 := q2.1
          rw [e_8]
          refine gvi (As := [.int (nI (wk (bY f) n8 4097 x 1).2)]) (rest := []) ⟨hx, hb, hml, hown, hts⟩ (c_X0_endAt l dC dI tk tw h a b cB cJ _ f g (nI n8) (nI c9) zg zo (wk (bY f) n8 4097 x 1).2 q2.2.2.1) (cwV 1 hts gX0_whole_X0_endAt rfl rfl rfl (by decide +kernel) ⟨Nat.le_of_ble_eq_true rfl, Nat.le_of_ble_eq_true rfl⟩) hK hP hD hS hA hZ (q0 := 0) (ci := 0) rfl rfl rfl rfl hl.1 rfl (Nat.le_of_ble_eq_true rfl) dX0_whole_28 ⟨Nat.le_of_ble_eq_true rfl, Nat.le_of_ble_eq_true rfl⟩ (fun r_7 u_9 H locs hw_6 hP hD hS => ?_)
          obtain rfl : r_7 = nI (nx (bY f) (wk (bY f) n8 4097 x 1).2) := hw_6.trans q2.2.2.2.1
          refine lv_istore_n (lv' := [(1, .int (nI (nx (bY f) (wk (bY f) n8 4097 x 1).2))), (3, .int (wr (bY f) n8 4097 x 1)), (0, .ref h), (2, .int (nI i))]) hx hb dX0_whole_31 rfl hl (by decide) rfl (fun ls hl => ?_)
          refine lv_iinc (v := nI (i + 1)) (lv' := [(2, .int (nI (i + 1))), (1, .int (nI (nx (bY f) (wk (bY f) n8 4097 x 1).2))), (3, .int (wr (bY f) n8 4097 x 1)), (0, .ref h)]) hx hb dX0_whole_32 hl (k := 3) rfl (nI_1 i) (by decide) rfl (fun ls hl => ?_)
          refine lv_goto (tgt := 7) hx hb dX0_whole_35 (by decide) ?_
          exact ih t (i + 1) (nx (bY f) (wk (bY f) n8 4097 x 1).2) (by omega) (by omega) (by have := q2.2.2.2.2.1; omega) (by rw [← hw9, ht9, wh_pos c_5]; omega) _ _ hP hD hS ls (lv_sub hl [3, 1, 0] rfl)
        · skip
          refine lv_iload_n hx hb dX0_whole_24 rfl (lv_at hl 3 rfl) ?_
          exact W.iret (v := nI i) hx hb hr (fun t ht hW => ⟨⟨nI i, (), rfl, (by rw [← hw9, ht9, wh_neg (Int32.not_le.mp c_5)]; rfl), by rw [ht]; exact hP, va_K.moved hW.alike hK, hD⟩, hS.F ht⟩) hS.2.2 dX0_whole_25
  exact loop7 (4096 + 1) 4096 0 c9 (by omega) rfl hc9 (by omega) _ _ hP hD hS ls (lv_sub hl [2, 1, 0] rfl)
set_option maxHeartbeats 4000000 in
set_option maxRecDepth 100000 in
theorem c_X0_next (l : Launch) (dC : Nat → ClassId) (dI : Nat → Nat → Nat) (tk tw : Nat) (h a b : Nat) (cB cJ : ClassId) (sz : Nat) (f : Nat → Int32) (g : Nat → Int64) (zg : Int32) (n8 c9 : Nat) (hn8 : n8 ≤ 4096) (hc9 : c9 ≤ 4096) (k9 : Nat) (hk9 : k9 ≤ 100) : Met l yX0_next wsX0_next ({ frames := 6, cells := 0, slots := 0, locals := 134 }) (va_Pc [.ref h] (pr dC dI (t0 cB cJ) (w0 h a b cB cJ f g (nI n8) (nI c9) zg (nI k9)) sz tk tw)) (va_Qi (fun (r : Int32) (u : (Nat → Int64) × Int32 × Int32 × Int32) => nxP f g n8 c9 zg k9 r u) (fun (u : (Nat → Int64) × Int32 × Int32 × Int32) => po dC dI (t0 cB cJ) (va_A (w0 h a b cB cJ f g (nI n8) (nI c9) zg (nI k9)) sz) (w0 h a b cB cJ f u.1 (nI n8) u.2.1 u.2.2.1 u.2.2.2)) (va_A (w0 h a b cB cJ f g (nI n8) (nI c9) zg (nI k9)) sz)) 0 0 (va_A (w0 h a b cB cJ f g (nI n8) (nI c9) zg (nI k9)) sz) := by
  refine Met.ofW (cc := cX0_next) (maxL := 4) (ret := (some .int)) (by decide) rfl ?_
  intro p e s m args below meth c s₁ Bd hml hv
  obtain ⟨rfl, hsz, hP, hK, hD0, hZ⟩ := hv
  have hx := Bd.exec
  have hb := Bd.bytes
  have hr := Bd.returns
  have hts := atoms_spec (ws := wsX0_next) Bd.pre
  have hown : s.vm.findClass RX0 = some m.cls := findClass_of_methodNamed Bd.named
  have hlocks := Bd.notSynchronized
  subst hsz
  have hD := hD0.self (sz := s.heap.size)
  generalize hAe : va_A (w0 h a b cB cJ f g (nI n8) (nI c9) zg (nI k9)) s.heap.size = A at hD hZ ⊢
  have hA : ∀ q : Nat, s.heap.size ≤ q → A q := fun q h => by rw [← hAe]; exact Or.inr h
  have hS : va_S A s.heap s.heap [] := va_S.rf
  have hP : va_P (dC, dI) vwCl (w0 h a b cB cJ f g (nI n8) (nI c9) zg (nI k9)) s.heap := hP
  have hin0 : ∀ w ∈ wsX00, w ∈ wsX0_next := by decide +kernel
  have fl17 := hts (.fieldLink RX0 17 "MessageReader" "consumed" "I") (by decide +kernel)
  have fl27 := hts (.fieldLink RX0 27 "MessageReader" "open" "I") (by decide +kernel)
  have hl := lv_entry ([.ref h]) (n := 4) (Nat.le_of_ble_eq_true rfl)
  rw [lg_entry_eq]
  generalize (lg_sl ([.ref h]) ++ List.replicate (4 - (lg_sl ([.ref h])).length) Slot.unset).toArray = ls at hl ⊢
  have hl : lv_has ls 4 [(0, .ref h)] := hl
  refine lv_aload_n hx hb dX0_next_0 rfl (lv_at hl 0 rfl) ?_
  refine lv_aload_n hx hb dX0_next_1 rfl (lv_at hl 0 rfl) ?_
  refine va_get (D := (dC, dI)) (ci := 0) (v := .int (nI c9)) (C := RX0) (T := TX0) (N := 6) hx hb hts hin0 hown hK hP 0 rfl rfl 2 (by decide) fl17 (fun _ h9 => h9) rfl dX0_next_2 ?_
  refine gvi (As := [.int (nI c9)]) (rest := []) ⟨hx, hb, hml, hown, hts⟩ (c_X0_lookAt l dC dI tk tw h a b cB cJ _ f g (nI c9) zg (nI k9) n8 c9 hn8 hc9) (cwV 1 hts gX0_next_X0_lookAt rfl rfl rfl (by decide +kernel) ⟨Nat.le_of_ble_eq_true rfl, Nat.le_of_ble_eq_true rfl⟩) hK hP hD hS hA hZ (q0 := 0) (ci := 0) rfl rfl rfl rfl hl.1 rfl (Nat.le_of_ble_eq_true rfl) dX0_next_5 ⟨Nat.le_of_ble_eq_true rfl, Nat.le_of_ble_eq_true rfl⟩ (fun r_2 u_3 H locs hw_1 hP hD hS => ?_)
  obtain rfl : r_2 = lkS (bY f) n8 c9 := hw_1
  refine lv_istore_n (lv' := [(1, .int (lkS (bY f) n8 c9)), (0, .ref h)]) hx hb dX0_next_8 rfl hl (by decide) rfl (fun ls hl => ?_)
  refine lv_iload_n hx hb dX0_next_9 rfl (lv_at hl 0 rfl) ?_
  refine lv_if_ge (tgt := 15) hx hb dX0_next_10 (by decide) (fun c_4 => ?_) (fun c_4 => ?_)
  · skip
    have q1 : ¬ lkS (bY f) n8 c9 < 0 := Int32.not_lt.mpr c_4
    have q2 := nx_eq (bY_lt f) hn8 hc9 q1
    refine lv_aload_n hx hb dX0_next_15 rfl (lv_at hl 1 rfl) ?_
    refine lv_aload_n hx hb dX0_next_16 rfl (lv_at hl 1 rfl) ?_
    refine va_get (D := (dC, dI)) (ci := 0) (v := .int (nI c9)) (C := RX0) (T := TX0) (N := 6) hx hb hts hin0 hown hK hP 0 rfl rfl 2 (by decide) fl17 (fun _ h9 => h9) rfl dX0_next_17 ?_
    refine gvl (As := [.int (nI c9)]) (rest := []) ⟨hx, hb, hml, hown, hts⟩ (c_X0_childrenAt l dC dI tk tw h a b cB cJ _ f g (nI n8) (nI c9) zg (nI k9) c9 (by have := q2.2.2.2; omega)) (cwV 1 hts gX0_next_X0_childrenAt rfl rfl rfl (by decide +kernel) ⟨Nat.le_of_ble_eq_true rfl, Nat.le_of_ble_eq_true rfl⟩) hK hP hD hS hA hZ (q0 := 0) (ci := 0) rfl rfl rfl rfl hl.1 rfl (Nat.le_of_ble_eq_true rfl) dX0_next_20 ⟨Nat.le_of_ble_eq_true rfl, Nat.le_of_ble_eq_true rfl⟩ (fun r_6 u_7 H locs hw_5 hP hD hS => ?_)
    obtain rfl : r_6 = ch (bY f) c9 := hw_5
    refine lv_lstore_n (lv' := [(2, .long (ch (bY f) c9)), (1, .int (lkS (bY f) n8 c9)), (0, .ref h)]) hx hb dX0_next_23 rfl hl (by decide) rfl (fun ls hl => ?_)
    refine lv_lload_n hx hb dX0_next_24 rfl (lv_at hl 0 rfl) ?_
    refine lv_lconst (v := 0) hx hb dX0_next_25 (by decide) ?_
    refine W.lcmp hx hb dX0_next_26 ?_
    refine lv_if_le (tgt := 42) hx hb dX0_next_27 (by decide) (fun c_8 => ?_) (fun c_8 => ?_)
    · skip
      have c_8 := (lg_cmp_le (ch (bY f) c9) (0 : Int64)).mp c_8
      refine lv_aload_n hx hb dX0_next_42 rfl (lv_at hl 2 rfl) ?_
      refine gvv (As := []) (rest := []) ⟨hx, hb, hml, hown, hts⟩ (c_X0_countChild l dC dI tk tw h a b cB cJ _ f g (nI n8) (nI c9) zg k9 hk9) (cwV 0 hts gX0_next_X0_countChild rfl rfl rfl (by decide +kernel) ⟨Nat.le_of_ble_eq_true rfl, Nat.le_of_ble_eq_true rfl⟩) hK hP hD hS hA hZ (q0 := 0) (ci := 0) rfl rfl rfl rfl hl.1 rfl (Nat.le_of_ble_eq_true rfl) dX0_next_43 ⟨Nat.le_of_ble_eq_true rfl, Nat.le_of_ble_eq_true rfl⟩ (fun u_11 H locs hw_9 hP hD hS => ?_)
      have hP : va_P (dC, dI) vwCl (w0 h a b cB cJ f (cc1 g k9) (nI n8) (nI c9) zg (nI k9)) H := hP
      have hD : va_D A (w0 h a b cB cJ f (cc1 g k9) (nI n8) (nI c9) zg (nI k9)) := hD
      refine lv_aload_n hx hb dX0_next_46 rfl (lv_at hl 2 rfl) ?_
      refine lv_lload_n hx hb dX0_next_47 rfl (lv_at hl 0 rfl) ?_
      refine gvv (As := [.long (ch (bY f) c9)]) (rest := []) ⟨hx, hb, hml, hown, hts⟩ (c_X0_openContainer l dC dI tk tw h a b cB cJ _ f (cc1 g k9) (nI n8) (nI c9) zg (ch (bY f) c9) k9 hk9) (cwV 1 hts gX0_next_X0_openContainer rfl rfl rfl (by decide +kernel) ⟨Nat.le_of_ble_eq_true rfl, Nat.le_of_ble_eq_true rfl⟩) hK hP hD hS hA hZ (q0 := 0) (ci := 0) rfl rfl rfl rfl hl.1 rfl (Nat.le_of_ble_eq_true rfl) dX0_next_48 ⟨Nat.le_of_ble_eq_true rfl, Nat.le_of_ble_eq_true rfl⟩ (fun u_14 H locs hw_12 hP hD hS => ?_)
      have hP : va_P (dC, dI) vwCl (w0 h a b cB cJ f (og (cc1 g k9) k9 (ch (bY f) c9)) (nI n8) (nI c9) zg (nI (ok k9 (ch (bY f) c9)))) H := hP
      have hD : va_D A (w0 h a b cB cJ f (og (cc1 g k9) k9 (ch (bY f) c9)) (nI n8) (nI c9) zg (nI (ok k9 (ch (bY f) c9)))) := hD
      refine lv_aload_n hx hb dX0_next_51 rfl (lv_at hl 2 rfl) ?_
      refine gvv (As := []) (rest := []) ⟨hx, hb, hml, hown, hts⟩ (c_X0_closeFinished l dC dI tk tw h a b cB cJ _ f (og (cc1 g k9) k9 (ch (bY f) c9)) (nI n8) (nI c9) zg (ok k9 (ch (bY f) c9)) (ok_le hk9)) (cwV 0 hts gX0_next_X0_closeFinished rfl rfl rfl (by decide +kernel) ⟨Nat.le_of_ble_eq_true rfl, Nat.le_of_ble_eq_true rfl⟩) hK hP hD hS hA hZ (q0 := 0) (ci := 0) rfl rfl rfl rfl hl.1 rfl (Nat.le_of_ble_eq_true rfl) dX0_next_52 ⟨Nat.le_of_ble_eq_true rfl, Nat.le_of_ble_eq_true rfl⟩ (fun u_17 H locs hw_15 hP hD hS => ?_)
      have hP : va_P (dC, dI) vwCl (w0 h a b cB cJ f (og (cc1 g k9) k9 (ch (bY f) c9)) (nI n8) (nI c9) zg (nI (cl (og (cc1 g k9) k9 (ch (bY f) c9)) (ok k9 (ch (bY f) c9))))) H := hP
      have hD : va_D A (w0 h a b cB cJ f (og (cc1 g k9) k9 (ch (bY f) c9)) (nI n8) (nI c9) zg (nI (cl (og (cc1 g k9) k9 (ch (bY f) c9)) (ok k9 (ch (bY f) c9))))) := hD
      refine lv_aload_n hx hb dX0_next_55 rfl (lv_at hl 2 rfl) ?_
      refine lv_aload_n hx hb dX0_next_56 rfl (lv_at hl 2 rfl) ?_
      refine va_get (D := (dC, dI)) (ci := 0) (v := .int (nI c9)) (C := RX0) (T := TX0) (N := 6) hx hb hts hin0 hown hK hP 0 rfl rfl 2 (by decide) fl17 (fun _ h9 => h9) rfl dX0_next_57 ?_
      refine gvv (As := [.int (nI c9)]) (rest := []) ⟨hx, hb, hml, hown, hts⟩ (c_X0_consume l dC dI tk tw h a b cB cJ _ f (og (cc1 g k9) k9 (ch (bY f) c9)) (nI n8) (nI c9) zg (nI (cl (og (cc1 g k9) k9 (ch (bY f) c9)) (ok k9 (ch (bY f) c9)))) c9 (by have := q2.2.2.2; omega)) (cwV 1 hts gX0_next_X0_consume rfl rfl rfl (by decide +kernel) ⟨Nat.le_of_ble_eq_true rfl, Nat.le_of_ble_eq_true rfl⟩) hK hP hD hS hA hZ (q0 := 0) (ci := 0) rfl rfl rfl rfl hl.1 rfl (Nat.le_of_ble_eq_true rfl) dX0_next_60 ⟨Nat.le_of_ble_eq_true rfl, Nat.le_of_ble_eq_true rfl⟩ (fun u_20 H locs hw_18 hP hD hS => ?_)
      have hP : va_P (dC, dI) vwCl (w0 h a b cB cJ f (og (cc1 g k9) k9 (ch (bY f) c9)) (nI n8) (nI c9 + nI (hd (bY f c9)) + pl (bY f) c9) (nI c9) (nI (cl (og (cc1 g k9) k9 (ch (bY f) c9)) (ok k9 (ch (bY f) c9))))) H := hP
      have hD : va_D A (w0 h a b cB cJ f (og (cc1 g k9) k9 (ch (bY f) c9)) (nI n8) (nI c9 + nI (hd (bY f c9)) + pl (bY f) c9) (nI c9) (nI (cl (og (cc1 g k9) k9 (ch (bY f) c9)) (ok k9 (ch (bY f) c9))))) := hD
      refine lv_iload_n hx hb dX0_next_63 rfl (lv_at hl 1 rfl) ?_
      have hP9 : va_P (dC, dI) vwCl ((fun (u : (Nat → Int64) × Int32 × Int32 × Int32) => w0 h a b cB cJ f u.1 (nI n8) u.2.1 u.2.2.1 u.2.2.2) ((og (cc1 g k9) k9 (ch (bY f) c9), nI c9 + nI (hd (bY f c9)) + pl (bY f) c9, nI c9, nI (cl (og (cc1 g k9) k9 (ch (bY f) c9)) (ok k9 (ch (bY f) c9)))))) H := hP
      have hD9 : va_D A ((fun (u : (Nat → Int64) × Int32 × Int32 × Int32) => w0 h a b cB cJ f u.1 (nI n8) u.2.1 u.2.2.1 u.2.2.2) ((og (cc1 g k9) k9 (ch (bY f) c9), nI c9 + nI (hd (bY f c9)) + pl (bY f) c9, nI c9, nI (cl (og (cc1 g k9) k9 (ch (bY f) c9)) (ok k9 (ch (bY f) c9)))))) := hD
      exact W.iret (v := lkS (bY f) n8 c9) hx hb hr (fun t ht hW => ⟨⟨lkS (bY f) n8 c9, (og (cc1 g k9) k9 (ch (bY f) c9), nI c9 + nI (hd (bY f c9)) + pl (bY f) c9, nI c9, nI (cl (og (cc1 g k9) k9 (ch (bY f) c9)) (ok k9 (ch (bY f) c9)))), rfl, (Or.inr (Or.inr ⟨q1, fun z => Int64.not_lt.mpr c_8 z.1, rfl, by rw [q2.1]⟩)), by rw [ht]; exact hP9, va_K.moved hW.alike hK, hD9⟩, hS.F ht⟩) hS.2.2 dX0_next_64
    · skip
      have c_8 := (not_congr (lg_cmp_le (ch (bY f) c9) (0 : Int64))).mp c_8
      refine lv_aload_n hx hb dX0_next_30 rfl (lv_at hl 2 rfl) ?_
      refine va_get (D := (dC, dI)) (ci := 0) (v := .int (nI k9)) (C := RX0) (T := TX0) (N := 6) hx hb hts hin0 hown hK hP 0 rfl rfl 5 (by decide) fl27 (fun _ h9 => h9) rfl dX0_next_31 ?_
      refine lv_bipush (v := 100) hx hb dX0_next_34 (by decide) ?_
      refine lv_icmp_ne (tgt := 42) hx hb dX0_next_36 (by decide) (fun c_21 => ?_) (fun c_21 => ?_)
      · skip
        refine lv_aload_n hx hb dX0_next_42 rfl (lv_at hl 2 rfl) ?_
        refine gvv (As := []) (rest := []) ⟨hx, hb, hml, hown, hts⟩ (c_X0_countChild l dC dI tk tw h a b cB cJ _ f g (nI n8) (nI c9) zg k9 hk9) (cwV 0 hts gX0_next_X0_countChild rfl rfl rfl (by decide +kernel) ⟨Nat.le_of_ble_eq_true rfl, Nat.le_of_ble_eq_true rfl⟩) hK hP hD hS hA hZ (q0 := 0) (ci := 0) rfl rfl rfl rfl hl.1 rfl (Nat.le_of_ble_eq_true rfl) dX0_next_43 ⟨Nat.le_of_ble_eq_true rfl, Nat.le_of_ble_eq_true rfl⟩ (fun u_24 H locs hw_22 hP hD hS => ?_)
        have hP : va_P (dC, dI) vwCl (w0 h a b cB cJ f (cc1 g k9) (nI n8) (nI c9) zg (nI k9)) H := hP
        have hD : va_D A (w0 h a b cB cJ f (cc1 g k9) (nI n8) (nI c9) zg (nI k9)) := hD
        refine lv_aload_n hx hb dX0_next_46 rfl (lv_at hl 2 rfl) ?_
        refine lv_lload_n hx hb dX0_next_47 rfl (lv_at hl 0 rfl) ?_
        refine gvv (As := [.long (ch (bY f) c9)]) (rest := []) ⟨hx, hb, hml, hown, hts⟩ (c_X0_openContainer l dC dI tk tw h a b cB cJ _ f (cc1 g k9) (nI n8) (nI c9) zg (ch (bY f) c9) k9 hk9) (cwV 1 hts gX0_next_X0_openContainer rfl rfl rfl (by decide +kernel) ⟨Nat.le_of_ble_eq_true rfl, Nat.le_of_ble_eq_true rfl⟩) hK hP hD hS hA hZ (q0 := 0) (ci := 0) rfl rfl rfl rfl hl.1 rfl (Nat.le_of_ble_eq_true rfl) dX0_next_48 ⟨Nat.le_of_ble_eq_true rfl, Nat.le_of_ble_eq_true rfl⟩ (fun u_27 H locs hw_25 hP hD hS => ?_)
        have hP : va_P (dC, dI) vwCl (w0 h a b cB cJ f (og (cc1 g k9) k9 (ch (bY f) c9)) (nI n8) (nI c9) zg (nI (ok k9 (ch (bY f) c9)))) H := hP
        have hD : va_D A (w0 h a b cB cJ f (og (cc1 g k9) k9 (ch (bY f) c9)) (nI n8) (nI c9) zg (nI (ok k9 (ch (bY f) c9)))) := hD
        refine lv_aload_n hx hb dX0_next_51 rfl (lv_at hl 2 rfl) ?_
        refine gvv (As := []) (rest := []) ⟨hx, hb, hml, hown, hts⟩ (c_X0_closeFinished l dC dI tk tw h a b cB cJ _ f (og (cc1 g k9) k9 (ch (bY f) c9)) (nI n8) (nI c9) zg (ok k9 (ch (bY f) c9)) (ok_le hk9)) (cwV 0 hts gX0_next_X0_closeFinished rfl rfl rfl (by decide +kernel) ⟨Nat.le_of_ble_eq_true rfl, Nat.le_of_ble_eq_true rfl⟩) hK hP hD hS hA hZ (q0 := 0) (ci := 0) rfl rfl rfl rfl hl.1 rfl (Nat.le_of_ble_eq_true rfl) dX0_next_52 ⟨Nat.le_of_ble_eq_true rfl, Nat.le_of_ble_eq_true rfl⟩ (fun u_30 H locs hw_28 hP hD hS => ?_)
        have hP : va_P (dC, dI) vwCl (w0 h a b cB cJ f (og (cc1 g k9) k9 (ch (bY f) c9)) (nI n8) (nI c9) zg (nI (cl (og (cc1 g k9) k9 (ch (bY f) c9)) (ok k9 (ch (bY f) c9))))) H := hP
        have hD : va_D A (w0 h a b cB cJ f (og (cc1 g k9) k9 (ch (bY f) c9)) (nI n8) (nI c9) zg (nI (cl (og (cc1 g k9) k9 (ch (bY f) c9)) (ok k9 (ch (bY f) c9))))) := hD
        refine lv_aload_n hx hb dX0_next_55 rfl (lv_at hl 2 rfl) ?_
        refine lv_aload_n hx hb dX0_next_56 rfl (lv_at hl 2 rfl) ?_
        refine va_get (D := (dC, dI)) (ci := 0) (v := .int (nI c9)) (C := RX0) (T := TX0) (N := 6) hx hb hts hin0 hown hK hP 0 rfl rfl 2 (by decide) fl17 (fun _ h9 => h9) rfl dX0_next_57 ?_
        refine gvv (As := [.int (nI c9)]) (rest := []) ⟨hx, hb, hml, hown, hts⟩ (c_X0_consume l dC dI tk tw h a b cB cJ _ f (og (cc1 g k9) k9 (ch (bY f) c9)) (nI n8) (nI c9) zg (nI (cl (og (cc1 g k9) k9 (ch (bY f) c9)) (ok k9 (ch (bY f) c9)))) c9 (by have := q2.2.2.2; omega)) (cwV 1 hts gX0_next_X0_consume rfl rfl rfl (by decide +kernel) ⟨Nat.le_of_ble_eq_true rfl, Nat.le_of_ble_eq_true rfl⟩) hK hP hD hS hA hZ (q0 := 0) (ci := 0) rfl rfl rfl rfl hl.1 rfl (Nat.le_of_ble_eq_true rfl) dX0_next_60 ⟨Nat.le_of_ble_eq_true rfl, Nat.le_of_ble_eq_true rfl⟩ (fun u_33 H locs hw_31 hP hD hS => ?_)
        have hP : va_P (dC, dI) vwCl (w0 h a b cB cJ f (og (cc1 g k9) k9 (ch (bY f) c9)) (nI n8) (nI c9 + nI (hd (bY f c9)) + pl (bY f) c9) (nI c9) (nI (cl (og (cc1 g k9) k9 (ch (bY f) c9)) (ok k9 (ch (bY f) c9))))) H := hP
        have hD : va_D A (w0 h a b cB cJ f (og (cc1 g k9) k9 (ch (bY f) c9)) (nI n8) (nI c9 + nI (hd (bY f c9)) + pl (bY f) c9) (nI c9) (nI (cl (og (cc1 g k9) k9 (ch (bY f) c9)) (ok k9 (ch (bY f) c9))))) := hD
        refine lv_iload_n hx hb dX0_next_63 rfl (lv_at hl 1 rfl) ?_
        have hP9 : va_P (dC, dI) vwCl ((fun (u : (Nat → Int64) × Int32 × Int32 × Int32) => w0 h a b cB cJ f u.1 (nI n8) u.2.1 u.2.2.1 u.2.2.2) ((og (cc1 g k9) k9 (ch (bY f) c9), nI c9 + nI (hd (bY f c9)) + pl (bY f) c9, nI c9, nI (cl (og (cc1 g k9) k9 (ch (bY f) c9)) (ok k9 (ch (bY f) c9)))))) H := hP
        have hD9 : va_D A ((fun (u : (Nat → Int64) × Int32 × Int32 × Int32) => w0 h a b cB cJ f u.1 (nI n8) u.2.1 u.2.2.1 u.2.2.2) ((og (cc1 g k9) k9 (ch (bY f) c9), nI c9 + nI (hd (bY f c9)) + pl (bY f) c9, nI c9, nI (cl (og (cc1 g k9) k9 (ch (bY f) c9)) (ok k9 (ch (bY f) c9)))))) := hD
        exact W.iret (v := lkS (bY f) n8 c9) hx hb hr (fun t ht hW => ⟨⟨lkS (bY f) n8 c9, (og (cc1 g k9) k9 (ch (bY f) c9), nI c9 + nI (hd (bY f c9)) + pl (bY f) c9, nI c9, nI (cl (og (cc1 g k9) k9 (ch (bY f) c9)) (ok k9 (ch (bY f) c9)))), rfl, (Or.inr (Or.inr ⟨q1, fun z => c_21 (by rw [z.2]; rfl), rfl, by rw [q2.1]⟩)), by rw [ht]; exact hP9, va_K.moved hW.alike hK, hD9⟩, hS.F ht⟩) hS.2.2 dX0_next_64
      · skip
        refine lv_bipush (v := -5) hx hb dX0_next_39 (by decide) ?_
        have hP9 : va_P (dC, dI) vwCl ((fun (u : (Nat → Int64) × Int32 × Int32 × Int32) => w0 h a b cB cJ f u.1 (nI n8) u.2.1 u.2.2.1 u.2.2.2) ((g, nI c9, zg, nI k9))) H := hP
        have hD9 : va_D A ((fun (u : (Nat → Int64) × Int32 × Int32 × Int32) => w0 h a b cB cJ f u.1 (nI n8) u.2.1 u.2.2.1 u.2.2.2) ((g, nI c9, zg, nI k9))) := hD
        exact W.iret (v := -5) hx hb hr (fun t ht hW => ⟨⟨-5, (g, nI c9, zg, nI k9), rfl, (Or.inr (Or.inl ⟨q1, Int64.not_le.mp c_8, (nI_eq (b := 100) (by omega) (by decide)).mp c_21, rfl, rfl⟩)), by rw [ht]; exact hP9, va_K.moved hW.alike hK, hD9⟩, hS.F ht⟩) hS.2.2 dX0_next_41
  · skip
    refine lv_iload_n hx hb dX0_next_13 rfl (lv_at hl 0 rfl) ?_
    have hP9 : va_P (dC, dI) vwCl ((fun (u : (Nat → Int64) × Int32 × Int32 × Int32) => w0 h a b cB cJ f u.1 (nI n8) u.2.1 u.2.2.1 u.2.2.2) ((g, nI c9, zg, nI k9))) H := hP
    have hD9 : va_D A ((fun (u : (Nat → Int64) × Int32 × Int32 × Int32) => w0 h a b cB cJ f u.1 (nI n8) u.2.1 u.2.2.1 u.2.2.2) ((g, nI c9, zg, nI k9))) := hD
    exact W.iret (v := lkS (bY f) n8 c9) hx hb hr (fun t ht hW => ⟨⟨lkS (bY f) n8 c9, (g, nI c9, zg, nI k9), rfl, (Or.inl ⟨Int32.not_le.mp c_4, rfl, rfl⟩), by rw [ht]; exact hP9, va_K.moved hW.alike hK, hD9⟩, hS.F ht⟩) hS.2.2 dX0_next_14
set_option maxHeartbeats 4000000 in
set_option maxRecDepth 100000 in
theorem c_X0_skip (l : Launch) (dC : Nat → ClassId) (dI : Nat → Nat → Nat) (tk tw : Nat) (h a b : Nat) (cB cJ : ClassId) (sz : Nat) (f : Nat → Int32) (g : Nat → Int64) (zg : Int32) (n8 c9 : Nat) (hn8 : n8 ≤ 4096) (hc9 : c9 ≤ 4096) (k9 : Nat) (hk9 : k9 ≤ 100) : Met l yX0_skip wsX0_skip ({ frames := 6, cells := 0, slots := 0, locals := 142 }) (va_Pc [.ref h] (pr dC dI (t0 cB cJ) (w0 h a b cB cJ f g (nI n8) (nI c9) zg (nI k9)) sz tk tw)) (va_Qi (fun (r : Int32) (u : (Nat → Int64) × Int32 × Int32 × Int32) => skP f g n8 c9 zg k9 r u) (fun (u : (Nat → Int64) × Int32 × Int32 × Int32) => po dC dI (t0 cB cJ) (va_A (w0 h a b cB cJ f g (nI n8) (nI c9) zg (nI k9)) sz) (w0 h a b cB cJ f u.1 (nI n8) u.2.1 u.2.2.1 u.2.2.2)) (va_A (w0 h a b cB cJ f g (nI n8) (nI c9) zg (nI k9)) sz)) 0 0 (va_A (w0 h a b cB cJ f g (nI n8) (nI c9) zg (nI k9)) sz) := by
  refine Met.ofW (cc := cX0_skip) (maxL := 3) (ret := (some .int)) (by decide) rfl ?_
  intro p e s m args below meth c s₁ Bd hml hv
  obtain ⟨rfl, hsz, hP, hK, hD0, hZ⟩ := hv
  have hx := Bd.exec
  have hb := Bd.bytes
  have hr := Bd.returns
  have hts := atoms_spec (ws := wsX0_skip) Bd.pre
  have hown : s.vm.findClass RX0 = some m.cls := findClass_of_methodNamed Bd.named
  have hlocks := Bd.notSynchronized
  subst hsz
  have hD := hD0.self (sz := s.heap.size)
  generalize hAe : va_A (w0 h a b cB cJ f g (nI n8) (nI c9) zg (nI k9)) s.heap.size = A at hD hZ ⊢
  have hA : ∀ q : Nat, s.heap.size ≤ q → A q := fun q h => by rw [← hAe]; exact Or.inr h
  have hS : va_S A s.heap s.heap [] := va_S.rf
  have hP : va_P (dC, dI) vwCl (w0 h a b cB cJ f g (nI n8) (nI c9) zg (nI k9)) s.heap := hP
  have hin0 : ∀ w ∈ wsX00, w ∈ wsX0_skip := by decide +kernel
  have fl17 := hts (.fieldLink RX0 17 "MessageReader" "consumed" "I") (by decide +kernel)
  have hl := lv_entry ([.ref h]) (n := 3) (Nat.le_of_ble_eq_true rfl)
  rw [lg_entry_eq]
  generalize (lg_sl ([.ref h]) ++ List.replicate (3 - (lg_sl ([.ref h])).length) Slot.unset).toArray = ls at hl ⊢
  have hl : lv_has ls 3 [(0, .ref h)] := hl
  refine lv_aload_n hx hb dX0_skip_0 rfl (lv_at hl 0 rfl) ?_
  refine lv_aload_n hx hb dX0_skip_1 rfl (lv_at hl 0 rfl) ?_
  refine va_get (D := (dC, dI)) (ci := 0) (v := .int (nI c9)) (C := RX0) (T := TX0) (N := 6) hx hb hts hin0 hown hK hP 0 rfl rfl 2 (by decide) fl17 (fun _ h9 => h9) rfl dX0_skip_2 ?_
  refine gvi (As := [.int (nI c9)]) (rest := []) ⟨hx, hb, hml, hown, hts⟩ (c_X0_lastHeadFrom l dC dI tk tw h a b cB cJ _ f g (nI c9) zg (nI k9) n8 c9 hn8 hc9) (cwV 1 hts gX0_skip_X0_lastHeadFrom rfl rfl rfl (by decide +kernel) ⟨Nat.le_of_ble_eq_true rfl, Nat.le_of_ble_eq_true rfl⟩) hK hP hD hS hA hZ (q0 := 0) (ci := 0) rfl rfl rfl rfl hl.1 rfl (Nat.le_of_ble_eq_true rfl) dX0_skip_5 ⟨Nat.le_of_ble_eq_true rfl, Nat.le_of_ble_eq_true rfl⟩ (fun r_2 u_3 H locs hw_1 hP hD hS => ?_)
  obtain rfl : r_2 = wr (bY f) n8 4097 c9 1 := hw_1
  refine lv_istore_n (lv' := [(1, .int (wr (bY f) n8 4097 c9 1)), (0, .ref h)]) hx hb dX0_skip_8 rfl hl (by decide) rfl (fun ls hl => ?_)
  refine lv_iload_n hx hb dX0_skip_9 rfl (lv_at hl 0 rfl) ?_
  refine lv_if_ge (tgt := 15) hx hb dX0_skip_10 (by decide) (fun c_4 => ?_) (fun c_4 => ?_)
  · skip
    have q1 : ¬ wr (bY f) n8 4097 c9 1 < 0 := Int32.not_lt.mpr c_4
    have q2 := wk_end (bY_lt f) hn8 hc9 q1
    refine lv_aload_n hx hb dX0_skip_15 rfl (lv_at hl 1 rfl) ?_
    refine va_get (D := (dC, dI)) (ci := 0) (v := .int (nI c9)) (C := RX0) (T := TX0) (N := 6) hx hb hts hin0 hown hK hP 0 rfl rfl 2 (by decide) fl17 (fun _ h9 => h9) rfl dX0_skip_16 ?_
    refine lv_istore_n (lv' := [(2, .int (nI c9)), (1, .int (wr (bY f) n8 4097 c9 1)), (0, .ref h)]) hx hb dX0_skip_19 rfl hl (by decide) rfl (fun ls hl => ?_)
    refine lv_aload_n hx hb dX0_skip_20 rfl (lv_at hl 2 rfl) ?_
    refine gvv (As := []) (rest := []) ⟨hx, hb, hml, hown, hts⟩ (c_X0_countChild l dC dI tk tw h a b cB cJ _ f g (nI n8) (nI c9) zg k9 hk9) (cwV 0 hts gX0_skip_X0_countChild rfl rfl rfl (by decide +kernel) ⟨Nat.le_of_ble_eq_true rfl, Nat.le_of_ble_eq_true rfl⟩) hK hP hD hS hA hZ (q0 := 0) (ci := 0) rfl rfl rfl rfl hl.1 rfl (Nat.le_of_ble_eq_true rfl) dX0_skip_21 ⟨Nat.le_of_ble_eq_true rfl, Nat.le_of_ble_eq_true rfl⟩ (fun u_7 H locs hw_5 hP hD hS => ?_)
    have hP : va_P (dC, dI) vwCl (w0 h a b cB cJ f (cc1 g k9) (nI n8) (nI c9) zg (nI k9)) H := hP
    have hD : va_D A (w0 h a b cB cJ f (cc1 g k9) (nI n8) (nI c9) zg (nI k9)) := hD
    refine lv_aload_n hx hb dX0_skip_24 rfl (lv_at hl 2 rfl) ?_
    refine gvv (As := []) (rest := []) ⟨hx, hb, hml, hown, hts⟩ (c_X0_closeFinished l dC dI tk tw h a b cB cJ _ f (cc1 g k9) (nI n8) (nI c9) zg k9 hk9) (cwV 0 hts gX0_skip_X0_closeFinished rfl rfl rfl (by decide +kernel) ⟨Nat.le_of_ble_eq_true rfl, Nat.le_of_ble_eq_true rfl⟩) hK hP hD hS hA hZ (q0 := 0) (ci := 0) rfl rfl rfl rfl hl.1 rfl (Nat.le_of_ble_eq_true rfl) dX0_skip_25 ⟨Nat.le_of_ble_eq_true rfl, Nat.le_of_ble_eq_true rfl⟩ (fun u_10 H locs hw_8 hP hD hS => ?_)
    have hP : va_P (dC, dI) vwCl (w0 h a b cB cJ f (cc1 g k9) (nI n8) (nI c9) zg (nI (cl (cc1 g k9) k9))) H := hP
    have hD : va_D A (w0 h a b cB cJ f (cc1 g k9) (nI n8) (nI c9) zg (nI (cl (cc1 g k9) k9))) := hD
    refine lv_aload_n hx hb dX0_skip_28 rfl (lv_at hl 2 rfl) ?_
    refine lv_iload_n hx hb dX0_skip_29 rfl (lv_at hl 1 rfl) ?_
    have e_13 : (wr (bY f) n8 4097 c9 1 : Int32) = nI (wk (bY f) n8 4097 c9 1).2 := q2.1
    rw [e_13]
    refine gvv (As := [.int (nI (wk (bY f) n8 4097 c9 1).2)]) (rest := []) ⟨hx, hb, hml, hown, hts⟩ (c_X0_consume l dC dI tk tw h a b cB cJ _ f (cc1 g k9) (nI n8) (nI c9) zg (nI (cl (cc1 g k9) k9)) (wk (bY f) n8 4097 c9 1).2 q2.2.2.1) (cwV 1 hts gX0_skip_X0_consume rfl rfl rfl (by decide +kernel) ⟨Nat.le_of_ble_eq_true rfl, Nat.le_of_ble_eq_true rfl⟩) hK hP hD hS hA hZ (q0 := 0) (ci := 0) rfl rfl rfl rfl hl.1 rfl (Nat.le_of_ble_eq_true rfl) dX0_skip_30 ⟨Nat.le_of_ble_eq_true rfl, Nat.le_of_ble_eq_true rfl⟩ (fun u_14 H locs hw_11 hP hD hS => ?_)
    have hP : va_P (dC, dI) vwCl (w0 h a b cB cJ f (cc1 g k9) (nI n8) (nI (wk (bY f) n8 4097 c9 1).2 + nI (hd (bY f (wk (bY f) n8 4097 c9 1).2)) + pl (bY f) (wk (bY f) n8 4097 c9 1).2) (nI (wk (bY f) n8 4097 c9 1).2) (nI (cl (cc1 g k9) k9))) H := hP
    have hD : va_D A (w0 h a b cB cJ f (cc1 g k9) (nI n8) (nI (wk (bY f) n8 4097 c9 1).2 + nI (hd (bY f (wk (bY f) n8 4097 c9 1).2)) + pl (bY f) (wk (bY f) n8 4097 c9 1).2) (nI (wk (bY f) n8 4097 c9 1).2) (nI (cl (cc1 g k9) k9))) := hD
    refine lv_aload_n hx hb dX0_skip_33 rfl (lv_at hl 2 rfl) ?_
    refine va_get (D := (dC, dI)) (ci := 0) (v := .int (nI (wk (bY f) n8 4097 c9 1).2 + nI (hd (bY f (wk (bY f) n8 4097 c9 1).2)) + pl (bY f) (wk (bY f) n8 4097 c9 1).2)) (C := RX0) (T := TX0) (N := 6) hx hb hts hin0 hown hK hP 0 rfl rfl 2 (by decide) fl17 (fun _ h9 => h9) rfl dX0_skip_34 ?_
    refine lv_iload_n hx hb dX0_skip_37 rfl (lv_at hl 0 rfl) ?_
    refine lv_isub hx hb dX0_skip_38 ?_
    have hP9 : va_P (dC, dI) vwCl ((fun (u : (Nat → Int64) × Int32 × Int32 × Int32) => w0 h a b cB cJ f u.1 (nI n8) u.2.1 u.2.2.1 u.2.2.2) ((cc1 g k9, nI (wk (bY f) n8 4097 c9 1).2 + nI (hd (bY f (wk (bY f) n8 4097 c9 1).2)) + pl (bY f) (wk (bY f) n8 4097 c9 1).2, nI (wk (bY f) n8 4097 c9 1).2, nI (cl (cc1 g k9) k9)))) H := hP
    have hD9 : va_D A ((fun (u : (Nat → Int64) × Int32 × Int32 × Int32) => w0 h a b cB cJ f u.1 (nI n8) u.2.1 u.2.2.1 u.2.2.2) ((cc1 g k9, nI (wk (bY f) n8 4097 c9 1).2 + nI (hd (bY f (wk (bY f) n8 4097 c9 1).2)) + pl (bY f) (wk (bY f) n8 4097 c9 1).2, nI (wk (bY f) n8 4097 c9 1).2, nI (cl (cc1 g k9) k9)))) := hD
    exact W.iret (v := (nI (wk (bY f) n8 4097 c9 1).2 + nI (hd (bY f (wk (bY f) n8 4097 c9 1).2)) + pl (bY f) (wk (bY f) n8 4097 c9 1).2) - (nI c9)) hx hb hr (fun t ht hW => ⟨⟨(nI (wk (bY f) n8 4097 c9 1).2 + nI (hd (bY f (wk (bY f) n8 4097 c9 1).2)) + pl (bY f) (wk (bY f) n8 4097 c9 1).2) - (nI c9), (cc1 g k9, nI (wk (bY f) n8 4097 c9 1).2 + nI (hd (bY f (wk (bY f) n8 4097 c9 1).2)) + pl (bY f) (wk (bY f) n8 4097 c9 1).2, nI (wk (bY f) n8 4097 c9 1).2, nI (cl (cc1 g k9) k9)), rfl, (Or.inr ⟨q1, by rw [q2.2.2.2.1], by rw [q2.2.2.2.1]⟩), by rw [ht]; exact hP9, va_K.moved hW.alike hK, hD9⟩, hS.F ht⟩) hS.2.2 dX0_skip_39
  · skip
    refine lv_iload_n hx hb dX0_skip_13 rfl (lv_at hl 0 rfl) ?_
    have hP9 : va_P (dC, dI) vwCl ((fun (u : (Nat → Int64) × Int32 × Int32 × Int32) => w0 h a b cB cJ f u.1 (nI n8) u.2.1 u.2.2.1 u.2.2.2) ((g, nI c9, zg, nI k9))) H := hP
    have hD9 : va_D A ((fun (u : (Nat → Int64) × Int32 × Int32 × Int32) => w0 h a b cB cJ f u.1 (nI n8) u.2.1 u.2.2.1 u.2.2.2) ((g, nI c9, zg, nI k9))) := hD
    exact W.iret (v := wr (bY f) n8 4097 c9 1) hx hb hr (fun t ht hW => ⟨⟨wr (bY f) n8 4097 c9 1, (g, nI c9, zg, nI k9), rfl, (Or.inl ⟨Int32.not_le.mp c_4, rfl, rfl⟩), by rw [ht]; exact hP9, va_K.moved hW.alike hK, hD9⟩, hS.F ht⟩) hS.2.2 dX0_skip_14
