set_option maxHeartbeats 4000000 in
set_option maxRecDepth 100000 in
theorem c_X0_lastHeadFrom (l : Launch) (dC : Nat → ClassId) (dI : Nat → Nat → Nat) (tk tw : Nat) (h a b : Nat) (cB cJ : ClassId) (sz : Nat) (f : Nat → Int32) (g : Nat → Int64) (zc : Int32) (zg : Int32) (zo : Int32) (n8 a9 : Nat) (hn8 : n8 ≤ 4096) (h9 : a9 ≤ 4096) : Met l yX0_lastHeadFrom wsX0_lastHeadFrom ({ frames := 5, cells := 0, slots := 0, locals := 116 }) (va_Pc [.ref h, .int (nI a9)] (pr dC dI (t0 cB cJ) (w0 h a b cB cJ f g (nI n8) zc zg zo) sz tk tw)) (va_Qi (fun (r : Int32) (_ : Unit) => r = wr (bY f) n8 4097 a9 1) (fun (_ : Unit) => po dC dI (t0 cB cJ) (va_A (w0 h a b cB cJ f g (nI n8) zc zg zo) sz) (w0 h a b cB cJ f g (nI n8) zc zg zo)) (va_A (w0 h a b cB cJ f g (nI n8) zc zg zo) sz)) 0 0 (va_A (w0 h a b cB cJ f g (nI n8) zc zg zo) sz) := by
  refine Met.ofW (cc := cX0_lastHeadFrom) (maxL := 7) (ret := (some .int)) (by decide) rfl ?_
  intro p e s m args below meth c s₁ Bd hml hv
  obtain ⟨rfl, hsz, hP, hK, hD0, hZ⟩ := hv
  have hx := Bd.exec
  have hb := Bd.bytes
  have hr := Bd.returns
  have hts := atoms_spec (ws := wsX0_lastHeadFrom) Bd.pre
  have hown : s.vm.findClass RX0 = some m.cls := findClass_of_methodNamed Bd.named
  have hlocks := Bd.notSynchronized
  subst hsz
  have hD := hD0.self (sz := s.heap.size)
  generalize hAe : va_A (w0 h a b cB cJ f g (nI n8) zc zg zo) s.heap.size = A at hD hZ ⊢
  have hA : ∀ q : Nat, s.heap.size ≤ q → A q := fun q h => by rw [← hAe]; exact Or.inr h
  have hS : va_S A s.heap s.heap [] := va_S.rf
  have hP : va_P (dC, dI) vwCl (w0 h a b cB cJ f g (nI n8) zc zg zo) s.heap := hP
  have hl := lv_entry ([.ref h, .int (nI a9)]) (n := 7) (Nat.le_of_ble_eq_true rfl)
  rw [lg_entry_eq]
  generalize (lg_sl ([.ref h, .int (nI a9)]) ++ List.replicate (7 - (lg_sl ([.ref h, .int (nI a9)])).length) Slot.unset).toArray = ls at hl ⊢
  have hl : lv_has ls 7 [(0, .ref h), (1, .int (nI a9))] := hl
  refine lv_iload_n hx hb dX0_lastHeadFrom_0 rfl (lv_at hl 1 rfl) ?_
  refine lv_istore_n (lv' := [(2, .int (nI a9)), (0, .ref h), (1, .int (nI a9))]) hx hb dX0_lastHeadFrom_1 rfl hl (by decide) rfl (fun ls hl => ?_)
  refine lv_lconst (v := 1) hx hb dX0_lastHeadFrom_2 (by decide) ?_
  refine lv_lstore_n (lv' := [(3, .long 1), (2, .int (nI a9)), (0, .ref h), (1, .int (nI a9))]) hx hb dX0_lastHeadFrom_3 rfl hl (by decide) rfl (fun ls hl => ?_)
  refine lv_iconst (v := 0) hx hb dX0_lastHeadFrom_4 (by decide) ?_
  refine lv_istore (lv' := [(5, .int 0), (3, .long 1), (2, .int (nI a9)), (0, .ref h), (1, .int (nI a9))]) hx hb dX0_lastHeadFrom_5 hl (by decide) rfl (fun ls hl => ?_)
  have loop7 : ∀ (fz : Nat) (q i x : Nat) (d : Int64), q < fz → i + q = 4097 → x ≤ 4096 → wr (bY f) n8 q x d = wr (bY f) n8 4097 a9 1 → ∀ (H : Heap) (locs : List Loc), va_P (dC, dI) vwCl (w0 h a b cB cJ f g (nI n8) zc zg zo) H → va_D A (w0 h a b cB cJ f g (nI n8) zc zg zo) → va_S A s.heap H locs → ∀ ls : Array Slot, lv_has ls 7 [(0, .ref h), (1, .int (nI a9)), (2, .int (nI x)), (3, .long d), (5, .int (nI i))] → W p l e (headSpec wsX0_lastHeadFrom ({ frames := 5, cells := 0, slots := 0, locals := 116 })).room s m ([.ref h, .int (nI a9)]).toArray below meth c H locs 0 0 (MQ below (va_Qi (fun (r : Int32) (_ : Unit) => r = wr (bY f) n8 4097 a9 1) (fun (_ : Unit) => po dC dI (t0 cB cJ) A (w0 h a b cB cJ f g (nI n8) zc zg zo)) A) ([.ref h, .int (nI a9)]).toArray s 0 0 A) (F0 m 7 ls []) := by
    intro fz
    induction fz with
    | zero =>
      intro q i x d hq hi hx9 hw9 H locs hP hD hS ls hl
      exact absurd hq (Nat.not_lt_zero _)
    | succ fz ih =>
      intro q i x d hq hi hx9 hw9 H locs hP hD hS ls hl
      refine lv_iload hx hb dX0_lastHeadFrom_7 (lv_at hl 4 rfl) ?_
      refine lv_sipush (v := 4096) hx hb dX0_lastHeadFrom_9 (by decide) ?_
      refine lv_icmp_gt (tgt := 60) hx hb dX0_lastHeadFrom_12 (by decide) (fun c_1 => ?_) (fun c_1 => ?_)
      · skip
        have hq0 : q = 0 := by have z := (nI_ltI (a := 4096) (b := i) (by decide) (by omega)).mp c_1; omega
        refine lv_bipush (v := -2) hx hb dX0_lastHeadFrom_60 (by decide) ?_
        exact W.iret (v := -2) hx hb hr (fun t ht hW => ⟨⟨-2, (), rfl, (by rw [← hw9, hq0]; exact wr_0.symm), by rw [ht]; exact hP, va_K.moved hW.alike hK, hD⟩, hS.F ht⟩) hS.2.2 dX0_lastHeadFrom_62
      · skip
        obtain ⟨t, ht9⟩ : ∃ t, q = t + 1 := ⟨q - 1, by have z := (not_congr (nI_ltI (a := 4096) (b := i) (by decide) (by omega))).mp c_1; omega⟩
        refine lv_aload_n hx hb dX0_lastHeadFrom_15 rfl (lv_at hl 0 rfl) ?_
        refine lv_iload_n hx hb dX0_lastHeadFrom_16 rfl (lv_at hl 2 rfl) ?_
        refine gvi (As := [.int (nI x)]) (rest := []) ⟨hx, hb, hml, hown, hts⟩ (c_X0_lookAt l dC dI tk tw h a b cB cJ _ f g zc zg zo n8 x hn8 hx9) (cwV 1 hts gX0_lastHeadFrom_X0_lookAt rfl rfl rfl (by decide +kernel) ⟨Nat.le_of_ble_eq_true rfl, Nat.le_of_ble_eq_true rfl⟩) hK hP hD hS hA hZ (q0 := 0) (ci := 0) rfl rfl rfl rfl hl.1 rfl (Nat.le_of_ble_eq_true rfl) dX0_lastHeadFrom_17 ⟨Nat.le_of_ble_eq_true rfl, Nat.le_of_ble_eq_true rfl⟩ (fun r_3 u_4 H locs hw_2 hP hD hS => ?_)
        obtain rfl : r_3 = lkS (bY f) n8 x := hw_2
        refine lv_istore (lv' := [(6, .int (lkS (bY f) n8 x)), (0, .ref h), (1, .int (nI a9)), (2, .int (nI x)), (3, .long d), (5, .int (nI i))]) hx hb dX0_lastHeadFrom_20 hl (by decide) rfl (fun ls hl => ?_)
        refine lv_iload hx hb dX0_lastHeadFrom_22 (lv_at hl 0 rfl) ?_
        refine lv_if_ge (tgt := 30) hx hb dX0_lastHeadFrom_24 (by decide) (fun c_5 => ?_) (fun c_5 => ?_)
        · skip
          have c_5x : ¬ lkS (bY f) n8 x < 0 := Int32.not_lt.mpr c_5
          have c_5 := c_5x
          have q2 := nx_eq (bY_lt f) hn8 hx9 c_5
          refine lv_lload_n hx hb dX0_lastHeadFrom_30 rfl (lv_at hl 4 rfl) ?_
          refine lv_aload_n hx hb dX0_lastHeadFrom_31 rfl (lv_at hl 1 rfl) ?_
          refine lv_iload_n hx hb dX0_lastHeadFrom_32 rfl (lv_at hl 3 rfl) ?_
          refine gvl (As := [.int (nI x)]) (rest := [.long d]) ⟨hx, hb, hml, hown, hts⟩ (c_X0_childrenAt l dC dI tk tw h a b cB cJ _ f g (nI n8) zc zg zo x (by have := q2.2.2.2; omega)) (cwV 1 hts gX0_lastHeadFrom_X0_childrenAt rfl rfl rfl (by decide +kernel) ⟨Nat.le_of_ble_eq_true rfl, Nat.le_of_ble_eq_true rfl⟩) hK hP hD hS hA hZ (q0 := 0) (ci := 0) rfl rfl rfl rfl hl.1 rfl (Nat.le_of_ble_eq_true rfl) dX0_lastHeadFrom_33 ⟨Nat.le_of_ble_eq_true rfl, Nat.le_of_ble_eq_true rfl⟩ (fun r_7 u_8 H locs hw_6 hP hD hS => ?_)
          obtain rfl : r_7 = ch (bY f) x := hw_6
          refine lv_lconst (v := 1) hx hb dX0_lastHeadFrom_36 (by decide) ?_
          refine lv_lsub hx hb dX0_lastHeadFrom_37 ?_
          refine lv_ladd hx hb dX0_lastHeadFrom_38 ?_
          refine lv_lstore_n (lv' := [(3, .long (d + ((ch (bY f) x) - 1))), (6, .int (lkS (bY f) n8 x)), (0, .ref h), (1, .int (nI a9)), (2, .int (nI x)), (5, .int (nI i))]) hx hb dX0_lastHeadFrom_39 rfl hl (by decide) rfl (fun ls hl => ?_)
          refine lv_lload_n hx hb dX0_lastHeadFrom_40 rfl (lv_at hl 0 rfl) ?_
          refine lv_lconst (v := 0) hx hb dX0_lastHeadFrom_41 (by decide) ?_
          refine W.lcmp hx hb dX0_lastHeadFrom_42 ?_
          refine lv_if_ne (tgt := 48) hx hb dX0_lastHeadFrom_43 (by decide) (fun c_9 => ?_) (fun c_9 => ?_)
          · skip
            have c_9 := (not_congr (lg_cmp_eq (d + ((ch (bY f) x) - 1)) (0 : Int64))).mp c_9
            refine lv_aload_n hx hb dX0_lastHeadFrom_48 rfl (lv_at hl 2 rfl) ?_
            refine lv_iload_n hx hb dX0_lastHeadFrom_49 rfl (lv_at hl 4 rfl) ?_
            refine gvi (As := [.int (nI x)]) (rest := []) ⟨hx, hb, hml, hown, hts⟩ (c_X0_endAt l dC dI tk tw h a b cB cJ _ f g (nI n8) zc zg zo x (by have := q2.2.2.2; omega)) (cwV 1 hts gX0_lastHeadFrom_X0_endAt rfl rfl rfl (by decide +kernel) ⟨Nat.le_of_ble_eq_true rfl, Nat.le_of_ble_eq_true rfl⟩) hK hP hD hS hA hZ (q0 := 0) (ci := 0) rfl rfl rfl rfl hl.1 rfl (Nat.le_of_ble_eq_true rfl) dX0_lastHeadFrom_50 ⟨Nat.le_of_ble_eq_true rfl, Nat.le_of_ble_eq_true rfl⟩ (fun r_11 u_12 H locs hw_10 hP hD hS => ?_)
            obtain rfl : r_11 = nI (nx (bY f) x) := hw_10.trans q2.1
            refine lv_istore_n (lv' := [(2, .int (nI (nx (bY f) x))), (3, .long (d + ((ch (bY f) x) - 1))), (6, .int (lkS (bY f) n8 x)), (0, .ref h), (1, .int (nI a9)), (5, .int (nI i))]) hx hb dX0_lastHeadFrom_53 rfl hl (by decide) rfl (fun ls hl => ?_)
            refine lv_iinc (v := nI (i + 1)) (lv' := [(5, .int (nI (i + 1))), (2, .int (nI (nx (bY f) x))), (3, .long (d + ((ch (bY f) x) - 1))), (6, .int (lkS (bY f) n8 x)), (0, .ref h), (1, .int (nI a9))]) hx hb dX0_lastHeadFrom_54 hl (k := 5) rfl (nI_1 i) (by decide) rfl (fun ls hl => ?_)
            refine lv_goto (tgt := 7) hx hb dX0_lastHeadFrom_57 (by decide) ?_
            exact ih t (i + 1) (nx (bY f) x) _ (by omega) (by omega) (by have := q2.2.1; omega) (by rw [← hw9, ht9]; exact (wr_next c_5 c_9).symm) _ _ hP hD hS ls (lv_sub hl [4, 5, 1, 2, 0] rfl)
          · skip
            have c_9 := (lg_cmp_eq (d + ((ch (bY f) x) - 1)) (0 : Int64)).mp c_9
            refine lv_iload_n hx hb dX0_lastHeadFrom_46 rfl (lv_at hl 4 rfl) ?_
            exact W.iret (v := nI x) hx hb hr (fun t ht hW => ⟨⟨nI x, (), rfl, (by rw [← hw9, ht9]; exact (wr_end c_5 c_9).symm), by rw [ht]; exact hP, va_K.moved hW.alike hK, hD⟩, hS.F ht⟩) hS.2.2 dX0_lastHeadFrom_47
        · skip
          refine lv_iload hx hb dX0_lastHeadFrom_27 (lv_at hl 0 rfl) ?_
          exact W.iret (v := lkS (bY f) n8 x) hx hb hr (fun t ht hW => ⟨⟨lkS (bY f) n8 x, (), rfl, (by rw [← hw9, ht9]; exact (wr_neg (Int32.not_le.mp c_5)).symm), by rw [ht]; exact hP, va_K.moved hW.alike hK, hD⟩, hS.F ht⟩) hS.2.2 dX0_lastHeadFrom_29
  exact loop7 (4097 + 1) 4097 0 a9 1 (by omega) rfl h9 rfl _ _ hP hD hS ls (lv_sub hl [3, 4, 2, 1, 0] rfl)
