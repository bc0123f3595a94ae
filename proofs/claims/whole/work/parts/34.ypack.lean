set_option maxHeartbeats 4000000 in
set_option maxRecDepth 100000 in
theorem c_X1_pack_9 (l : Launch) (dC : Nat → ClassId) (dI : Nat → Nat → Nat) (tk tw : Nat) (h a b : Nat) (cI cJ : ClassId) (sz : Nat) (f : Nat → Int32) (g : Nat → Int64) (zt : Int32) (zc : Int32) (zso : Int32) (znu : Int64) (zty : Int32) (zhd : Int32) (zpa : Int64) (zch : Int64) (zlk : Int32) (zlo : Int32) (zhi : Int32) (zlp : Int32) (zll : Int32) (zlv : Int32) (n8 : Nat) (lo hi : Int32) (h8 : ¬ lo < 0) (hr8 : n8 + phL (pk9 lo hi) ≤ 4096) : Met l yX1_pack wsX1_pack ({ frames := 2, cells := 0, slots := 0, locals := 49 }) (va_Pc [.ref h, .int 9, .int lo, .int hi] (pr dC dI (t1 cI cJ) (w1 h a b cI cJ f g zt (nI n8) zc zso znu zty zhd zpa zch zlk zlo zhi zlp zll zlv) sz tk tw)) (va_Qi (fun (r : Int32) (_ : Unit) => r = nI (phL (pk9 lo hi))) (fun (_ : Unit) => po dC dI (t1 cI cJ) (va_A (w1 h a b cI cJ f g zt (nI n8) zc zso znu zty zhd zpa zch zlk zlo zhi zlp zll zlv) sz) (w1 h a b cI cJ (phF f n8 (pk9 lo hi)) g 0 (nI (n8 + phL (pk9 lo hi))) zc zso znu zty zhd zpa zch zlk zlo zhi zlp zll zlv)) (va_A (w1 h a b cI cJ f g zt (nI n8) zc zso znu zty zhd zpa zch zlk zlo zhi zlp zll zlv) sz)) 0 0 (va_A (w1 h a b cI cJ f g zt (nI n8) zc zso znu zty zhd zpa zch zlk zlo zhi zlp zll zlv) sz) := by
  refine Met.ofW (cc := cX1_pack) (maxL := 11) (ret := (some .int)) (by decide) rfl ?_
  intro p e s m args below meth c s₁ Bd hml hv
  obtain ⟨rfl, hsz, hP, hK, hD0, hZ⟩ := hv
  have hx := Bd.exec
  have hb := Bd.bytes
  have hr := Bd.returns
  have hts := atoms_spec (ws := wsX1_pack) Bd.pre
  have hown : s.vm.findClass RX1 = some m.cls := findClass_of_methodNamed Bd.named
  have hlocks := Bd.notSynchronized
  subst hsz
  have hD := hD0.self (sz := s.heap.size)
  generalize hAe : va_A (w1 h a b cI cJ f g zt (nI n8) zc zso znu zty zhd zpa zch zlk zlo zhi zlp zll zlv) s.heap.size = A at hD hZ ⊢
  have hA : ∀ q : Nat, s.heap.size ≤ q → A q := fun q h => by rw [← hAe]; exact Or.inr h
  have hS : va_S A s.heap s.heap [] := va_S.rf
  have hP : va_P (dC, dI) vwCl (w1 h a b cI cJ f g zt (nI n8) zc zso znu zty zhd zpa zch zlk zlo zhi zlp zll zlv) s.heap := hP
  have hin0 : ∀ w ∈ wsX10, w ∈ wsX1_pack := by decide +kernel
  have fl21 := hts (.fieldLink RX1 21 "MessageReaderModel" "thrown" "I") (by decide +kernel)
  have hl := lv_entry ([.ref h, .int 9, .int lo, .int hi]) (n := 11) (Nat.le_of_ble_eq_true rfl)
  rw [lg_entry_eq]
  generalize (lg_sl ([.ref h, .int 9, .int lo, .int hi]) ++ List.replicate (11 - (lg_sl ([.ref h, .int 9, .int lo, .int hi])).length) Slot.unset).toArray = ls at hl ⊢
  have hl : lv_has ls 11 [(0, .ref h), (1, .int 9), (2, .int lo), (3, .int hi)] := hl
  refine lv_aload_n hx hb dX1_pack_0 rfl (lv_at hl 0 rfl) ?_
  refine lv_iconst (v := 0) hx hb dX1_pack_1 (by decide) ?_
  refine va_put (D := (dC, dI)) (ci := 1) (v := .int 0) (ty := .int) (C := RX1) (T := TX1) (N := 17) hx hb hts hin0 tyX1 tyX1_ok nmX1 hown hK hP hD hS 0 rfl rfl 0 (by decide) fl21 (fun _ h9 => h9) rfl (by decide +kernel) rfl rfl (Nat.le_of_ble_eq_true rfl) dX1_pack_2 (fun H locs hP hD hS => ?_)
  have hP : va_P (dC, dI) vwCl (w1 h a b cI cJ f g 0 (nI n8) zc zso znu zty zhd zpa zch zlk zlo zhi zlp zll zlv) H := hP
  have hD : va_D A (w1 h a b cI cJ f g 0 (nI n8) zc zso znu zty zhd zpa zch zlk zlo zhi zlp zll zlv) := hD
  refine lv_iload_n hx hb dX1_pack_5 rfl (lv_at hl 1 rfl) ?_
  refine lv_if_le (tgt := 47) hx hb dX1_pack_6 (by decide) (fun c_1 => ?_) (fun c_1 => ?_)
  · skip
    exact absurd c_1 (by decide)
  · skip
    refine lv_iload_n hx hb dX1_pack_9 rfl (lv_at hl 1 rfl) ?_
    refine lv_bipush (v := 13) hx hb dX1_pack_10 (by decide) ?_
    refine lv_icmp_ge (tgt := 47) hx hb dX1_pack_12 (by decide) (fun c_2 => ?_) (fun c_2 => ?_)
    · skip
      exact absurd c_2 (by decide)
    · skip
      refine lv_iload_n hx hb dX1_pack_15 rfl (lv_at hl 1 rfl) ?_
      refine lv_bipush (v := 8) hx hb dX1_pack_16 (by decide) ?_
      refine lv_icmp_lt (tgt := 25) hx hb dX1_pack_18 (by decide) (fun c_3 => ?_) (fun c_3 => ?_)
      · skip
        exact absurd c_3 (by decide)
      · skip
        refine lv_iload_n hx hb dX1_pack_21 rfl (lv_at hl 2 rfl) ?_
        refine lv_if_lt (tgt := 47) hx hb dX1_pack_22 (by decide) (fun c_4 => ?_) (fun c_4 => ?_)
        · skip
          exact absurd c_4 h8
        · skip
          refine lv_iload_n hx hb dX1_pack_25 rfl (lv_at hl 1 rfl) ?_
          refine lv_bipush (v := 12) hx hb dX1_pack_26 (by decide) ?_
          refine lv_icmp_ne (tgt := 43) hx hb dX1_pack_28 (by decide) (fun c_5 => ?_) (fun c_5 => ?_)
          · skip
            refine lv_iconst (v := 1) hx hb dX1_pack_43 (by decide) ?_
            refine lv_goto (tgt := 48) hx hb dX1_pack_44 (by decide) ?_
            refine lv_istore (lv' := [(4, .int 1), (0, .ref h), (1, .int 9), (2, .int lo), (3, .int hi)]) hx hb dX1_pack_48 hl (by decide) rfl (fun ls hl => ?_)
            refine lv_aload_n hx hb dX1_pack_50 rfl (lv_at hl 1 rfl) ?_
            refine lv_iload hx hb dX1_pack_51 (lv_at hl 0 rfl) ?_
            refine lv_if_ne (tgt := 60) hx hb dX1_pack_53 (by decide) (fun c_6 => ?_) (fun c_6 => ?_)
            · skip
              refine lv_iconst (v := 0) hx hb dX1_pack_60 (by decide) ?_
              refine lv_iconst (v := 1) hx hb dX1_pack_61 (by decide) ?_
              refine gvi (As := [.int 0, .int 1]) (rest := []) ⟨hx, hb, hml, hown, hts⟩ (c_X1_fails l dC dI tk tw h a b cI cJ _ f g 0 (nI n8) zc zso znu zty zhd zpa zch zlk zlo zhi zlp zll zlv 0 1) (cwV 2 hts gX1_pack_X1_fails rfl rfl rfl (by decide +kernel) ⟨Nat.le_of_ble_eq_true rfl, Nat.le_of_ble_eq_true rfl⟩) hK hP hD hS hA hZ (q0 := 0) (ci := 1) rfl rfl rfl rfl hl.1 rfl (Nat.le_of_ble_eq_true rfl) dX1_pack_62 ⟨Nat.le_of_ble_eq_true rfl, Nat.le_of_ble_eq_true rfl⟩ (fun r_8 u_9 H locs hw_7 hP hD hS => ?_)
              obtain rfl : u_9 = 0 := hw_7.1.trans (by decide)
              have hP : va_P (dC, dI) vwCl (w1 h a b cI cJ f g 0 (nI n8) zc zso znu zty zhd zpa zch zlk zlo zhi zlp zll zlv) H := hP
              have hD : va_D A (w1 h a b cI cJ f g 0 (nI n8) zc zso znu zty zhd zpa zch zlk zlo zhi zlp zll zlv) := hD
              obtain rfl : r_8 = 0 := hw_7.2.trans (by decide)
              refine lv_if_eq (tgt := 70) hx hb dX1_pack_65 (by decide) (fun c_10 => ?_) (fun c_10 => ?_)
              · skip
                refine lv_iload_n hx hb dX1_pack_70 rfl (lv_at hl 4 rfl) ?_
                refine lv_i2l hx hb dX1_pack_71 rfl ?_
                refine lv_bipush (v := 32) hx hb dX1_pack_72 (by decide) ?_
                refine lv_lshl hx hb dX1_pack_74 rfl ?_
                refine lv_iload_n hx hb dX1_pack_75 rfl (lv_at hl 3 rfl) ?_
                refine lv_i2l hx hb dX1_pack_76 rfl ?_
                refine lv_ldc2 (v := 4294967295) hx hb hown (hts (.constantLong RX1 118 (4294967295)) (by decide +kernel)) dX1_pack_77 ?_
                refine lv_land hx hb dX1_pack_80 ?_
                refine lv_lor hx hb dX1_pack_81 ?_
                have e_11 : ((hi.toInt64 <<< ((32 : Int32).toInt64 &&& 63)) ||| (lo.toInt64 &&& 4294967295) : Int64) = bo lo hi := rfl
                rw [e_11]
                refine lv_lstore (lv' := [(5, .long (bo lo hi)), (4, .int 1), (0, .ref h), (1, .int 9), (2, .int lo), (3, .int hi)]) hx hb dX1_pack_82 hl (by decide) rfl (fun ls hl => ?_)
                refine lv_iload_n hx hb dX1_pack_84 rfl (lv_at hl 3 rfl) ?_
                refine lv_bipush (v := 7) hx hb dX1_pack_85 (by decide) ?_
                refine lv_icmp_le (tgt := 98) hx hb dX1_pack_87 (by decide) (fun c_12 => ?_) (fun c_12 => ?_)
                · skip
                  exact absurd c_12 (by decide)
                · skip
                  refine lv_iload_n hx hb dX1_pack_90 rfl (lv_at hl 4 rfl) ?_
                  refine lv_i2l hx hb dX1_pack_91 rfl ?_
                  refine gsi (As := [.long lo.toInt64]) (rest := []) ⟨hx, hb, hml, hown, hts⟩ (c_X1_needs l dC dI tk tw _ lo.toInt64) (va_cwS 1 hts gX1_pack_X1_needs rfl rfl rfl (by decide +kernel) ⟨Nat.le_of_ble_eq_true rfl, Nat.le_of_ble_eq_true rfl⟩) hP hS hA hZ rfl hl.1 rfl (Nat.le_of_ble_eq_true rfl) dX1_pack_92 ⟨Nat.le_of_ble_eq_true rfl, Nat.le_of_ble_eq_true rfl⟩ (fun r_14 H locs hw_13 hP hS => ?_)
                  obtain rfl : r_14 = nI (ndN lo.toInt64) := hw_13
                  refine lv_goto (tgt := 99) hx hb dX1_pack_95 (by decide) ?_
                  refine lv_istore (lv' := [(7, .int (nI (ndN lo.toInt64))), (5, .long (bo lo hi)), (4, .int 1), (0, .ref h), (1, .int 9), (2, .int lo), (3, .int hi)]) hx hb dX1_pack_99 hl (by decide) rfl (fun ls hl => ?_)
                  refine lv_iload_n hx hb dX1_pack_101 rfl (lv_at hl 4 rfl) ?_
                  refine lv_tableIn (tgt := 349) hx hb dX1_pack_102 (by decide) (by decide) rfl (by decide) ?_
                  refine lv_aload_n hx hb dX1_pack_349 rfl (lv_at hl 3 rfl) ?_
                  refine lv_sipush (v := 196) hx hb dX1_pack_350 (by decide) ?_
                  refine lv_iload hx hb dX1_pack_353 (lv_at hl 0 rfl) ?_
                  refine gsi (As := [.int (nI (ndN lo.toInt64))]) (rest := [.int 196, .ref h]) ⟨hx, hb, hml, hown, hts⟩ (c_X1_log l dC dI tk tw _ (ndN lo.toInt64) (Nat.le_trans (ndN_le _) (by decide))) (va_cwS 1 hts gX1_pack_X1_log rfl rfl rfl (by decide +kernel) ⟨Nat.le_of_ble_eq_true rfl, Nat.le_of_ble_eq_true rfl⟩) hP hS hA hZ rfl hl.1 rfl (Nat.le_of_ble_eq_true rfl) dX1_pack_355 ⟨Nat.le_of_ble_eq_true rfl, Nat.le_of_ble_eq_true rfl⟩ (fun r_16 H locs hw_15 hP hS => ?_)
                  obtain rfl : r_16 = nI (lgN (ndN lo.toInt64)) := hw_15
                  refine lv_iadd hx hb dX1_pack_358 ?_
                  refine lv_iload hx hb dX1_pack_359 (lv_at hl 0 rfl) ?_
                  refine lv_iload_n hx hb dX1_pack_361 rfl (lv_at hl 5 rfl) ?_
                  refine lv_i2l hx hb dX1_pack_362 rfl ?_
                  refine lv_iconst (v := -1) hx hb dX1_pack_363 (by decide) ?_
                  have hT : pk9 lo hi = ((196 + (nI (lgN (ndN lo.toInt64)))), (ndN lo.toInt64), lo.toInt64, (-1)) := rfl
                  have hr9 : n8 + 1 + (ndN lo.toInt64) ≤ 4096 := by rw [hT, phL_n] at hr8; omega
                  refine gvi (As := [.int (196 + (nI (lgN (ndN lo.toInt64)))), .int (nI (ndN lo.toInt64)), .long lo.toInt64, .int (-1)]) (rest := []) ⟨hx, hb, hml, hown, hts⟩ (c_X1_packHead l dC dI tk tw h a b cI cJ _ f g zc zso znu zty zhd zpa zch zlk zlo zhi zlp zll zlv n8 (196 + (nI (lgN (ndN lo.toInt64)))) (ndN lo.toInt64) (ndN_le _) lo.toInt64 hr9) (cwV 4 hts gX1_pack_X1_packHead rfl rfl rfl (by decide +kernel) ⟨Nat.le_of_ble_eq_true rfl, Nat.le_of_ble_eq_true rfl⟩) hK hP hD hS hA hZ (q0 := 0) (ci := 1) rfl rfl rfl rfl hl.1 rfl (Nat.le_of_ble_eq_true rfl) dX1_pack_364 ⟨Nat.le_of_ble_eq_true rfl, Nat.le_of_ble_eq_true rfl⟩ (fun r_18 u_19 H locs hw_17 hP hD hS => ?_)
                  have hP : va_P (dC, dI) vwCl (w1 h a b cI cJ (apM (upd f n8 (196 + (nI (lgN (ndN lo.toInt64))))) (n8 + 1) lo.toInt64 (ndN lo.toInt64)) g 0 (nI (n8 + (1 + (ndN lo.toInt64)))) zc zso znu zty zhd zpa zch zlk zlo zhi zlp zll zlv) H := hP
                  have hD : va_D A (w1 h a b cI cJ (apM (upd f n8 (196 + (nI (lgN (ndN lo.toInt64))))) (n8 + 1) lo.toInt64 (ndN lo.toInt64)) g 0 (nI (n8 + (1 + (ndN lo.toInt64)))) zc zso znu zty zhd zpa zch zlk zlo zhi zlp zll zlv) := hD
                  obtain rfl : r_18 = nI (1 + (ndN lo.toInt64)) := hw_17
                  have hP9 : va_P (dC, dI) vwCl ((fun (_ : Unit) => w1 h a b cI cJ (phF f n8 (pk9 lo hi)) g 0 (nI (n8 + phL (pk9 lo hi))) zc zso znu zty zhd zpa zch zlk zlo zhi zlp zll zlv) (())) H := by rw [hT, phL_n, phF_n]; exact hP
                  have hD9 : va_D A ((fun (_ : Unit) => w1 h a b cI cJ (phF f n8 (pk9 lo hi)) g 0 (nI (n8 + phL (pk9 lo hi))) zc zso znu zty zhd zpa zch zlk zlo zhi zlp zll zlv) (())) := by rw [hT, phL_n, phF_n]; exact hD
                  exact W.iret (v := nI (1 + (ndN lo.toInt64))) hx hb hr (fun t ht hW => ⟨⟨nI (1 + (ndN lo.toInt64)), (), rfl, (by rw [hT, phL_n]), by rw [ht]; exact hP9, va_K.moved hW.alike hK, hD9⟩, hS.F ht⟩) hS.2.2 dX1_pack_367
              · skip
                exact absurd (by decide) c_10
            · skip
              exact absurd c_6 (by decide)
          · skip
            exact absurd c_5 (by decide)
set_option maxHeartbeats 4000000 in
set_option maxRecDepth 100000 in
theorem c_X1_pack_9f (l : Launch) (dC : Nat → ClassId) (dI : Nat → Nat → Nat) (tk tw : Nat) (h a b : Nat) (cI cJ : ClassId) (sz : Nat) (f : Nat → Int32) (g : Nat → Int64) (zt : Int32) (zc : Int32) (zso : Int32) (znu : Int64) (zty : Int32) (zhd : Int32) (zpa : Int64) (zch : Int64) (zlk : Int32) (zlo : Int32) (zhi : Int32) (zlp : Int32) (zll : Int32) (zlv : Int32) (n8 : Nat) (hn8 : n8 ≤ 4096) (lo hi : Int32) (h8 : ¬ lo < 0) (hr8 : 4096 < n8 + phL (pk9 lo hi)) : Met l yX1_pack wsX1_pack ({ frames := 2, cells := 0, slots := 0, locals := 49 }) (va_Pc [.ref h, .int 9, .int lo, .int hi] (pr dC dI (t1 cI cJ) (w1 h a b cI cJ f g zt (nI n8) zc zso znu zty zhd zpa zch zlk zlo zhi zlp zll zlv) sz tk tw)) (va_Qi (fun (r : Int32) (_ : Unit) => True) (fun (_ : Unit) => po dC dI (t1 cI cJ) (va_A (w1 h a b cI cJ f g zt (nI n8) zc zso znu zty zhd zpa zch zlk zlo zhi zlp zll zlv) sz) (w1 h a b cI cJ f g 2 (nI n8) zc zso znu zty zhd zpa zch zlk zlo zhi zlp zll zlv)) (va_A (w1 h a b cI cJ f g zt (nI n8) zc zso znu zty zhd zpa zch zlk zlo zhi zlp zll zlv) sz)) 0 0 (va_A (w1 h a b cI cJ f g zt (nI n8) zc zso znu zty zhd zpa zch zlk zlo zhi zlp zll zlv) sz) := by
  refine Met.ofW (cc := cX1_pack) (maxL := 11) (ret := (some .int)) (by decide) rfl ?_
  intro p e s m args below meth c s₁ Bd hml hv
  obtain ⟨rfl, hsz, hP, hK, hD0, hZ⟩ := hv
  have hx := Bd.exec
  have hb := Bd.bytes
  have hr := Bd.returns
  have hts := atoms_spec (ws := wsX1_pack) Bd.pre
  have hown : s.vm.findClass RX1 = some m.cls := findClass_of_methodNamed Bd.named
  have hlocks := Bd.notSynchronized
  subst hsz
  have hD := hD0.self (sz := s.heap.size)
  generalize hAe : va_A (w1 h a b cI cJ f g zt (nI n8) zc zso znu zty zhd zpa zch zlk zlo zhi zlp zll zlv) s.heap.size = A at hD hZ ⊢
  have hA : ∀ q : Nat, s.heap.size ≤ q → A q := fun q h => by rw [← hAe]; exact Or.inr h
  have hS : va_S A s.heap s.heap [] := va_S.rf
  have hP : va_P (dC, dI) vwCl (w1 h a b cI cJ f g zt (nI n8) zc zso znu zty zhd zpa zch zlk zlo zhi zlp zll zlv) s.heap := hP
  have hin0 : ∀ w ∈ wsX10, w ∈ wsX1_pack := by decide +kernel
  have fl21 := hts (.fieldLink RX1 21 "MessageReaderModel" "thrown" "I") (by decide +kernel)
  have hl := lv_entry ([.ref h, .int 9, .int lo, .int hi]) (n := 11) (Nat.le_of_ble_eq_true rfl)
  rw [lg_entry_eq]
  generalize (lg_sl ([.ref h, .int 9, .int lo, .int hi]) ++ List.replicate (11 - (lg_sl ([.ref h, .int 9, .int lo, .int hi])).length) Slot.unset).toArray = ls at hl ⊢
  have hl : lv_has ls 11 [(0, .ref h), (1, .int 9), (2, .int lo), (3, .int hi)] := hl
  refine lv_aload_n hx hb dX1_pack_0 rfl (lv_at hl 0 rfl) ?_
  refine lv_iconst (v := 0) hx hb dX1_pack_1 (by decide) ?_
  refine va_put (D := (dC, dI)) (ci := 1) (v := .int 0) (ty := .int) (C := RX1) (T := TX1) (N := 17) hx hb hts hin0 tyX1 tyX1_ok nmX1 hown hK hP hD hS 0 rfl rfl 0 (by decide) fl21 (fun _ h9 => h9) rfl (by decide +kernel) rfl rfl (Nat.le_of_ble_eq_true rfl) dX1_pack_2 (fun H locs hP hD hS => ?_)
  have hP : va_P (dC, dI) vwCl (w1 h a b cI cJ f g 0 (nI n8) zc zso znu zty zhd zpa zch zlk zlo zhi zlp zll zlv) H := hP
  have hD : va_D A (w1 h a b cI cJ f g 0 (nI n8) zc zso znu zty zhd zpa zch zlk zlo zhi zlp zll zlv) := hD
  refine lv_iload_n hx hb dX1_pack_5 rfl (lv_at hl 1 rfl) ?_
  refine lv_if_le (tgt := 47) hx hb dX1_pack_6 (by decide) (fun c_1 => ?_) (fun c_1 => ?_)
  · skip
    exact absurd c_1 (by decide)
  · skip
    refine lv_iload_n hx hb dX1_pack_9 rfl (lv_at hl 1 rfl) ?_
    refine lv_bipush (v := 13) hx hb dX1_pack_10 (by decide) ?_
    refine lv_icmp_ge (tgt := 47) hx hb dX1_pack_12 (by decide) (fun c_2 => ?_) (fun c_2 => ?_)
    · skip
      exact absurd c_2 (by decide)
    · skip
      refine lv_iload_n hx hb dX1_pack_15 rfl (lv_at hl 1 rfl) ?_
      refine lv_bipush (v := 8) hx hb dX1_pack_16 (by decide) ?_
      refine lv_icmp_lt (tgt := 25) hx hb dX1_pack_18 (by decide) (fun c_3 => ?_) (fun c_3 => ?_)
      · skip
        exact absurd c_3 (by decide)
      · skip
        refine lv_iload_n hx hb dX1_pack_21 rfl (lv_at hl 2 rfl) ?_
        refine lv_if_lt (tgt := 47) hx hb dX1_pack_22 (by decide) (fun c_4 => ?_) (fun c_4 => ?_)
        · skip
          exact absurd c_4 h8
        · skip
          refine lv_iload_n hx hb dX1_pack_25 rfl (lv_at hl 1 rfl) ?_
          refine lv_bipush (v := 12) hx hb dX1_pack_26 (by decide) ?_
          refine lv_icmp_ne (tgt := 43) hx hb dX1_pack_28 (by decide) (fun c_5 => ?_) (fun c_5 => ?_)
          · skip
            refine lv_iconst (v := 1) hx hb dX1_pack_43 (by decide) ?_
            refine lv_goto (tgt := 48) hx hb dX1_pack_44 (by decide) ?_
            refine lv_istore (lv' := [(4, .int 1), (0, .ref h), (1, .int 9), (2, .int lo), (3, .int hi)]) hx hb dX1_pack_48 hl (by decide) rfl (fun ls hl => ?_)
            refine lv_aload_n hx hb dX1_pack_50 rfl (lv_at hl 1 rfl) ?_
            refine lv_iload hx hb dX1_pack_51 (lv_at hl 0 rfl) ?_
            refine lv_if_ne (tgt := 60) hx hb dX1_pack_53 (by decide) (fun c_6 => ?_) (fun c_6 => ?_)
            · skip
              refine lv_iconst (v := 0) hx hb dX1_pack_60 (by decide) ?_
              refine lv_iconst (v := 1) hx hb dX1_pack_61 (by decide) ?_
              refine gvi (As := [.int 0, .int 1]) (rest := []) ⟨hx, hb, hml, hown, hts⟩ (c_X1_fails l dC dI tk tw h a b cI cJ _ f g 0 (nI n8) zc zso znu zty zhd zpa zch zlk zlo zhi zlp zll zlv 0 1) (cwV 2 hts gX1_pack_X1_fails rfl rfl rfl (by decide +kernel) ⟨Nat.le_of_ble_eq_true rfl, Nat.le_of_ble_eq_true rfl⟩) hK hP hD hS hA hZ (q0 := 0) (ci := 1) rfl rfl rfl rfl hl.1 rfl (Nat.le_of_ble_eq_true rfl) dX1_pack_62 ⟨Nat.le_of_ble_eq_true rfl, Nat.le_of_ble_eq_true rfl⟩ (fun r_8 u_9 H locs hw_7 hP hD hS => ?_)
              obtain rfl : u_9 = 0 := hw_7.1.trans (by decide)
              have hP : va_P (dC, dI) vwCl (w1 h a b cI cJ f g 0 (nI n8) zc zso znu zty zhd zpa zch zlk zlo zhi zlp zll zlv) H := hP
              have hD : va_D A (w1 h a b cI cJ f g 0 (nI n8) zc zso znu zty zhd zpa zch zlk zlo zhi zlp zll zlv) := hD
              obtain rfl : r_8 = 0 := hw_7.2.trans (by decide)
              refine lv_if_eq (tgt := 70) hx hb dX1_pack_65 (by decide) (fun c_10 => ?_) (fun c_10 => ?_)
              · skip
                refine lv_iload_n hx hb dX1_pack_70 rfl (lv_at hl 4 rfl) ?_
                refine lv_i2l hx hb dX1_pack_71 rfl ?_
                refine lv_bipush (v := 32) hx hb dX1_pack_72 (by decide) ?_
                refine lv_lshl hx hb dX1_pack_74 rfl ?_
                refine lv_iload_n hx hb dX1_pack_75 rfl (lv_at hl 3 rfl) ?_
                refine lv_i2l hx hb dX1_pack_76 rfl ?_
                refine lv_ldc2 (v := 4294967295) hx hb hown (hts (.constantLong RX1 118 (4294967295)) (by decide +kernel)) dX1_pack_77 ?_
                refine lv_land hx hb dX1_pack_80 ?_
                refine lv_lor hx hb dX1_pack_81 ?_
                have e_11 : ((hi.toInt64 <<< ((32 : Int32).toInt64 &&& 63)) ||| (lo.toInt64 &&& 4294967295) : Int64) = bo lo hi := rfl
                rw [e_11]
                refine lv_lstore (lv' := [(5, .long (bo lo hi)), (4, .int 1), (0, .ref h), (1, .int 9), (2, .int lo), (3, .int hi)]) hx hb dX1_pack_82 hl (by decide) rfl (fun ls hl => ?_)
                refine lv_iload_n hx hb dX1_pack_84 rfl (lv_at hl 3 rfl) ?_
                refine lv_bipush (v := 7) hx hb dX1_pack_85 (by decide) ?_
                refine lv_icmp_le (tgt := 98) hx hb dX1_pack_87 (by decide) (fun c_12 => ?_) (fun c_12 => ?_)
                · skip
                  exact absurd c_12 (by decide)
                · skip
                  refine lv_iload_n hx hb dX1_pack_90 rfl (lv_at hl 4 rfl) ?_
                  refine lv_i2l hx hb dX1_pack_91 rfl ?_
                  refine gsi (As := [.long lo.toInt64]) (rest := []) ⟨hx, hb, hml, hown, hts⟩ (c_X1_needs l dC dI tk tw _ lo.toInt64) (va_cwS 1 hts gX1_pack_X1_needs rfl rfl rfl (by decide +kernel) ⟨Nat.le_of_ble_eq_true rfl, Nat.le_of_ble_eq_true rfl⟩) hP hS hA hZ rfl hl.1 rfl (Nat.le_of_ble_eq_true rfl) dX1_pack_92 ⟨Nat.le_of_ble_eq_true rfl, Nat.le_of_ble_eq_true rfl⟩ (fun r_14 H locs hw_13 hP hS => ?_)
                  obtain rfl : r_14 = nI (ndN lo.toInt64) := hw_13
                  refine lv_goto (tgt := 99) hx hb dX1_pack_95 (by decide) ?_
                  refine lv_istore (lv' := [(7, .int (nI (ndN lo.toInt64))), (5, .long (bo lo hi)), (4, .int 1), (0, .ref h), (1, .int 9), (2, .int lo), (3, .int hi)]) hx hb dX1_pack_99 hl (by decide) rfl (fun ls hl => ?_)
                  refine lv_iload_n hx hb dX1_pack_101 rfl (lv_at hl 4 rfl) ?_
                  refine lv_tableIn (tgt := 349) hx hb dX1_pack_102 (by decide) (by decide) rfl (by decide) ?_
                  refine lv_aload_n hx hb dX1_pack_349 rfl (lv_at hl 3 rfl) ?_
                  refine lv_sipush (v := 196) hx hb dX1_pack_350 (by decide) ?_
                  refine lv_iload hx hb dX1_pack_353 (lv_at hl 0 rfl) ?_
                  refine gsi (As := [.int (nI (ndN lo.toInt64))]) (rest := [.int 196, .ref h]) ⟨hx, hb, hml, hown, hts⟩ (c_X1_log l dC dI tk tw _ (ndN lo.toInt64) (Nat.le_trans (ndN_le _) (by decide))) (va_cwS 1 hts gX1_pack_X1_log rfl rfl rfl (by decide +kernel) ⟨Nat.le_of_ble_eq_true rfl, Nat.le_of_ble_eq_true rfl⟩) hP hS hA hZ rfl hl.1 rfl (Nat.le_of_ble_eq_true rfl) dX1_pack_355 ⟨Nat.le_of_ble_eq_true rfl, Nat.le_of_ble_eq_true rfl⟩ (fun r_16 H locs hw_15 hP hS => ?_)
                  obtain rfl : r_16 = nI (lgN (ndN lo.toInt64)) := hw_15
                  refine lv_iadd hx hb dX1_pack_358 ?_
                  refine lv_iload hx hb dX1_pack_359 (lv_at hl 0 rfl) ?_
                  refine lv_iload_n hx hb dX1_pack_361 rfl (lv_at hl 5 rfl) ?_
                  refine lv_i2l hx hb dX1_pack_362 rfl ?_
                  refine lv_iconst (v := -1) hx hb dX1_pack_363 (by decide) ?_
                  have hT : pk9 lo hi = ((196 + (nI (lgN (ndN lo.toInt64)))), (ndN lo.toInt64), lo.toInt64, (-1)) := rfl
                  have hr9 : 4096 < n8 + 1 + (ndN lo.toInt64) := by rw [hT, phL_n] at hr8; omega
                  refine gvi (As := [.int (196 + (nI (lgN (ndN lo.toInt64)))), .int (nI (ndN lo.toInt64)), .long lo.toInt64, .int (-1)]) (rest := []) ⟨hx, hb, hml, hown, hts⟩ (c_X1_packHead_f l dC dI tk tw h a b cI cJ _ f g zc zso znu zty zhd zpa zch zlk zlo zhi zlp zll zlv n8 hn8 (196 + (nI (lgN (ndN lo.toInt64)))) (ndN lo.toInt64) (ndN_le _) lo.toInt64 hr9) (cwV 4 hts gX1_pack_X1_packHead rfl rfl rfl (by decide +kernel) ⟨Nat.le_of_ble_eq_true rfl, Nat.le_of_ble_eq_true rfl⟩) hK hP hD hS hA hZ (q0 := 0) (ci := 1) rfl rfl rfl rfl hl.1 rfl (Nat.le_of_ble_eq_true rfl) dX1_pack_364 ⟨Nat.le_of_ble_eq_true rfl, Nat.le_of_ble_eq_true rfl⟩ (fun r_18 u_19 H locs hw_17 hP hD hS => ?_)
                  have hP : va_P (dC, dI) vwCl (w1 h a b cI cJ f g 2 (nI n8) zc zso znu zty zhd zpa zch zlk zlo zhi zlp zll zlv) H := hP
                  have hD : va_D A (w1 h a b cI cJ f g 2 (nI n8) zc zso znu zty zhd zpa zch zlk zlo zhi zlp zll zlv) := hD
                  have hP9 : va_P (dC, dI) vwCl ((fun (_ : Unit) => w1 h a b cI cJ f g 2 (nI n8) zc zso znu zty zhd zpa zch zlk zlo zhi zlp zll zlv) (())) H := hP
                  have hD9 : va_D A ((fun (_ : Unit) => w1 h a b cI cJ f g 2 (nI n8) zc zso znu zty zhd zpa zch zlk zlo zhi zlp zll zlv) (())) := hD
                  exact W.iret (v := r_18) hx hb hr (fun t ht hW => ⟨⟨r_18, (), rfl, trivial, by rw [ht]; exact hP9, va_K.moved hW.alike hK, hD9⟩, hS.F ht⟩) hS.2.2 dX1_pack_367
              · skip
                exact absurd (by decide) c_10
            · skip
              exact absurd c_6 (by decide)
          · skip
            exact absurd c_5 (by decide)
set_option maxHeartbeats 4000000 in
set_option maxRecDepth 100000 in
theorem c_X1_pack_10 (l : Launch) (dC : Nat → ClassId) (dI : Nat → Nat → Nat) (tk tw : Nat) (h a b : Nat) (cI cJ : ClassId) (sz : Nat) (f : Nat → Int32) (g : Nat → Int64) (zt : Int32) (zc : Int32) (zso : Int32) (znu : Int64) (zty : Int32) (zhd : Int32) (zpa : Int64) (zch : Int64) (zlk : Int32) (zlo : Int32) (zhi : Int32) (zlp : Int32) (zll : Int32) (zlv : Int32) (n8 : Nat) (lo hi : Int32) (h8 : ¬ lo < 0) (hr8 : n8 + phL (pk10 lo hi) ≤ 4096) : Met l yX1_pack wsX1_pack ({ frames := 2, cells := 0, slots := 0, locals := 49 }) (va_Pc [.ref h, .int 10, .int lo, .int hi] (pr dC dI (t1 cI cJ) (w1 h a b cI cJ f g zt (nI n8) zc zso znu zty zhd zpa zch zlk zlo zhi zlp zll zlv) sz tk tw)) (va_Qi (fun (r : Int32) (_ : Unit) => r = nI (phL (pk10 lo hi))) (fun (_ : Unit) => po dC dI (t1 cI cJ) (va_A (w1 h a b cI cJ f g zt (nI n8) zc zso znu zty zhd zpa zch zlk zlo zhi zlp zll zlv) sz) (w1 h a b cI cJ (phF f n8 (pk10 lo hi)) g 0 (nI (n8 + phL (pk10 lo hi))) zc zso znu zty zhd zpa zch zlk zlo zhi zlp zll zlv)) (va_A (w1 h a b cI cJ f g zt (nI n8) zc zso znu zty zhd zpa zch zlk zlo zhi zlp zll zlv) sz)) 0 0 (va_A (w1 h a b cI cJ f g zt (nI n8) zc zso znu zty zhd zpa zch zlk zlo zhi zlp zll zlv) sz) := by
  refine Met.ofW (cc := cX1_pack) (maxL := 11) (ret := (some .int)) (by decide) rfl ?_
  intro p e s m args below meth c s₁ Bd hml hv
  obtain ⟨rfl, hsz, hP, hK, hD0, hZ⟩ := hv
  have hx := Bd.exec
  have hb := Bd.bytes
  have hr := Bd.returns
  have hts := atoms_spec (ws := wsX1_pack) Bd.pre
  have hown : s.vm.findClass RX1 = some m.cls := findClass_of_methodNamed Bd.named
  have hlocks := Bd.notSynchronized
  subst hsz
  have hD := hD0.self (sz := s.heap.size)
  generalize hAe : va_A (w1 h a b cI cJ f g zt (nI n8) zc zso znu zty zhd zpa zch zlk zlo zhi zlp zll zlv) s.heap.size = A at hD hZ ⊢
  have hA : ∀ q : Nat, s.heap.size ≤ q → A q := fun q h => by rw [← hAe]; exact Or.inr h
  have hS : va_S A s.heap s.heap [] := va_S.rf
  have hP : va_P (dC, dI) vwCl (w1 h a b cI cJ f g zt (nI n8) zc zso znu zty zhd zpa zch zlk zlo zhi zlp zll zlv) s.heap := hP
  have hin0 : ∀ w ∈ wsX10, w ∈ wsX1_pack := by decide +kernel
  have fl21 := hts (.fieldLink RX1 21 "MessageReaderModel" "thrown" "I") (by decide +kernel)
  have hl := lv_entry ([.ref h, .int 10, .int lo, .int hi]) (n := 11) (Nat.le_of_ble_eq_true rfl)
  rw [lg_entry_eq]
  generalize (lg_sl ([.ref h, .int 10, .int lo, .int hi]) ++ List.replicate (11 - (lg_sl ([.ref h, .int 10, .int lo, .int hi])).length) Slot.unset).toArray = ls at hl ⊢
  have hl : lv_has ls 11 [(0, .ref h), (1, .int 10), (2, .int lo), (3, .int hi)] := hl
  refine lv_aload_n hx hb dX1_pack_0 rfl (lv_at hl 0 rfl) ?_
  refine lv_iconst (v := 0) hx hb dX1_pack_1 (by decide) ?_
  refine va_put (D := (dC, dI)) (ci := 1) (v := .int 0) (ty := .int) (C := RX1) (T := TX1) (N := 17) hx hb hts hin0 tyX1 tyX1_ok nmX1 hown hK hP hD hS 0 rfl rfl 0 (by decide) fl21 (fun _ h9 => h9) rfl (by decide +kernel) rfl rfl (Nat.le_of_ble_eq_true rfl) dX1_pack_2 (fun H locs hP hD hS => ?_)
  have hP : va_P (dC, dI) vwCl (w1 h a b cI cJ f g 0 (nI n8) zc zso znu zty zhd zpa zch zlk zlo zhi zlp zll zlv) H := hP
  have hD : va_D A (w1 h a b cI cJ f g 0 (nI n8) zc zso znu zty zhd zpa zch zlk zlo zhi zlp zll zlv) := hD
  refine lv_iload_n hx hb dX1_pack_5 rfl (lv_at hl 1 rfl) ?_
  refine lv_if_le (tgt := 47) hx hb dX1_pack_6 (by decide) (fun c_1 => ?_) (fun c_1 => ?_)
  · skip
    exact absurd c_1 (by decide)
  · skip
    refine lv_iload_n hx hb dX1_pack_9 rfl (lv_at hl 1 rfl) ?_
    refine lv_bipush (v := 13) hx hb dX1_pack_10 (by decide) ?_
    refine lv_icmp_ge (tgt := 47) hx hb dX1_pack_12 (by decide) (fun c_2 => ?_) (fun c_2 => ?_)
    · skip
      exact absurd c_2 (by decide)
    · skip
      refine lv_iload_n hx hb dX1_pack_15 rfl (lv_at hl 1 rfl) ?_
      refine lv_bipush (v := 8) hx hb dX1_pack_16 (by decide) ?_
      refine lv_icmp_lt (tgt := 25) hx hb dX1_pack_18 (by decide) (fun c_3 => ?_) (fun c_3 => ?_)
      · skip
        exact absurd c_3 (by decide)
      · skip
        refine lv_iload_n hx hb dX1_pack_21 rfl (lv_at hl 2 rfl) ?_
        refine lv_if_lt (tgt := 47) hx hb dX1_pack_22 (by decide) (fun c_4 => ?_) (fun c_4 => ?_)
        · skip
          exact absurd c_4 h8
        · skip
          refine lv_iload_n hx hb dX1_pack_25 rfl (lv_at hl 1 rfl) ?_
          refine lv_bipush (v := 12) hx hb dX1_pack_26 (by decide) ?_
          refine lv_icmp_ne (tgt := 43) hx hb dX1_pack_28 (by decide) (fun c_5 => ?_) (fun c_5 => ?_)
          · skip
            refine lv_iconst (v := 1) hx hb dX1_pack_43 (by decide) ?_
            refine lv_goto (tgt := 48) hx hb dX1_pack_44 (by decide) ?_
            refine lv_istore (lv' := [(4, .int 1), (0, .ref h), (1, .int 10), (2, .int lo), (3, .int hi)]) hx hb dX1_pack_48 hl (by decide) rfl (fun ls hl => ?_)
            refine lv_aload_n hx hb dX1_pack_50 rfl (lv_at hl 1 rfl) ?_
            refine lv_iload hx hb dX1_pack_51 (lv_at hl 0 rfl) ?_
            refine lv_if_ne (tgt := 60) hx hb dX1_pack_53 (by decide) (fun c_6 => ?_) (fun c_6 => ?_)
            · skip
              refine lv_iconst (v := 0) hx hb dX1_pack_60 (by decide) ?_
              refine lv_iconst (v := 1) hx hb dX1_pack_61 (by decide) ?_
              refine gvi (As := [.int 0, .int 1]) (rest := []) ⟨hx, hb, hml, hown, hts⟩ (c_X1_fails l dC dI tk tw h a b cI cJ _ f g 0 (nI n8) zc zso znu zty zhd zpa zch zlk zlo zhi zlp zll zlv 0 1) (cwV 2 hts gX1_pack_X1_fails rfl rfl rfl (by decide +kernel) ⟨Nat.le_of_ble_eq_true rfl, Nat.le_of_ble_eq_true rfl⟩) hK hP hD hS hA hZ (q0 := 0) (ci := 1) rfl rfl rfl rfl hl.1 rfl (Nat.le_of_ble_eq_true rfl) dX1_pack_62 ⟨Nat.le_of_ble_eq_true rfl, Nat.le_of_ble_eq_true rfl⟩ (fun r_8 u_9 H locs hw_7 hP hD hS => ?_)
              obtain rfl : u_9 = 0 := hw_7.1.trans (by decide)
              have hP : va_P (dC, dI) vwCl (w1 h a b cI cJ f g 0 (nI n8) zc zso znu zty zhd zpa zch zlk zlo zhi zlp zll zlv) H := hP
              have hD : va_D A (w1 h a b cI cJ f g 0 (nI n8) zc zso znu zty zhd zpa zch zlk zlo zhi zlp zll zlv) := hD
              obtain rfl : r_8 = 0 := hw_7.2.trans (by decide)
              refine lv_if_eq (tgt := 70) hx hb dX1_pack_65 (by decide) (fun c_10 => ?_) (fun c_10 => ?_)
              · skip
                refine lv_iload_n hx hb dX1_pack_70 rfl (lv_at hl 4 rfl) ?_
                refine lv_i2l hx hb dX1_pack_71 rfl ?_
                refine lv_bipush (v := 32) hx hb dX1_pack_72 (by decide) ?_
                refine lv_lshl hx hb dX1_pack_74 rfl ?_
                refine lv_iload_n hx hb dX1_pack_75 rfl (lv_at hl 3 rfl) ?_
                refine lv_i2l hx hb dX1_pack_76 rfl ?_
                refine lv_ldc2 (v := 4294967295) hx hb hown (hts (.constantLong RX1 118 (4294967295)) (by decide +kernel)) dX1_pack_77 ?_
                refine lv_land hx hb dX1_pack_80 ?_
                refine lv_lor hx hb dX1_pack_81 ?_
                have e_11 : ((hi.toInt64 <<< ((32 : Int32).toInt64 &&& 63)) ||| (lo.toInt64 &&& 4294967295) : Int64) = bo lo hi := rfl
                rw [e_11]
                refine lv_lstore (lv' := [(5, .long (bo lo hi)), (4, .int 1), (0, .ref h), (1, .int 10), (2, .int lo), (3, .int hi)]) hx hb dX1_pack_82 hl (by decide) rfl (fun ls hl => ?_)
                refine lv_iload_n hx hb dX1_pack_84 rfl (lv_at hl 3 rfl) ?_
                refine lv_bipush (v := 7) hx hb dX1_pack_85 (by decide) ?_
                refine lv_icmp_le (tgt := 98) hx hb dX1_pack_87 (by decide) (fun c_12 => ?_) (fun c_12 => ?_)
                · skip
                  exact absurd c_12 (by decide)
                · skip
                  refine lv_iload_n hx hb dX1_pack_90 rfl (lv_at hl 4 rfl) ?_
                  refine lv_i2l hx hb dX1_pack_91 rfl ?_
                  refine gsi (As := [.long lo.toInt64]) (rest := []) ⟨hx, hb, hml, hown, hts⟩ (c_X1_needs l dC dI tk tw _ lo.toInt64) (va_cwS 1 hts gX1_pack_X1_needs rfl rfl rfl (by decide +kernel) ⟨Nat.le_of_ble_eq_true rfl, Nat.le_of_ble_eq_true rfl⟩) hP hS hA hZ rfl hl.1 rfl (Nat.le_of_ble_eq_true rfl) dX1_pack_92 ⟨Nat.le_of_ble_eq_true rfl, Nat.le_of_ble_eq_true rfl⟩ (fun r_14 H locs hw_13 hP hS => ?_)
                  obtain rfl : r_14 = nI (ndN lo.toInt64) := hw_13
                  refine lv_goto (tgt := 99) hx hb dX1_pack_95 (by decide) ?_
                  refine lv_istore (lv' := [(7, .int (nI (ndN lo.toInt64))), (5, .long (bo lo hi)), (4, .int 1), (0, .ref h), (1, .int 10), (2, .int lo), (3, .int hi)]) hx hb dX1_pack_99 hl (by decide) rfl (fun ls hl => ?_)
                  refine lv_iload_n hx hb dX1_pack_101 rfl (lv_at hl 4 rfl) ?_
                  refine lv_tableIn (tgt := 368) hx hb dX1_pack_102 (by decide) (by decide) rfl (by decide) ?_
                  refine lv_iload_n hx hb dX1_pack_368 rfl (lv_at hl 4 rfl) ?_
                  refine lv_bipush (v := 10) hx hb dX1_pack_369 (by decide) ?_
                  refine lv_icmp_ne (tgt := 380) hx hb dX1_pack_371 (by decide) (fun c_15 => ?_) (fun c_15 => ?_)
                  · skip
                    exact absurd (by decide) c_15
                  · skip
                    refine lv_sipush (v := 144) hx hb dX1_pack_374 (by decide) ?_
                    refine lv_goto (tgt := 383) hx hb dX1_pack_377 (by decide) ?_
                    refine lv_istore (lv' := [(8, .int 144), (7, .int (nI (ndN lo.toInt64))), (5, .long (bo lo hi)), (4, .int 1), (0, .ref h), (1, .int 10), (2, .int lo), (3, .int hi)]) hx hb dX1_pack_383 hl (by decide) rfl (fun ls hl => ?_)
                    refine lv_iload_n hx hb dX1_pack_385 rfl (lv_at hl 5 rfl) ?_
                    refine lv_bipush (v := 10) hx hb dX1_pack_386 (by decide) ?_
                    refine lv_icmp_ne (tgt := 397) hx hb dX1_pack_388 (by decide) (fun c_16 => ?_) (fun c_16 => ?_)
                    · skip
                      exact absurd (by decide) c_16
                    · skip
                      refine lv_sipush (v := 220) hx hb dX1_pack_391 (by decide) ?_
                      refine lv_goto (tgt := 400) hx hb dX1_pack_394 (by decide) ?_
                      refine lv_istore (lv' := [(9, .int 220), (8, .int 144), (7, .int (nI (ndN lo.toInt64))), (5, .long (bo lo hi)), (4, .int 1), (0, .ref h), (1, .int 10), (2, .int lo), (3, .int hi)]) hx hb dX1_pack_400 hl (by decide) rfl (fun ls hl => ?_)
                      refine lv_iload_n hx hb dX1_pack_402 rfl (lv_at hl 7 rfl) ?_
                      refine lv_bipush (v := 16) hx hb dX1_pack_403 (by decide) ?_
                      refine lv_icmp_ge (tgt := 422) hx hb dX1_pack_405 (by decide) (fun c_17 => ?_) (fun c_17 => ?_)
                      · skip
                        refine lv_iload_n hx hb dX1_pack_422 rfl (lv_at hl 7 rfl) ?_
                        refine lv_ldc (v := 65536) hx hb hown (hts (.constant RX1 136 (65536)) (by decide +kernel)) dX1_pack_423 ?_
                        refine lv_icmp_ge (tgt := 441) hx hb dX1_pack_425 (by decide) (fun c_18 => ?_) (fun c_18 => ?_)
                        · skip
                          refine lv_aload_n hx hb dX1_pack_441 rfl (lv_at hl 5 rfl) ?_
                          refine lv_iload hx hb dX1_pack_442 (lv_at hl 0 rfl) ?_
                          refine lv_iconst (v := 1) hx hb dX1_pack_444 (by decide) ?_
                          refine lv_iadd hx hb dX1_pack_445 ?_
                          refine lv_iconst (v := 4) hx hb dX1_pack_446 (by decide) ?_
                          refine lv_iload_n hx hb dX1_pack_447 rfl (lv_at hl 7 rfl) ?_
                          refine lv_i2l hx hb dX1_pack_448 rfl ?_
                          refine lv_iconst (v := -1) hx hb dX1_pack_449 (by decide) ?_
                          have hT : pk10 lo hi = ((220 + 1), 4, lo.toInt64, (-1)) := by unfold pk10; rw [if_pos c_17, if_pos c_18]
                          have hr9 : n8 + 1 + 4 ≤ 4096 := by rw [hT, phL_n] at hr8; omega
                          refine gvi (As := [.int (220 + 1), .int 4, .long lo.toInt64, .int (-1)]) (rest := []) ⟨hx, hb, hml, hown, hts⟩ (c_X1_packHead l dC dI tk tw h a b cI cJ _ f g zc zso znu zty zhd zpa zch zlk zlo zhi zlp zll zlv n8 (220 + 1) 4 (by decide) lo.toInt64 hr9) (cwV 4 hts gX1_pack_X1_packHead rfl rfl rfl (by decide +kernel) ⟨Nat.le_of_ble_eq_true rfl, Nat.le_of_ble_eq_true rfl⟩) hK hP hD hS hA hZ (q0 := 0) (ci := 1) rfl rfl rfl rfl hl.1 rfl (Nat.le_of_ble_eq_true rfl) dX1_pack_450 ⟨Nat.le_of_ble_eq_true rfl, Nat.le_of_ble_eq_true rfl⟩ (fun r_20 u_21 H locs hw_19 hP hD hS => ?_)
                          have hP : va_P (dC, dI) vwCl (w1 h a b cI cJ (apM (upd f n8 (220 + 1)) (n8 + 1) lo.toInt64 4) g 0 (nI (n8 + (1 + 4))) zc zso znu zty zhd zpa zch zlk zlo zhi zlp zll zlv) H := hP
                          have hD : va_D A (w1 h a b cI cJ (apM (upd f n8 (220 + 1)) (n8 + 1) lo.toInt64 4) g 0 (nI (n8 + (1 + 4))) zc zso znu zty zhd zpa zch zlk zlo zhi zlp zll zlv) := hD
                          obtain rfl : r_20 = nI (1 + 4) := hw_19
                          have hP9 : va_P (dC, dI) vwCl ((fun (_ : Unit) => w1 h a b cI cJ (phF f n8 (pk10 lo hi)) g 0 (nI (n8 + phL (pk10 lo hi))) zc zso znu zty zhd zpa zch zlk zlo zhi zlp zll zlv) (())) H := by rw [hT, phL_n, phF_n]; exact hP
                          have hD9 : va_D A ((fun (_ : Unit) => w1 h a b cI cJ (phF f n8 (pk10 lo hi)) g 0 (nI (n8 + phL (pk10 lo hi))) zc zso znu zty zhd zpa zch zlk zlo zhi zlp zll zlv) (())) := by rw [hT, phL_n, phF_n]; exact hD
                          exact W.iret (v := nI (1 + 4)) hx hb hr (fun t ht hW => ⟨⟨nI (1 + 4), (), rfl, (by rw [hT, phL_n]), by rw [ht]; exact hP9, va_K.moved hW.alike hK, hD9⟩, hS.F ht⟩) hS.2.2 dX1_pack_453
                        · skip
                          refine lv_aload_n hx hb dX1_pack_428 rfl (lv_at hl 5 rfl) ?_
                          refine lv_iload hx hb dX1_pack_429 (lv_at hl 0 rfl) ?_
                          refine lv_iconst (v := 2) hx hb dX1_pack_431 (by decide) ?_
                          refine lv_iload_n hx hb dX1_pack_432 rfl (lv_at hl 7 rfl) ?_
                          refine lv_i2l hx hb dX1_pack_433 rfl ?_
                          refine lv_iconst (v := -1) hx hb dX1_pack_434 (by decide) ?_
                          have hT : pk10 lo hi = (220, 2, lo.toInt64, (-1)) := by unfold pk10; rw [if_pos c_17, if_neg c_18]
                          have hr9 : n8 + 1 + 2 ≤ 4096 := by rw [hT, phL_n] at hr8; omega
                          refine gvi (As := [.int 220, .int 2, .long lo.toInt64, .int (-1)]) (rest := []) ⟨hx, hb, hml, hown, hts⟩ (c_X1_packHead l dC dI tk tw h a b cI cJ _ f g zc zso znu zty zhd zpa zch zlk zlo zhi zlp zll zlv n8 220 2 (by decide) lo.toInt64 hr9) (cwV 4 hts gX1_pack_X1_packHead rfl rfl rfl (by decide +kernel) ⟨Nat.le_of_ble_eq_true rfl, Nat.le_of_ble_eq_true rfl⟩) hK hP hD hS hA hZ (q0 := 0) (ci := 1) rfl rfl rfl rfl hl.1 rfl (Nat.le_of_ble_eq_true rfl) dX1_pack_435 ⟨Nat.le_of_ble_eq_true rfl, Nat.le_of_ble_eq_true rfl⟩ (fun r_23 u_24 H locs hw_22 hP hD hS => ?_)
                          have hP : va_P (dC, dI) vwCl (w1 h a b cI cJ (apM (upd f n8 220) (n8 + 1) lo.toInt64 2) g 0 (nI (n8 + (1 + 2))) zc zso znu zty zhd zpa zch zlk zlo zhi zlp zll zlv) H := hP
                          have hD : va_D A (w1 h a b cI cJ (apM (upd f n8 220) (n8 + 1) lo.toInt64 2) g 0 (nI (n8 + (1 + 2))) zc zso znu zty zhd zpa zch zlk zlo zhi zlp zll zlv) := hD
                          obtain rfl : r_23 = nI (1 + 2) := hw_22
                          refine lv_goto (tgt := 453) hx hb dX1_pack_438 (by decide) ?_
                          have hP9 : va_P (dC, dI) vwCl ((fun (_ : Unit) => w1 h a b cI cJ (phF f n8 (pk10 lo hi)) g 0 (nI (n8 + phL (pk10 lo hi))) zc zso znu zty zhd zpa zch zlk zlo zhi zlp zll zlv) (())) H := by rw [hT, phL_n, phF_n]; exact hP
                          have hD9 : va_D A ((fun (_ : Unit) => w1 h a b cI cJ (phF f n8 (pk10 lo hi)) g 0 (nI (n8 + phL (pk10 lo hi))) zc zso znu zty zhd zpa zch zlk zlo zhi zlp zll zlv) (())) := by rw [hT, phL_n, phF_n]; exact hD
                          exact W.iret (v := nI (1 + 2)) hx hb hr (fun t ht hW => ⟨⟨nI (1 + 2), (), rfl, (by rw [hT, phL_n]), by rw [ht]; exact hP9, va_K.moved hW.alike hK, hD9⟩, hS.F ht⟩) hS.2.2 dX1_pack_453
                      · skip
                        refine lv_aload_n hx hb dX1_pack_408 rfl (lv_at hl 5 rfl) ?_
                        refine lv_iload hx hb dX1_pack_409 (lv_at hl 1 rfl) ?_
                        refine lv_iload_n hx hb dX1_pack_411 rfl (lv_at hl 7 rfl) ?_
                        refine lv_iadd hx hb dX1_pack_412 ?_
                        refine lv_iconst (v := 0) hx hb dX1_pack_413 (by decide) ?_
                        refine lv_lconst (v := 0) hx hb dX1_pack_414 (by decide) ?_
                        refine lv_iconst (v := -1) hx hb dX1_pack_415 (by decide) ?_
                        have hT : pk10 lo hi = ((144 + lo), 0, 0, (-1)) := by unfold pk10; rw [if_neg c_17]
                        have hr9 : n8 + 1 + 0 ≤ 4096 := by rw [hT, phL_n] at hr8; omega
                        refine gvi (As := [.int (144 + lo), .int 0, .long 0, .int (-1)]) (rest := []) ⟨hx, hb, hml, hown, hts⟩ (c_X1_packHead l dC dI tk tw h a b cI cJ _ f g zc zso znu zty zhd zpa zch zlk zlo zhi zlp zll zlv n8 (144 + lo) 0 (by decide) 0 hr9) (cwV 4 hts gX1_pack_X1_packHead rfl rfl rfl (by decide +kernel) ⟨Nat.le_of_ble_eq_true rfl, Nat.le_of_ble_eq_true rfl⟩) hK hP hD hS hA hZ (q0 := 0) (ci := 1) rfl rfl rfl rfl hl.1 rfl (Nat.le_of_ble_eq_true rfl) dX1_pack_416 ⟨Nat.le_of_ble_eq_true rfl, Nat.le_of_ble_eq_true rfl⟩ (fun r_26 u_27 H locs hw_25 hP hD hS => ?_)
                        have hP : va_P (dC, dI) vwCl (w1 h a b cI cJ (apM (upd f n8 (144 + lo)) (n8 + 1) 0 0) g 0 (nI (n8 + (1 + 0))) zc zso znu zty zhd zpa zch zlk zlo zhi zlp zll zlv) H := hP
                        have hD : va_D A (w1 h a b cI cJ (apM (upd f n8 (144 + lo)) (n8 + 1) 0 0) g 0 (nI (n8 + (1 + 0))) zc zso znu zty zhd zpa zch zlk zlo zhi zlp zll zlv) := hD
                        obtain rfl : r_26 = nI (1 + 0) := hw_25
                        refine lv_goto (tgt := 453) hx hb dX1_pack_419 (by decide) ?_
                        have hP9 : va_P (dC, dI) vwCl ((fun (_ : Unit) => w1 h a b cI cJ (phF f n8 (pk10 lo hi)) g 0 (nI (n8 + phL (pk10 lo hi))) zc zso znu zty zhd zpa zch zlk zlo zhi zlp zll zlv) (())) H := by rw [hT, phL_n, phF_n]; exact hP
                        have hD9 : va_D A ((fun (_ : Unit) => w1 h a b cI cJ (phF f n8 (pk10 lo hi)) g 0 (nI (n8 + phL (pk10 lo hi))) zc zso znu zty zhd zpa zch zlk zlo zhi zlp zll zlv) (())) := by rw [hT, phL_n, phF_n]; exact hD
                        exact W.iret (v := nI (1 + 0)) hx hb hr (fun t ht hW => ⟨⟨nI (1 + 0), (), rfl, (by rw [hT, phL_n]), by rw [ht]; exact hP9, va_K.moved hW.alike hK, hD9⟩, hS.F ht⟩) hS.2.2 dX1_pack_453
              · skip
                exact absurd (by decide) c_10
            · skip
              exact absurd c_6 (by decide)
          · skip
            exact absurd c_5 (by decide)
set_option maxHeartbeats 4000000 in
set_option maxRecDepth 100000 in
theorem c_X1_pack_10f (l : Launch) (dC : Nat → ClassId) (dI : Nat → Nat → Nat) (tk tw : Nat) (h a b : Nat) (cI cJ : ClassId) (sz : Nat) (f : Nat → Int32) (g : Nat → Int64) (zt : Int32) (zc : Int32) (zso : Int32) (znu : Int64) (zty : Int32) (zhd : Int32) (zpa : Int64) (zch : Int64) (zlk : Int32) (zlo : Int32) (zhi : Int32) (zlp : Int32) (zll : Int32) (zlv : Int32) (n8 : Nat) (hn8 : n8 ≤ 4096) (lo hi : Int32) (h8 : ¬ lo < 0) (hr8 : 4096 < n8 + phL (pk10 lo hi)) : Met l yX1_pack wsX1_pack ({ frames := 2, cells := 0, slots := 0, locals := 49 }) (va_Pc [.ref h, .int 10, .int lo, .int hi] (pr dC dI (t1 cI cJ) (w1 h a b cI cJ f g zt (nI n8) zc zso znu zty zhd zpa zch zlk zlo zhi zlp zll zlv) sz tk tw)) (va_Qi (fun (r : Int32) (_ : Unit) => True) (fun (_ : Unit) => po dC dI (t1 cI cJ) (va_A (w1 h a b cI cJ f g zt (nI n8) zc zso znu zty zhd zpa zch zlk zlo zhi zlp zll zlv) sz) (w1 h a b cI cJ f g 2 (nI n8) zc zso znu zty zhd zpa zch zlk zlo zhi zlp zll zlv)) (va_A (w1 h a b cI cJ f g zt (nI n8) zc zso znu zty zhd zpa zch zlk zlo zhi zlp zll zlv) sz)) 0 0 (va_A (w1 h a b cI cJ f g zt (nI n8) zc zso znu zty zhd zpa zch zlk zlo zhi zlp zll zlv) sz) := by
  refine Met.ofW (cc := cX1_pack) (maxL := 11) (ret := (some .int)) (by decide) rfl ?_
  intro p e s m args below meth c s₁ Bd hml hv
  obtain ⟨rfl, hsz, hP, hK, hD0, hZ⟩ := hv
  have hx := Bd.exec
  have hb := Bd.bytes
  have hr := Bd.returns
  have hts := atoms_spec (ws := wsX1_pack) Bd.pre
  have hown : s.vm.findClass RX1 = some m.cls := findClass_of_methodNamed Bd.named
  have hlocks := Bd.notSynchronized
  subst hsz
  have hD := hD0.self (sz := s.heap.size)
  generalize hAe : va_A (w1 h a b cI cJ f g zt (nI n8) zc zso znu zty zhd zpa zch zlk zlo zhi zlp zll zlv) s.heap.size = A at hD hZ ⊢
  have hA : ∀ q : Nat, s.heap.size ≤ q → A q := fun q h => by rw [← hAe]; exact Or.inr h
  have hS : va_S A s.heap s.heap [] := va_S.rf
  have hP : va_P (dC, dI) vwCl (w1 h a b cI cJ f g zt (nI n8) zc zso znu zty zhd zpa zch zlk zlo zhi zlp zll zlv) s.heap := hP
  have hin0 : ∀ w ∈ wsX10, w ∈ wsX1_pack := by decide +kernel
  have fl21 := hts (.fieldLink RX1 21 "MessageReaderModel" "thrown" "I") (by decide +kernel)
  have hl := lv_entry ([.ref h, .int 10, .int lo, .int hi]) (n := 11) (Nat.le_of_ble_eq_true rfl)
  rw [lg_entry_eq]
  generalize (lg_sl ([.ref h, .int 10, .int lo, .int hi]) ++ List.replicate (11 - (lg_sl ([.ref h, .int 10, .int lo, .int hi])).length) Slot.unset).toArray = ls at hl ⊢
  have hl : lv_has ls 11 [(0, .ref h), (1, .int 10), (2, .int lo), (3, .int hi)] := hl
  refine lv_aload_n hx hb dX1_pack_0 rfl (lv_at hl 0 rfl) ?_
  refine lv_iconst (v := 0) hx hb dX1_pack_1 (by decide) ?_
  refine va_put (D := (dC, dI)) (ci := 1) (v := .int 0) (ty := .int) (C := RX1) (T := TX1) (N := 17) hx hb hts hin0 tyX1 tyX1_ok nmX1 hown hK hP hD hS 0 rfl rfl 0 (by decide) fl21 (fun _ h9 => h9) rfl (by decide +kernel) rfl rfl (Nat.le_of_ble_eq_true rfl) dX1_pack_2 (fun H locs hP hD hS => ?_)
  have hP : va_P (dC, dI) vwCl (w1 h a b cI cJ f g 0 (nI n8) zc zso znu zty zhd zpa zch zlk zlo zhi zlp zll zlv) H := hP
  have hD : va_D A (w1 h a b cI cJ f g 0 (nI n8) zc zso znu zty zhd zpa zch zlk zlo zhi zlp zll zlv) := hD
  refine lv_iload_n hx hb dX1_pack_5 rfl (lv_at hl 1 rfl) ?_
  refine lv_if_le (tgt := 47) hx hb dX1_pack_6 (by decide) (fun c_1 => ?_) (fun c_1 => ?_)
  · skip
    exact absurd c_1 (by decide)
  · skip
    refine lv_iload_n hx hb dX1_pack_9 rfl (lv_at hl 1 rfl) ?_
    refine lv_bipush (v := 13) hx hb dX1_pack_10 (by decide) ?_
    refine lv_icmp_ge (tgt := 47) hx hb dX1_pack_12 (by decide) (fun c_2 => ?_) (fun c_2 => ?_)
    · skip
      exact absurd c_2 (by decide)
    · skip
      refine lv_iload_n hx hb dX1_pack_15 rfl (lv_at hl 1 rfl) ?_
      refine lv_bipush (v := 8) hx hb dX1_pack_16 (by decide) ?_
      refine lv_icmp_lt (tgt := 25) hx hb dX1_pack_18 (by decide) (fun c_3 => ?_) (fun c_3 => ?_)
      · skip
        exact absurd c_3 (by decide)
      · skip
        refine lv_iload_n hx hb dX1_pack_21 rfl (lv_at hl 2 rfl) ?_
        refine lv_if_lt (tgt := 47) hx hb dX1_pack_22 (by decide) (fun c_4 => ?_) (fun c_4 => ?_)
        · skip
          exact absurd c_4 h8
        · skip
          refine lv_iload_n hx hb dX1_pack_25 rfl (lv_at hl 1 rfl) ?_
          refine lv_bipush (v := 12) hx hb dX1_pack_26 (by decide) ?_
          refine lv_icmp_ne (tgt := 43) hx hb dX1_pack_28 (by decide) (fun c_5 => ?_) (fun c_5 => ?_)
          · skip
            refine lv_iconst (v := 1) hx hb dX1_pack_43 (by decide) ?_
            refine lv_goto (tgt := 48) hx hb dX1_pack_44 (by decide) ?_
            refine lv_istore (lv' := [(4, .int 1), (0, .ref h), (1, .int 10), (2, .int lo), (3, .int hi)]) hx hb dX1_pack_48 hl (by decide) rfl (fun ls hl => ?_)
            refine lv_aload_n hx hb dX1_pack_50 rfl (lv_at hl 1 rfl) ?_
            refine lv_iload hx hb dX1_pack_51 (lv_at hl 0 rfl) ?_
            refine lv_if_ne (tgt := 60) hx hb dX1_pack_53 (by decide) (fun c_6 => ?_) (fun c_6 => ?_)
            · skip
              refine lv_iconst (v := 0) hx hb dX1_pack_60 (by decide) ?_
              refine lv_iconst (v := 1) hx hb dX1_pack_61 (by decide) ?_
              refine gvi (As := [.int 0, .int 1]) (rest := []) ⟨hx, hb, hml, hown, hts⟩ (c_X1_fails l dC dI tk tw h a b cI cJ _ f g 0 (nI n8) zc zso znu zty zhd zpa zch zlk zlo zhi zlp zll zlv 0 1) (cwV 2 hts gX1_pack_X1_fails rfl rfl rfl (by decide +kernel) ⟨Nat.le_of_ble_eq_true rfl, Nat.le_of_ble_eq_true rfl⟩) hK hP hD hS hA hZ (q0 := 0) (ci := 1) rfl rfl rfl rfl hl.1 rfl (Nat.le_of_ble_eq_true rfl) dX1_pack_62 ⟨Nat.le_of_ble_eq_true rfl, Nat.le_of_ble_eq_true rfl⟩ (fun r_8 u_9 H locs hw_7 hP hD hS => ?_)
              obtain rfl : u_9 = 0 := hw_7.1.trans (by decide)
              have hP : va_P (dC, dI) vwCl (w1 h a b cI cJ f g 0 (nI n8) zc zso znu zty zhd zpa zch zlk zlo zhi zlp zll zlv) H := hP
              have hD : va_D A (w1 h a b cI cJ f g 0 (nI n8) zc zso znu zty zhd zpa zch zlk zlo zhi zlp zll zlv) := hD
              obtain rfl : r_8 = 0 := hw_7.2.trans (by decide)
              refine lv_if_eq (tgt := 70) hx hb dX1_pack_65 (by decide) (fun c_10 => ?_) (fun c_10 => ?_)
              · skip
                refine lv_iload_n hx hb dX1_pack_70 rfl (lv_at hl 4 rfl) ?_
                refine lv_i2l hx hb dX1_pack_71 rfl ?_
                refine lv_bipush (v := 32) hx hb dX1_pack_72 (by decide) ?_
                refine lv_lshl hx hb dX1_pack_74 rfl ?_
                refine lv_iload_n hx hb dX1_pack_75 rfl (lv_at hl 3 rfl) ?_
                refine lv_i2l hx hb dX1_pack_76 rfl ?_
                refine lv_ldc2 (v := 4294967295) hx hb hown (hts (.constantLong RX1 118 (4294967295)) (by decide +kernel)) dX1_pack_77 ?_
                refine lv_land hx hb dX1_pack_80 ?_
                refine lv_lor hx hb dX1_pack_81 ?_
                have e_11 : ((hi.toInt64 <<< ((32 : Int32).toInt64 &&& 63)) ||| (lo.toInt64 &&& 4294967295) : Int64) = bo lo hi := rfl
                rw [e_11]
                refine lv_lstore (lv' := [(5, .long (bo lo hi)), (4, .int 1), (0, .ref h), (1, .int 10), (2, .int lo), (3, .int hi)]) hx hb dX1_pack_82 hl (by decide) rfl (fun ls hl => ?_)
                refine lv_iload_n hx hb dX1_pack_84 rfl (lv_at hl 3 rfl) ?_
                refine lv_bipush (v := 7) hx hb dX1_pack_85 (by decide) ?_
                refine lv_icmp_le (tgt := 98) hx hb dX1_pack_87 (by decide) (fun c_12 => ?_) (fun c_12 => ?_)
                · skip
                  exact absurd c_12 (by decide)
                · skip
                  refine lv_iload_n hx hb dX1_pack_90 rfl (lv_at hl 4 rfl) ?_
                  refine lv_i2l hx hb dX1_pack_91 rfl ?_
                  refine gsi (As := [.long lo.toInt64]) (rest := []) ⟨hx, hb, hml, hown, hts⟩ (c_X1_needs l dC dI tk tw _ lo.toInt64) (va_cwS 1 hts gX1_pack_X1_needs rfl rfl rfl (by decide +kernel) ⟨Nat.le_of_ble_eq_true rfl, Nat.le_of_ble_eq_true rfl⟩) hP hS hA hZ rfl hl.1 rfl (Nat.le_of_ble_eq_true rfl) dX1_pack_92 ⟨Nat.le_of_ble_eq_true rfl, Nat.le_of_ble_eq_true rfl⟩ (fun r_14 H locs hw_13 hP hS => ?_)
                  obtain rfl : r_14 = nI (ndN lo.toInt64) := hw_13
                  refine lv_goto (tgt := 99) hx hb dX1_pack_95 (by decide) ?_
                  refine lv_istore (lv' := [(7, .int (nI (ndN lo.toInt64))), (5, .long (bo lo hi)), (4, .int 1), (0, .ref h), (1, .int 10), (2, .int lo), (3, .int hi)]) hx hb dX1_pack_99 hl (by decide) rfl (fun ls hl => ?_)
                  refine lv_iload_n hx hb dX1_pack_101 rfl (lv_at hl 4 rfl) ?_
                  refine lv_tableIn (tgt := 368) hx hb dX1_pack_102 (by decide) (by decide) rfl (by decide) ?_
                  refine lv_iload_n hx hb dX1_pack_368 rfl (lv_at hl 4 rfl) ?_
                  refine lv_bipush (v := 10) hx hb dX1_pack_369 (by decide) ?_
                  refine lv_icmp_ne (tgt := 380) hx hb dX1_pack_371 (by decide) (fun c_15 => ?_) (fun c_15 => ?_)
                  · skip
                    exact absurd (by decide) c_15
                  · skip
                    refine lv_sipush (v := 144) hx hb dX1_pack_374 (by decide) ?_
                    refine lv_goto (tgt := 383) hx hb dX1_pack_377 (by decide) ?_
                    refine lv_istore (lv' := [(8, .int 144), (7, .int (nI (ndN lo.toInt64))), (5, .long (bo lo hi)), (4, .int 1), (0, .ref h), (1, .int 10), (2, .int lo), (3, .int hi)]) hx hb dX1_pack_383 hl (by decide) rfl (fun ls hl => ?_)
                    refine lv_iload_n hx hb dX1_pack_385 rfl (lv_at hl 5 rfl) ?_
                    refine lv_bipush (v := 10) hx hb dX1_pack_386 (by decide) ?_
                    refine lv_icmp_ne (tgt := 397) hx hb dX1_pack_388 (by decide) (fun c_16 => ?_) (fun c_16 => ?_)
                    · skip
                      exact absurd (by decide) c_16
                    · skip
                      refine lv_sipush (v := 220) hx hb dX1_pack_391 (by decide) ?_
                      refine lv_goto (tgt := 400) hx hb dX1_pack_394 (by decide) ?_
                      refine lv_istore (lv' := [(9, .int 220), (8, .int 144), (7, .int (nI (ndN lo.toInt64))), (5, .long (bo lo hi)), (4, .int 1), (0, .ref h), (1, .int 10), (2, .int lo), (3, .int hi)]) hx hb dX1_pack_400 hl (by decide) rfl (fun ls hl => ?_)
                      refine lv_iload_n hx hb dX1_pack_402 rfl (lv_at hl 7 rfl) ?_
                      refine lv_bipush (v := 16) hx hb dX1_pack_403 (by decide) ?_
                      refine lv_icmp_ge (tgt := 422) hx hb dX1_pack_405 (by decide) (fun c_17 => ?_) (fun c_17 => ?_)
                      · skip
                        refine lv_iload_n hx hb dX1_pack_422 rfl (lv_at hl 7 rfl) ?_
                        refine lv_ldc (v := 65536) hx hb hown (hts (.constant RX1 136 (65536)) (by decide +kernel)) dX1_pack_423 ?_
                        refine lv_icmp_ge (tgt := 441) hx hb dX1_pack_425 (by decide) (fun c_18 => ?_) (fun c_18 => ?_)
                        · skip
                          refine lv_aload_n hx hb dX1_pack_441 rfl (lv_at hl 5 rfl) ?_
                          refine lv_iload hx hb dX1_pack_442 (lv_at hl 0 rfl) ?_
                          refine lv_iconst (v := 1) hx hb dX1_pack_444 (by decide) ?_
                          refine lv_iadd hx hb dX1_pack_445 ?_
                          refine lv_iconst (v := 4) hx hb dX1_pack_446 (by decide) ?_
                          refine lv_iload_n hx hb dX1_pack_447 rfl (lv_at hl 7 rfl) ?_
                          refine lv_i2l hx hb dX1_pack_448 rfl ?_
                          refine lv_iconst (v := -1) hx hb dX1_pack_449 (by decide) ?_
                          have hT : pk10 lo hi = ((220 + 1), 4, lo.toInt64, (-1)) := by unfold pk10; rw [if_pos c_17, if_pos c_18]
                          have hr9 : 4096 < n8 + 1 + 4 := by rw [hT, phL_n] at hr8; omega
                          refine gvi (As := [.int (220 + 1), .int 4, .long lo.toInt64, .int (-1)]) (rest := []) ⟨hx, hb, hml, hown, hts⟩ (c_X1_packHead_f l dC dI tk tw h a b cI cJ _ f g zc zso znu zty zhd zpa zch zlk zlo zhi zlp zll zlv n8 hn8 (220 + 1) 4 (by decide) lo.toInt64 hr9) (cwV 4 hts gX1_pack_X1_packHead rfl rfl rfl (by decide +kernel) ⟨Nat.le_of_ble_eq_true rfl, Nat.le_of_ble_eq_true rfl⟩) hK hP hD hS hA hZ (q0 := 0) (ci := 1) rfl rfl rfl rfl hl.1 rfl (Nat.le_of_ble_eq_true rfl) dX1_pack_450 ⟨Nat.le_of_ble_eq_true rfl, Nat.le_of_ble_eq_true rfl⟩ (fun r_20 u_21 H locs hw_19 hP hD hS => ?_)
                          have hP : va_P (dC, dI) vwCl (w1 h a b cI cJ f g 2 (nI n8) zc zso znu zty zhd zpa zch zlk zlo zhi zlp zll zlv) H := hP
                          have hD : va_D A (w1 h a b cI cJ f g 2 (nI n8) zc zso znu zty zhd zpa zch zlk zlo zhi zlp zll zlv) := hD
                          have hP9 : va_P (dC, dI) vwCl ((fun (_ : Unit) => w1 h a b cI cJ f g 2 (nI n8) zc zso znu zty zhd zpa zch zlk zlo zhi zlp zll zlv) (())) H := hP
                          have hD9 : va_D A ((fun (_ : Unit) => w1 h a b cI cJ f g 2 (nI n8) zc zso znu zty zhd zpa zch zlk zlo zhi zlp zll zlv) (())) := hD
                          exact W.iret (v := r_20) hx hb hr (fun t ht hW => ⟨⟨r_20, (), rfl, trivial, by rw [ht]; exact hP9, va_K.moved hW.alike hK, hD9⟩, hS.F ht⟩) hS.2.2 dX1_pack_453
                        · skip
                          refine lv_aload_n hx hb dX1_pack_428 rfl (lv_at hl 5 rfl) ?_
                          refine lv_iload hx hb dX1_pack_429 (lv_at hl 0 rfl) ?_
                          refine lv_iconst (v := 2) hx hb dX1_pack_431 (by decide) ?_
                          refine lv_iload_n hx hb dX1_pack_432 rfl (lv_at hl 7 rfl) ?_
                          refine lv_i2l hx hb dX1_pack_433 rfl ?_
                          refine lv_iconst (v := -1) hx hb dX1_pack_434 (by decide) ?_
                          have hT : pk10 lo hi = (220, 2, lo.toInt64, (-1)) := by unfold pk10; rw [if_pos c_17, if_neg c_18]
                          have hr9 : 4096 < n8 + 1 + 2 := by rw [hT, phL_n] at hr8; omega
                          refine gvi (As := [.int 220, .int 2, .long lo.toInt64, .int (-1)]) (rest := []) ⟨hx, hb, hml, hown, hts⟩ (c_X1_packHead_f l dC dI tk tw h a b cI cJ _ f g zc zso znu zty zhd zpa zch zlk zlo zhi zlp zll zlv n8 hn8 220 2 (by decide) lo.toInt64 hr9) (cwV 4 hts gX1_pack_X1_packHead rfl rfl rfl (by decide +kernel) ⟨Nat.le_of_ble_eq_true rfl, Nat.le_of_ble_eq_true rfl⟩) hK hP hD hS hA hZ (q0 := 0) (ci := 1) rfl rfl rfl rfl hl.1 rfl (Nat.le_of_ble_eq_true rfl) dX1_pack_435 ⟨Nat.le_of_ble_eq_true rfl, Nat.le_of_ble_eq_true rfl⟩ (fun r_23 u_24 H locs hw_22 hP hD hS => ?_)
                          have hP : va_P (dC, dI) vwCl (w1 h a b cI cJ f g 2 (nI n8) zc zso znu zty zhd zpa zch zlk zlo zhi zlp zll zlv) H := hP
                          have hD : va_D A (w1 h a b cI cJ f g 2 (nI n8) zc zso znu zty zhd zpa zch zlk zlo zhi zlp zll zlv) := hD
                          refine lv_goto (tgt := 453) hx hb dX1_pack_438 (by decide) ?_
                          have hP9 : va_P (dC, dI) vwCl ((fun (_ : Unit) => w1 h a b cI cJ f g 2 (nI n8) zc zso znu zty zhd zpa zch zlk zlo zhi zlp zll zlv) (())) H := hP
                          have hD9 : va_D A ((fun (_ : Unit) => w1 h a b cI cJ f g 2 (nI n8) zc zso znu zty zhd zpa zch zlk zlo zhi zlp zll zlv) (())) := hD
                          exact W.iret (v := r_23) hx hb hr (fun t ht hW => ⟨⟨r_23, (), rfl, trivial, by rw [ht]; exact hP9, va_K.moved hW.alike hK, hD9⟩, hS.F ht⟩) hS.2.2 dX1_pack_453
                      · skip
                        refine lv_aload_n hx hb dX1_pack_408 rfl (lv_at hl 5 rfl) ?_
                        refine lv_iload hx hb dX1_pack_409 (lv_at hl 1 rfl) ?_
                        refine lv_iload_n hx hb dX1_pack_411 rfl (lv_at hl 7 rfl) ?_
                        refine lv_iadd hx hb dX1_pack_412 ?_
                        refine lv_iconst (v := 0) hx hb dX1_pack_413 (by decide) ?_
                        refine lv_lconst (v := 0) hx hb dX1_pack_414 (by decide) ?_
                        refine lv_iconst (v := -1) hx hb dX1_pack_415 (by decide) ?_
                        have hT : pk10 lo hi = ((144 + lo), 0, 0, (-1)) := by unfold pk10; rw [if_neg c_17]
                        have hr9 : 4096 < n8 + 1 + 0 := by rw [hT, phL_n] at hr8; omega
                        refine gvi (As := [.int (144 + lo), .int 0, .long 0, .int (-1)]) (rest := []) ⟨hx, hb, hml, hown, hts⟩ (c_X1_packHead_f l dC dI tk tw h a b cI cJ _ f g zc zso znu zty zhd zpa zch zlk zlo zhi zlp zll zlv n8 hn8 (144 + lo) 0 (by decide) 0 hr9) (cwV 4 hts gX1_pack_X1_packHead rfl rfl rfl (by decide +kernel) ⟨Nat.le_of_ble_eq_true rfl, Nat.le_of_ble_eq_true rfl⟩) hK hP hD hS hA hZ (q0 := 0) (ci := 1) rfl rfl rfl rfl hl.1 rfl (Nat.le_of_ble_eq_true rfl) dX1_pack_416 ⟨Nat.le_of_ble_eq_true rfl, Nat.le_of_ble_eq_true rfl⟩ (fun r_26 u_27 H locs hw_25 hP hD hS => ?_)
                        have hP : va_P (dC, dI) vwCl (w1 h a b cI cJ f g 2 (nI n8) zc zso znu zty zhd zpa zch zlk zlo zhi zlp zll zlv) H := hP
                        have hD : va_D A (w1 h a b cI cJ f g 2 (nI n8) zc zso znu zty zhd zpa zch zlk zlo zhi zlp zll zlv) := hD
                        refine lv_goto (tgt := 453) hx hb dX1_pack_419 (by decide) ?_
                        have hP9 : va_P (dC, dI) vwCl ((fun (_ : Unit) => w1 h a b cI cJ f g 2 (nI n8) zc zso znu zty zhd zpa zch zlk zlo zhi zlp zll zlv) (())) H := hP
                        have hD9 : va_D A ((fun (_ : Unit) => w1 h a b cI cJ f g 2 (nI n8) zc zso znu zty zhd zpa zch zlk zlo zhi zlp zll zlv) (())) := hD
                        exact W.iret (v := r_26) hx hb hr (fun t ht hW => ⟨⟨r_26, (), rfl, trivial, by rw [ht]; exact hP9, va_K.moved hW.alike hK, hD9⟩, hS.F ht⟩) hS.2.2 dX1_pack_453
              · skip
                exact absurd (by decide) c_10
            · skip
              exact absurd c_6 (by decide)
          · skip
            exact absurd c_5 (by decide)
set_option maxHeartbeats 4000000 in
set_option maxRecDepth 100000 in
theorem c_X1_pack_11 (l : Launch) (dC : Nat → ClassId) (dI : Nat → Nat → Nat) (tk tw : Nat) (h a b : Nat) (cI cJ : ClassId) (sz : Nat) (f : Nat → Int32) (g : Nat → Int64) (zt : Int32) (zc : Int32) (zso : Int32) (znu : Int64) (zty : Int32) (zhd : Int32) (zpa : Int64) (zch : Int64) (zlk : Int32) (zlo : Int32) (zhi : Int32) (zlp : Int32) (zll : Int32) (zlv : Int32) (n8 : Nat) (lo hi : Int32) (h8 : ¬ lo < 0) (hr8 : n8 + phL (pk11 lo hi) ≤ 4096) : Met l yX1_pack wsX1_pack ({ frames := 2, cells := 0, slots := 0, locals := 49 }) (va_Pc [.ref h, .int 11, .int lo, .int hi] (pr dC dI (t1 cI cJ) (w1 h a b cI cJ f g zt (nI n8) zc zso znu zty zhd zpa zch zlk zlo zhi zlp zll zlv) sz tk tw)) (va_Qi (fun (r : Int32) (_ : Unit) => r = nI (phL (pk11 lo hi))) (fun (_ : Unit) => po dC dI (t1 cI cJ) (va_A (w1 h a b cI cJ f g zt (nI n8) zc zso znu zty zhd zpa zch zlk zlo zhi zlp zll zlv) sz) (w1 h a b cI cJ (phF f n8 (pk11 lo hi)) g 0 (nI (n8 + phL (pk11 lo hi))) zc zso znu zty zhd zpa zch zlk zlo zhi zlp zll zlv)) (va_A (w1 h a b cI cJ f g zt (nI n8) zc zso znu zty zhd zpa zch zlk zlo zhi zlp zll zlv) sz)) 0 0 (va_A (w1 h a b cI cJ f g zt (nI n8) zc zso znu zty zhd zpa zch zlk zlo zhi zlp zll zlv) sz) := by
  refine Met.ofW (cc := cX1_pack) (maxL := 11) (ret := (some .int)) (by decide) rfl ?_
  intro p e s m args below meth c s₁ Bd hml hv
  obtain ⟨rfl, hsz, hP, hK, hD0, hZ⟩ := hv
  have hx := Bd.exec
  have hb := Bd.bytes
  have hr := Bd.returns
  have hts := atoms_spec (ws := wsX1_pack) Bd.pre
  have hown : s.vm.findClass RX1 = some m.cls := findClass_of_methodNamed Bd.named
  have hlocks := Bd.notSynchronized
  subst hsz
  have hD := hD0.self (sz := s.heap.size)
  generalize hAe : va_A (w1 h a b cI cJ f g zt (nI n8) zc zso znu zty zhd zpa zch zlk zlo zhi zlp zll zlv) s.heap.size = A at hD hZ ⊢
  have hA : ∀ q : Nat, s.heap.size ≤ q → A q := fun q h => by rw [← hAe]; exact Or.inr h
  have hS : va_S A s.heap s.heap [] := va_S.rf
  have hP : va_P (dC, dI) vwCl (w1 h a b cI cJ f g zt (nI n8) zc zso znu zty zhd zpa zch zlk zlo zhi zlp zll zlv) s.heap := hP
  have hin0 : ∀ w ∈ wsX10, w ∈ wsX1_pack := by decide +kernel
  have fl21 := hts (.fieldLink RX1 21 "MessageReaderModel" "thrown" "I") (by decide +kernel)
  have hl := lv_entry ([.ref h, .int 11, .int lo, .int hi]) (n := 11) (Nat.le_of_ble_eq_true rfl)
  rw [lg_entry_eq]
  generalize (lg_sl ([.ref h, .int 11, .int lo, .int hi]) ++ List.replicate (11 - (lg_sl ([.ref h, .int 11, .int lo, .int hi])).length) Slot.unset).toArray = ls at hl ⊢
  have hl : lv_has ls 11 [(0, .ref h), (1, .int 11), (2, .int lo), (3, .int hi)] := hl
  refine lv_aload_n hx hb dX1_pack_0 rfl (lv_at hl 0 rfl) ?_
  refine lv_iconst (v := 0) hx hb dX1_pack_1 (by decide) ?_
  refine va_put (D := (dC, dI)) (ci := 1) (v := .int 0) (ty := .int) (C := RX1) (T := TX1) (N := 17) hx hb hts hin0 tyX1 tyX1_ok nmX1 hown hK hP hD hS 0 rfl rfl 0 (by decide) fl21 (fun _ h9 => h9) rfl (by decide +kernel) rfl rfl (Nat.le_of_ble_eq_true rfl) dX1_pack_2 (fun H locs hP hD hS => ?_)
  have hP : va_P (dC, dI) vwCl (w1 h a b cI cJ f g 0 (nI n8) zc zso znu zty zhd zpa zch zlk zlo zhi zlp zll zlv) H := hP
  have hD : va_D A (w1 h a b cI cJ f g 0 (nI n8) zc zso znu zty zhd zpa zch zlk zlo zhi zlp zll zlv) := hD
  refine lv_iload_n hx hb dX1_pack_5 rfl (lv_at hl 1 rfl) ?_
  refine lv_if_le (tgt := 47) hx hb dX1_pack_6 (by decide) (fun c_1 => ?_) (fun c_1 => ?_)
  · skip
    exact absurd c_1 (by decide)
  · skip
    refine lv_iload_n hx hb dX1_pack_9 rfl (lv_at hl 1 rfl) ?_
    refine lv_bipush (v := 13) hx hb dX1_pack_10 (by decide) ?_
    refine lv_icmp_ge (tgt := 47) hx hb dX1_pack_12 (by decide) (fun c_2 => ?_) (fun c_2 => ?_)
    · skip
      exact absurd c_2 (by decide)
    · skip
      refine lv_iload_n hx hb dX1_pack_15 rfl (lv_at hl 1 rfl) ?_
      refine lv_bipush (v := 8) hx hb dX1_pack_16 (by decide) ?_
      refine lv_icmp_lt (tgt := 25) hx hb dX1_pack_18 (by decide) (fun c_3 => ?_) (fun c_3 => ?_)
      · skip
        exact absurd c_3 (by decide)
      · skip
        refine lv_iload_n hx hb dX1_pack_21 rfl (lv_at hl 2 rfl) ?_
        refine lv_if_lt (tgt := 47) hx hb dX1_pack_22 (by decide) (fun c_4 => ?_) (fun c_4 => ?_)
        · skip
          exact absurd c_4 h8
        · skip
          refine lv_iload_n hx hb dX1_pack_25 rfl (lv_at hl 1 rfl) ?_
          refine lv_bipush (v := 12) hx hb dX1_pack_26 (by decide) ?_
          refine lv_icmp_ne (tgt := 43) hx hb dX1_pack_28 (by decide) (fun c_5 => ?_) (fun c_5 => ?_)
          · skip
            refine lv_iconst (v := 1) hx hb dX1_pack_43 (by decide) ?_
            refine lv_goto (tgt := 48) hx hb dX1_pack_44 (by decide) ?_
            refine lv_istore (lv' := [(4, .int 1), (0, .ref h), (1, .int 11), (2, .int lo), (3, .int hi)]) hx hb dX1_pack_48 hl (by decide) rfl (fun ls hl => ?_)
            refine lv_aload_n hx hb dX1_pack_50 rfl (lv_at hl 1 rfl) ?_
            refine lv_iload hx hb dX1_pack_51 (lv_at hl 0 rfl) ?_
            refine lv_if_ne (tgt := 60) hx hb dX1_pack_53 (by decide) (fun c_6 => ?_) (fun c_6 => ?_)
            · skip
              refine lv_iconst (v := 0) hx hb dX1_pack_60 (by decide) ?_
              refine lv_iconst (v := 1) hx hb dX1_pack_61 (by decide) ?_
              refine gvi (As := [.int 0, .int 1]) (rest := []) ⟨hx, hb, hml, hown, hts⟩ (c_X1_fails l dC dI tk tw h a b cI cJ _ f g 0 (nI n8) zc zso znu zty zhd zpa zch zlk zlo zhi zlp zll zlv 0 1) (cwV 2 hts gX1_pack_X1_fails rfl rfl rfl (by decide +kernel) ⟨Nat.le_of_ble_eq_true rfl, Nat.le_of_ble_eq_true rfl⟩) hK hP hD hS hA hZ (q0 := 0) (ci := 1) rfl rfl rfl rfl hl.1 rfl (Nat.le_of_ble_eq_true rfl) dX1_pack_62 ⟨Nat.le_of_ble_eq_true rfl, Nat.le_of_ble_eq_true rfl⟩ (fun r_8 u_9 H locs hw_7 hP hD hS => ?_)
              obtain rfl : u_9 = 0 := hw_7.1.trans (by decide)
              have hP : va_P (dC, dI) vwCl (w1 h a b cI cJ f g 0 (nI n8) zc zso znu zty zhd zpa zch zlk zlo zhi zlp zll zlv) H := hP
              have hD : va_D A (w1 h a b cI cJ f g 0 (nI n8) zc zso znu zty zhd zpa zch zlk zlo zhi zlp zll zlv) := hD
              obtain rfl : r_8 = 0 := hw_7.2.trans (by decide)
              refine lv_if_eq (tgt := 70) hx hb dX1_pack_65 (by decide) (fun c_10 => ?_) (fun c_10 => ?_)
              · skip
                refine lv_iload_n hx hb dX1_pack_70 rfl (lv_at hl 4 rfl) ?_
                refine lv_i2l hx hb dX1_pack_71 rfl ?_
                refine lv_bipush (v := 32) hx hb dX1_pack_72 (by decide) ?_
                refine lv_lshl hx hb dX1_pack_74 rfl ?_
                refine lv_iload_n hx hb dX1_pack_75 rfl (lv_at hl 3 rfl) ?_
                refine lv_i2l hx hb dX1_pack_76 rfl ?_
                refine lv_ldc2 (v := 4294967295) hx hb hown (hts (.constantLong RX1 118 (4294967295)) (by decide +kernel)) dX1_pack_77 ?_
                refine lv_land hx hb dX1_pack_80 ?_
                refine lv_lor hx hb dX1_pack_81 ?_
                have e_11 : ((hi.toInt64 <<< ((32 : Int32).toInt64 &&& 63)) ||| (lo.toInt64 &&& 4294967295) : Int64) = bo lo hi := rfl
                rw [e_11]
                refine lv_lstore (lv' := [(5, .long (bo lo hi)), (4, .int 1), (0, .ref h), (1, .int 11), (2, .int lo), (3, .int hi)]) hx hb dX1_pack_82 hl (by decide) rfl (fun ls hl => ?_)
                refine lv_iload_n hx hb dX1_pack_84 rfl (lv_at hl 3 rfl) ?_
                refine lv_bipush (v := 7) hx hb dX1_pack_85 (by decide) ?_
                refine lv_icmp_le (tgt := 98) hx hb dX1_pack_87 (by decide) (fun c_12 => ?_) (fun c_12 => ?_)
                · skip
                  exact absurd c_12 (by decide)
                · skip
                  refine lv_iload_n hx hb dX1_pack_90 rfl (lv_at hl 4 rfl) ?_
                  refine lv_i2l hx hb dX1_pack_91 rfl ?_
                  refine gsi (As := [.long lo.toInt64]) (rest := []) ⟨hx, hb, hml, hown, hts⟩ (c_X1_needs l dC dI tk tw _ lo.toInt64) (va_cwS 1 hts gX1_pack_X1_needs rfl rfl rfl (by decide +kernel) ⟨Nat.le_of_ble_eq_true rfl, Nat.le_of_ble_eq_true rfl⟩) hP hS hA hZ rfl hl.1 rfl (Nat.le_of_ble_eq_true rfl) dX1_pack_92 ⟨Nat.le_of_ble_eq_true rfl, Nat.le_of_ble_eq_true rfl⟩ (fun r_14 H locs hw_13 hP hS => ?_)
                  obtain rfl : r_14 = nI (ndN lo.toInt64) := hw_13
                  refine lv_goto (tgt := 99) hx hb dX1_pack_95 (by decide) ?_
                  refine lv_istore (lv' := [(7, .int (nI (ndN lo.toInt64))), (5, .long (bo lo hi)), (4, .int 1), (0, .ref h), (1, .int 11), (2, .int lo), (3, .int hi)]) hx hb dX1_pack_99 hl (by decide) rfl (fun ls hl => ?_)
                  refine lv_iload_n hx hb dX1_pack_101 rfl (lv_at hl 4 rfl) ?_
                  refine lv_tableIn (tgt := 368) hx hb dX1_pack_102 (by decide) (by decide) rfl (by decide) ?_
                  refine lv_iload_n hx hb dX1_pack_368 rfl (lv_at hl 4 rfl) ?_
                  refine lv_bipush (v := 10) hx hb dX1_pack_369 (by decide) ?_
                  refine lv_icmp_ne (tgt := 380) hx hb dX1_pack_371 (by decide) (fun c_15 => ?_) (fun c_15 => ?_)
                  · skip
                    refine lv_sipush (v := 128) hx hb dX1_pack_380 (by decide) ?_
                    refine lv_istore (lv' := [(8, .int 128), (7, .int (nI (ndN lo.toInt64))), (5, .long (bo lo hi)), (4, .int 1), (0, .ref h), (1, .int 11), (2, .int lo), (3, .int hi)]) hx hb dX1_pack_383 hl (by decide) rfl (fun ls hl => ?_)
                    refine lv_iload_n hx hb dX1_pack_385 rfl (lv_at hl 5 rfl) ?_
                    refine lv_bipush (v := 10) hx hb dX1_pack_386 (by decide) ?_
                    refine lv_icmp_ne (tgt := 397) hx hb dX1_pack_388 (by decide) (fun c_16 => ?_) (fun c_16 => ?_)
                    · skip
                      refine lv_sipush (v := 222) hx hb dX1_pack_397 (by decide) ?_
                      refine lv_istore (lv' := [(9, .int 222), (8, .int 128), (7, .int (nI (ndN lo.toInt64))), (5, .long (bo lo hi)), (4, .int 1), (0, .ref h), (1, .int 11), (2, .int lo), (3, .int hi)]) hx hb dX1_pack_400 hl (by decide) rfl (fun ls hl => ?_)
                      refine lv_iload_n hx hb dX1_pack_402 rfl (lv_at hl 7 rfl) ?_
                      refine lv_bipush (v := 16) hx hb dX1_pack_403 (by decide) ?_
                      refine lv_icmp_ge (tgt := 422) hx hb dX1_pack_405 (by decide) (fun c_17 => ?_) (fun c_17 => ?_)
                      · skip
                        refine lv_iload_n hx hb dX1_pack_422 rfl (lv_at hl 7 rfl) ?_
                        refine lv_ldc (v := 65536) hx hb hown (hts (.constant RX1 136 (65536)) (by decide +kernel)) dX1_pack_423 ?_
                        refine lv_icmp_ge (tgt := 441) hx hb dX1_pack_425 (by decide) (fun c_18 => ?_) (fun c_18 => ?_)
                        · skip
                          refine lv_aload_n hx hb dX1_pack_441 rfl (lv_at hl 5 rfl) ?_
                          refine lv_iload hx hb dX1_pack_442 (lv_at hl 0 rfl) ?_
                          refine lv_iconst (v := 1) hx hb dX1_pack_444 (by decide) ?_
                          refine lv_iadd hx hb dX1_pack_445 ?_
                          refine lv_iconst (v := 4) hx hb dX1_pack_446 (by decide) ?_
                          refine lv_iload_n hx hb dX1_pack_447 rfl (lv_at hl 7 rfl) ?_
                          refine lv_i2l hx hb dX1_pack_448 rfl ?_
                          refine lv_iconst (v := -1) hx hb dX1_pack_449 (by decide) ?_
                          have hT : pk11 lo hi = ((222 + 1), 4, lo.toInt64, (-1)) := by unfold pk11; rw [if_pos c_17, if_pos c_18]
                          have hr9 : n8 + 1 + 4 ≤ 4096 := by rw [hT, phL_n] at hr8; omega
                          refine gvi (As := [.int (222 + 1), .int 4, .long lo.toInt64, .int (-1)]) (rest := []) ⟨hx, hb, hml, hown, hts⟩ (c_X1_packHead l dC dI tk tw h a b cI cJ _ f g zc zso znu zty zhd zpa zch zlk zlo zhi zlp zll zlv n8 (222 + 1) 4 (by decide) lo.toInt64 hr9) (cwV 4 hts gX1_pack_X1_packHead rfl rfl rfl (by decide +kernel) ⟨Nat.le_of_ble_eq_true rfl, Nat.le_of_ble_eq_true rfl⟩) hK hP hD hS hA hZ (q0 := 0) (ci := 1) rfl rfl rfl rfl hl.1 rfl (Nat.le_of_ble_eq_true rfl) dX1_pack_450 ⟨Nat.le_of_ble_eq_true rfl, Nat.le_of_ble_eq_true rfl⟩ (fun r_20 u_21 H locs hw_19 hP hD hS => ?_)
                          have hP : va_P (dC, dI) vwCl (w1 h a b cI cJ (apM (upd f n8 (222 + 1)) (n8 + 1) lo.toInt64 4) g 0 (nI (n8 + (1 + 4))) zc zso znu zty zhd zpa zch zlk zlo zhi zlp zll zlv) H := hP
                          have hD : va_D A (w1 h a b cI cJ (apM (upd f n8 (222 + 1)) (n8 + 1) lo.toInt64 4) g 0 (nI (n8 + (1 + 4))) zc zso znu zty zhd zpa zch zlk zlo zhi zlp zll zlv) := hD
                          obtain rfl : r_20 = nI (1 + 4) := hw_19
                          have hP9 : va_P (dC, dI) vwCl ((fun (_ : Unit) => w1 h a b cI cJ (phF f n8 (pk11 lo hi)) g 0 (nI (n8 + phL (pk11 lo hi))) zc zso znu zty zhd zpa zch zlk zlo zhi zlp zll zlv) (())) H := by rw [hT, phL_n, phF_n]; exact hP
                          have hD9 : va_D A ((fun (_ : Unit) => w1 h a b cI cJ (phF f n8 (pk11 lo hi)) g 0 (nI (n8 + phL (pk11 lo hi))) zc zso znu zty zhd zpa zch zlk zlo zhi zlp zll zlv) (())) := by rw [hT, phL_n, phF_n]; exact hD
                          exact W.iret (v := nI (1 + 4)) hx hb hr (fun t ht hW => ⟨⟨nI (1 + 4), (), rfl, (by rw [hT, phL_n]), by rw [ht]; exact hP9, va_K.moved hW.alike hK, hD9⟩, hS.F ht⟩) hS.2.2 dX1_pack_453
                        · skip
                          refine lv_aload_n hx hb dX1_pack_428 rfl (lv_at hl 5 rfl) ?_
                          refine lv_iload hx hb dX1_pack_429 (lv_at hl 0 rfl) ?_
                          refine lv_iconst (v := 2) hx hb dX1_pack_431 (by decide) ?_
                          refine lv_iload_n hx hb dX1_pack_432 rfl (lv_at hl 7 rfl) ?_
                          refine lv_i2l hx hb dX1_pack_433 rfl ?_
                          refine lv_iconst (v := -1) hx hb dX1_pack_434 (by decide) ?_
                          have hT : pk11 lo hi = (222, 2, lo.toInt64, (-1)) := by unfold pk11; rw [if_pos c_17, if_neg c_18]
                          have hr9 : n8 + 1 + 2 ≤ 4096 := by rw [hT, phL_n] at hr8; omega
                          refine gvi (As := [.int 222, .int 2, .long lo.toInt64, .int (-1)]) (rest := []) ⟨hx, hb, hml, hown, hts⟩ (c_X1_packHead l dC dI tk tw h a b cI cJ _ f g zc zso znu zty zhd zpa zch zlk zlo zhi zlp zll zlv n8 222 2 (by decide) lo.toInt64 hr9) (cwV 4 hts gX1_pack_X1_packHead rfl rfl rfl (by decide +kernel) ⟨Nat.le_of_ble_eq_true rfl, Nat.le_of_ble_eq_true rfl⟩) hK hP hD hS hA hZ (q0 := 0) (ci := 1) rfl rfl rfl rfl hl.1 rfl (Nat.le_of_ble_eq_true rfl) dX1_pack_435 ⟨Nat.le_of_ble_eq_true rfl, Nat.le_of_ble_eq_true rfl⟩ (fun r_23 u_24 H locs hw_22 hP hD hS => ?_)
                          have hP : va_P (dC, dI) vwCl (w1 h a b cI cJ (apM (upd f n8 222) (n8 + 1) lo.toInt64 2) g 0 (nI (n8 + (1 + 2))) zc zso znu zty zhd zpa zch zlk zlo zhi zlp zll zlv) H := hP
                          have hD : va_D A (w1 h a b cI cJ (apM (upd f n8 222) (n8 + 1) lo.toInt64 2) g 0 (nI (n8 + (1 + 2))) zc zso znu zty zhd zpa zch zlk zlo zhi zlp zll zlv) := hD
                          obtain rfl : r_23 = nI (1 + 2) := hw_22
                          refine lv_goto (tgt := 453) hx hb dX1_pack_438 (by decide) ?_
                          have hP9 : va_P (dC, dI) vwCl ((fun (_ : Unit) => w1 h a b cI cJ (phF f n8 (pk11 lo hi)) g 0 (nI (n8 + phL (pk11 lo hi))) zc zso znu zty zhd zpa zch zlk zlo zhi zlp zll zlv) (())) H := by rw [hT, phL_n, phF_n]; exact hP
                          have hD9 : va_D A ((fun (_ : Unit) => w1 h a b cI cJ (phF f n8 (pk11 lo hi)) g 0 (nI (n8 + phL (pk11 lo hi))) zc zso znu zty zhd zpa zch zlk zlo zhi zlp zll zlv) (())) := by rw [hT, phL_n, phF_n]; exact hD
                          exact W.iret (v := nI (1 + 2)) hx hb hr (fun t ht hW => ⟨⟨nI (1 + 2), (), rfl, (by rw [hT, phL_n]), by rw [ht]; exact hP9, va_K.moved hW.alike hK, hD9⟩, hS.F ht⟩) hS.2.2 dX1_pack_453
                      · skip
                        refine lv_aload_n hx hb dX1_pack_408 rfl (lv_at hl 5 rfl) ?_
                        refine lv_iload hx hb dX1_pack_409 (lv_at hl 1 rfl) ?_
                        refine lv_iload_n hx hb dX1_pack_411 rfl (lv_at hl 7 rfl) ?_
                        refine lv_iadd hx hb dX1_pack_412 ?_
                        refine lv_iconst (v := 0) hx hb dX1_pack_413 (by decide) ?_
                        refine lv_lconst (v := 0) hx hb dX1_pack_414 (by decide) ?_
                        refine lv_iconst (v := -1) hx hb dX1_pack_415 (by decide) ?_
                        have hT : pk11 lo hi = ((128 + lo), 0, 0, (-1)) := by unfold pk11; rw [if_neg c_17]
                        have hr9 : n8 + 1 + 0 ≤ 4096 := by rw [hT, phL_n] at hr8; omega
                        refine gvi (As := [.int (128 + lo), .int 0, .long 0, .int (-1)]) (rest := []) ⟨hx, hb, hml, hown, hts⟩ (c_X1_packHead l dC dI tk tw h a b cI cJ _ f g zc zso znu zty zhd zpa zch zlk zlo zhi zlp zll zlv n8 (128 + lo) 0 (by decide) 0 hr9) (cwV 4 hts gX1_pack_X1_packHead rfl rfl rfl (by decide +kernel) ⟨Nat.le_of_ble_eq_true rfl, Nat.le_of_ble_eq_true rfl⟩) hK hP hD hS hA hZ (q0 := 0) (ci := 1) rfl rfl rfl rfl hl.1 rfl (Nat.le_of_ble_eq_true rfl) dX1_pack_416 ⟨Nat.le_of_ble_eq_true rfl, Nat.le_of_ble_eq_true rfl⟩ (fun r_26 u_27 H locs hw_25 hP hD hS => ?_)
                        have hP : va_P (dC, dI) vwCl (w1 h a b cI cJ (apM (upd f n8 (128 + lo)) (n8 + 1) 0 0) g 0 (nI (n8 + (1 + 0))) zc zso znu zty zhd zpa zch zlk zlo zhi zlp zll zlv) H := hP
                        have hD : va_D A (w1 h a b cI cJ (apM (upd f n8 (128 + lo)) (n8 + 1) 0 0) g 0 (nI (n8 + (1 + 0))) zc zso znu zty zhd zpa zch zlk zlo zhi zlp zll zlv) := hD
                        obtain rfl : r_26 = nI (1 + 0) := hw_25
                        refine lv_goto (tgt := 453) hx hb dX1_pack_419 (by decide) ?_
                        have hP9 : va_P (dC, dI) vwCl ((fun (_ : Unit) => w1 h a b cI cJ (phF f n8 (pk11 lo hi)) g 0 (nI (n8 + phL (pk11 lo hi))) zc zso znu zty zhd zpa zch zlk zlo zhi zlp zll zlv) (())) H := by rw [hT, phL_n, phF_n]; exact hP
                        have hD9 : va_D A ((fun (_ : Unit) => w1 h a b cI cJ (phF f n8 (pk11 lo hi)) g 0 (nI (n8 + phL (pk11 lo hi))) zc zso znu zty zhd zpa zch zlk zlo zhi zlp zll zlv) (())) := by rw [hT, phL_n, phF_n]; exact hD
                        exact W.iret (v := nI (1 + 0)) hx hb hr (fun t ht hW => ⟨⟨nI (1 + 0), (), rfl, (by rw [hT, phL_n]), by rw [ht]; exact hP9, va_K.moved hW.alike hK, hD9⟩, hS.F ht⟩) hS.2.2 dX1_pack_453
                    · skip
                      exact absurd c_16 (by decide)
                  · skip
                    exact absurd c_15 (by decide)
              · skip
                exact absurd (by decide) c_10
            · skip
              exact absurd c_6 (by decide)
          · skip
            exact absurd c_5 (by decide)
set_option maxHeartbeats 4000000 in
set_option maxRecDepth 100000 in
theorem c_X1_pack_11f (l : Launch) (dC : Nat → ClassId) (dI : Nat → Nat → Nat) (tk tw : Nat) (h a b : Nat) (cI cJ : ClassId) (sz : Nat) (f : Nat → Int32) (g : Nat → Int64) (zt : Int32) (zc : Int32) (zso : Int32) (znu : Int64) (zty : Int32) (zhd : Int32) (zpa : Int64) (zch : Int64) (zlk : Int32) (zlo : Int32) (zhi : Int32) (zlp : Int32) (zll : Int32) (zlv : Int32) (n8 : Nat) (hn8 : n8 ≤ 4096) (lo hi : Int32) (h8 : ¬ lo < 0) (hr8 : 4096 < n8 + phL (pk11 lo hi)) : Met l yX1_pack wsX1_pack ({ frames := 2, cells := 0, slots := 0, locals := 49 }) (va_Pc [.ref h, .int 11, .int lo, .int hi] (pr dC dI (t1 cI cJ) (w1 h a b cI cJ f g zt (nI n8) zc zso znu zty zhd zpa zch zlk zlo zhi zlp zll zlv) sz tk tw)) (va_Qi (fun (r : Int32) (_ : Unit) => True) (fun (_ : Unit) => po dC dI (t1 cI cJ) (va_A (w1 h a b cI cJ f g zt (nI n8) zc zso znu zty zhd zpa zch zlk zlo zhi zlp zll zlv) sz) (w1 h a b cI cJ f g 2 (nI n8) zc zso znu zty zhd zpa zch zlk zlo zhi zlp zll zlv)) (va_A (w1 h a b cI cJ f g zt (nI n8) zc zso znu zty zhd zpa zch zlk zlo zhi zlp zll zlv) sz)) 0 0 (va_A (w1 h a b cI cJ f g zt (nI n8) zc zso znu zty zhd zpa zch zlk zlo zhi zlp zll zlv) sz) := by
  refine Met.ofW (cc := cX1_pack) (maxL := 11) (ret := (some .int)) (by decide) rfl ?_
  intro p e s m args below meth c s₁ Bd hml hv
  obtain ⟨rfl, hsz, hP, hK, hD0, hZ⟩ := hv
  have hx := Bd.exec
  have hb := Bd.bytes
  have hr := Bd.returns
  have hts := atoms_spec (ws := wsX1_pack) Bd.pre
  have hown : s.vm.findClass RX1 = some m.cls := findClass_of_methodNamed Bd.named
  have hlocks := Bd.notSynchronized
  subst hsz
  have hD := hD0.self (sz := s.heap.size)
  generalize hAe : va_A (w1 h a b cI cJ f g zt (nI n8) zc zso znu zty zhd zpa zch zlk zlo zhi zlp zll zlv) s.heap.size = A at hD hZ ⊢
  have hA : ∀ q : Nat, s.heap.size ≤ q → A q := fun q h => by rw [← hAe]; exact Or.inr h
  have hS : va_S A s.heap s.heap [] := va_S.rf
  have hP : va_P (dC, dI) vwCl (w1 h a b cI cJ f g zt (nI n8) zc zso znu zty zhd zpa zch zlk zlo zhi zlp zll zlv) s.heap := hP
  have hin0 : ∀ w ∈ wsX10, w ∈ wsX1_pack := by decide +kernel
  have fl21 := hts (.fieldLink RX1 21 "MessageReaderModel" "thrown" "I") (by decide +kernel)
  have hl := lv_entry ([.ref h, .int 11, .int lo, .int hi]) (n := 11) (Nat.le_of_ble_eq_true rfl)
  rw [lg_entry_eq]
  generalize (lg_sl ([.ref h, .int 11, .int lo, .int hi]) ++ List.replicate (11 - (lg_sl ([.ref h, .int 11, .int lo, .int hi])).length) Slot.unset).toArray = ls at hl ⊢
  have hl : lv_has ls 11 [(0, .ref h), (1, .int 11), (2, .int lo), (3, .int hi)] := hl
  refine lv_aload_n hx hb dX1_pack_0 rfl (lv_at hl 0 rfl) ?_
  refine lv_iconst (v := 0) hx hb dX1_pack_1 (by decide) ?_
  refine va_put (D := (dC, dI)) (ci := 1) (v := .int 0) (ty := .int) (C := RX1) (T := TX1) (N := 17) hx hb hts hin0 tyX1 tyX1_ok nmX1 hown hK hP hD hS 0 rfl rfl 0 (by decide) fl21 (fun _ h9 => h9) rfl (by decide +kernel) rfl rfl (Nat.le_of_ble_eq_true rfl) dX1_pack_2 (fun H locs hP hD hS => ?_)
  have hP : va_P (dC, dI) vwCl (w1 h a b cI cJ f g 0 (nI n8) zc zso znu zty zhd zpa zch zlk zlo zhi zlp zll zlv) H := hP
  have hD : va_D A (w1 h a b cI cJ f g 0 (nI n8) zc zso znu zty zhd zpa zch zlk zlo zhi zlp zll zlv) := hD
  refine lv_iload_n hx hb dX1_pack_5 rfl (lv_at hl 1 rfl) ?_
  refine lv_if_le (tgt := 47) hx hb dX1_pack_6 (by decide) (fun c_1 => ?_) (fun c_1 => ?_)
  · skip
    exact absurd c_1 (by decide)
  · skip
    refine lv_iload_n hx hb dX1_pack_9 rfl (lv_at hl 1 rfl) ?_
    refine lv_bipush (v := 13) hx hb dX1_pack_10 (by decide) ?_
    refine lv_icmp_ge (tgt := 47) hx hb dX1_pack_12 (by decide) (fun c_2 => ?_) (fun c_2 => ?_)
    · skip
      exact absurd c_2 (by decide)
    · skip
      refine lv_iload_n hx hb dX1_pack_15 rfl (lv_at hl 1 rfl) ?_
      refine lv_bipush (v := 8) hx hb dX1_pack_16 (by decide) ?_
      refine lv_icmp_lt (tgt := 25) hx hb dX1_pack_18 (by decide) (fun c_3 => ?_) (fun c_3 => ?_)
      · skip
        exact absurd c_3 (by decide)
      · skip
        refine lv_iload_n hx hb dX1_pack_21 rfl (lv_at hl 2 rfl) ?_
        refine lv_if_lt (tgt := 47) hx hb dX1_pack_22 (by decide) (fun c_4 => ?_) (fun c_4 => ?_)
        · skip
          exact absurd c_4 h8
        · skip
          refine lv_iload_n hx hb dX1_pack_25 rfl (lv_at hl 1 rfl) ?_
          refine lv_bipush (v := 12) hx hb dX1_pack_26 (by decide) ?_
          refine lv_icmp_ne (tgt := 43) hx hb dX1_pack_28 (by decide) (fun c_5 => ?_) (fun c_5 => ?_)
          · skip
            refine lv_iconst (v := 1) hx hb dX1_pack_43 (by decide) ?_
            refine lv_goto (tgt := 48) hx hb dX1_pack_44 (by decide) ?_
            refine lv_istore (lv' := [(4, .int 1), (0, .ref h), (1, .int 11), (2, .int lo), (3, .int hi)]) hx hb dX1_pack_48 hl (by decide) rfl (fun ls hl => ?_)
            refine lv_aload_n hx hb dX1_pack_50 rfl (lv_at hl 1 rfl) ?_
            refine lv_iload hx hb dX1_pack_51 (lv_at hl 0 rfl) ?_
            refine lv_if_ne (tgt := 60) hx hb dX1_pack_53 (by decide) (fun c_6 => ?_) (fun c_6 => ?_)
            · skip
              refine lv_iconst (v := 0) hx hb dX1_pack_60 (by decide) ?_
              refine lv_iconst (v := 1) hx hb dX1_pack_61 (by decide) ?_
              refine gvi (As := [.int 0, .int 1]) (rest := []) ⟨hx, hb, hml, hown, hts⟩ (c_X1_fails l dC dI tk tw h a b cI cJ _ f g 0 (nI n8) zc zso znu zty zhd zpa zch zlk zlo zhi zlp zll zlv 0 1) (cwV 2 hts gX1_pack_X1_fails rfl rfl rfl (by decide +kernel) ⟨Nat.le_of_ble_eq_true rfl, Nat.le_of_ble_eq_true rfl⟩) hK hP hD hS hA hZ (q0 := 0) (ci := 1) rfl rfl rfl rfl hl.1 rfl (Nat.le_of_ble_eq_true rfl) dX1_pack_62 ⟨Nat.le_of_ble_eq_true rfl, Nat.le_of_ble_eq_true rfl⟩ (fun r_8 u_9 H locs hw_7 hP hD hS => ?_)
              obtain rfl : u_9 = 0 := hw_7.1.trans (by decide)
              have hP : va_P (dC, dI) vwCl (w1 h a b cI cJ f g 0 (nI n8) zc zso znu zty zhd zpa zch zlk zlo zhi zlp zll zlv) H := hP
              have hD : va_D A (w1 h a b cI cJ f g 0 (nI n8) zc zso znu zty zhd zpa zch zlk zlo zhi zlp zll zlv) := hD
              obtain rfl : r_8 = 0 := hw_7.2.trans (by decide)
              refine lv_if_eq (tgt := 70) hx hb dX1_pack_65 (by decide) (fun c_10 => ?_) (fun c_10 => ?_)
              · skip
                refine lv_iload_n hx hb dX1_pack_70 rfl (lv_at hl 4 rfl) ?_
                refine lv_i2l hx hb dX1_pack_71 rfl ?_
                refine lv_bipush (v := 32) hx hb dX1_pack_72 (by decide) ?_
                refine lv_lshl hx hb dX1_pack_74 rfl ?_
                refine lv_iload_n hx hb dX1_pack_75 rfl (lv_at hl 3 rfl) ?_
                refine lv_i2l hx hb dX1_pack_76 rfl ?_
                refine lv_ldc2 (v := 4294967295) hx hb hown (hts (.constantLong RX1 118 (4294967295)) (by decide +kernel)) dX1_pack_77 ?_
                refine lv_land hx hb dX1_pack_80 ?_
                refine lv_lor hx hb dX1_pack_81 ?_
                have e_11 : ((hi.toInt64 <<< ((32 : Int32).toInt64 &&& 63)) ||| (lo.toInt64 &&& 4294967295) : Int64) = bo lo hi := rfl
                rw [e_11]
                refine lv_lstore (lv' := [(5, .long (bo lo hi)), (4, .int 1), (0, .ref h), (1, .int 11), (2, .int lo), (3, .int hi)]) hx hb dX1_pack_82 hl (by decide) rfl (fun ls hl => ?_)
                refine lv_iload_n hx hb dX1_pack_84 rfl (lv_at hl 3 rfl) ?_
                refine lv_bipush (v := 7) hx hb dX1_pack_85 (by decide) ?_
                refine lv_icmp_le (tgt := 98) hx hb dX1_pack_87 (by decide) (fun c_12 => ?_) (fun c_12 => ?_)
                · skip
                  exact absurd c_12 (by decide)
                · skip
                  refine lv_iload_n hx hb dX1_pack_90 rfl (lv_at hl 4 rfl) ?_
                  refine lv_i2l hx hb dX1_pack_91 rfl ?_
                  refine gsi (As := [.long lo.toInt64]) (rest := []) ⟨hx, hb, hml, hown, hts⟩ (c_X1_needs l dC dI tk tw _ lo.toInt64) (va_cwS 1 hts gX1_pack_X1_needs rfl rfl rfl (by decide +kernel) ⟨Nat.le_of_ble_eq_true rfl, Nat.le_of_ble_eq_true rfl⟩) hP hS hA hZ rfl hl.1 rfl (Nat.le_of_ble_eq_true rfl) dX1_pack_92 ⟨Nat.le_of_ble_eq_true rfl, Nat.le_of_ble_eq_true rfl⟩ (fun r_14 H locs hw_13 hP hS => ?_)
                  obtain rfl : r_14 = nI (ndN lo.toInt64) := hw_13
                  refine lv_goto (tgt := 99) hx hb dX1_pack_95 (by decide) ?_
                  refine lv_istore (lv' := [(7, .int (nI (ndN lo.toInt64))), (5, .long (bo lo hi)), (4, .int 1), (0, .ref h), (1, .int 11), (2, .int lo), (3, .int hi)]) hx hb dX1_pack_99 hl (by decide) rfl (fun ls hl => ?_)
                  refine lv_iload_n hx hb dX1_pack_101 rfl (lv_at hl 4 rfl) ?_
                  refine lv_tableIn (tgt := 368) hx hb dX1_pack_102 (by decide) (by decide) rfl (by decide) ?_
                  refine lv_iload_n hx hb dX1_pack_368 rfl (lv_at hl 4 rfl) ?_
                  refine lv_bipush (v := 10) hx hb dX1_pack_369 (by decide) ?_
                  refine lv_icmp_ne (tgt := 380) hx hb dX1_pack_371 (by decide) (fun c_15 => ?_) (fun c_15 => ?_)
                  · skip
                    refine lv_sipush (v := 128) hx hb dX1_pack_380 (by decide) ?_
                    refine lv_istore (lv' := [(8, .int 128), (7, .int (nI (ndN lo.toInt64))), (5, .long (bo lo hi)), (4, .int 1), (0, .ref h), (1, .int 11), (2, .int lo), (3, .int hi)]) hx hb dX1_pack_383 hl (by decide) rfl (fun ls hl => ?_)
                    refine lv_iload_n hx hb dX1_pack_385 rfl (lv_at hl 5 rfl) ?_
                    refine lv_bipush (v := 10) hx hb dX1_pack_386 (by decide) ?_
                    refine lv_icmp_ne (tgt := 397) hx hb dX1_pack_388 (by decide) (fun c_16 => ?_) (fun c_16 => ?_)
                    · skip
                      refine lv_sipush (v := 222) hx hb dX1_pack_397 (by decide) ?_
                      refine lv_istore (lv' := [(9, .int 222), (8, .int 128), (7, .int (nI (ndN lo.toInt64))), (5, .long (bo lo hi)), (4, .int 1), (0, .ref h), (1, .int 11), (2, .int lo), (3, .int hi)]) hx hb dX1_pack_400 hl (by decide) rfl (fun ls hl => ?_)
                      refine lv_iload_n hx hb dX1_pack_402 rfl (lv_at hl 7 rfl) ?_
                      refine lv_bipush (v := 16) hx hb dX1_pack_403 (by decide) ?_
                      refine lv_icmp_ge (tgt := 422) hx hb dX1_pack_405 (by decide) (fun c_17 => ?_) (fun c_17 => ?_)
                      · skip
                        refine lv_iload_n hx hb dX1_pack_422 rfl (lv_at hl 7 rfl) ?_
                        refine lv_ldc (v := 65536) hx hb hown (hts (.constant RX1 136 (65536)) (by decide +kernel)) dX1_pack_423 ?_
                        refine lv_icmp_ge (tgt := 441) hx hb dX1_pack_425 (by decide) (fun c_18 => ?_) (fun c_18 => ?_)
                        · skip
                          refine lv_aload_n hx hb dX1_pack_441 rfl (lv_at hl 5 rfl) ?_
                          refine lv_iload hx hb dX1_pack_442 (lv_at hl 0 rfl) ?_
                          refine lv_iconst (v := 1) hx hb dX1_pack_444 (by decide) ?_
                          refine lv_iadd hx hb dX1_pack_445 ?_
                          refine lv_iconst (v := 4) hx hb dX1_pack_446 (by decide) ?_
                          refine lv_iload_n hx hb dX1_pack_447 rfl (lv_at hl 7 rfl) ?_
                          refine lv_i2l hx hb dX1_pack_448 rfl ?_
                          refine lv_iconst (v := -1) hx hb dX1_pack_449 (by decide) ?_
                          have hT : pk11 lo hi = ((222 + 1), 4, lo.toInt64, (-1)) := by unfold pk11; rw [if_pos c_17, if_pos c_18]
                          have hr9 : 4096 < n8 + 1 + 4 := by rw [hT, phL_n] at hr8; omega
                          refine gvi (As := [.int (222 + 1), .int 4, .long lo.toInt64, .int (-1)]) (rest := []) ⟨hx, hb, hml, hown, hts⟩ (c_X1_packHead_f l dC dI tk tw h a b cI cJ _ f g zc zso znu zty zhd zpa zch zlk zlo zhi zlp zll zlv n8 hn8 (222 + 1) 4 (by decide) lo.toInt64 hr9) (cwV 4 hts gX1_pack_X1_packHead rfl rfl rfl (by decide +kernel) ⟨Nat.le_of_ble_eq_true rfl, Nat.le_of_ble_eq_true rfl⟩) hK hP hD hS hA hZ (q0 := 0) (ci := 1) rfl rfl rfl rfl hl.1 rfl (Nat.le_of_ble_eq_true rfl) dX1_pack_450 ⟨Nat.le_of_ble_eq_true rfl, Nat.le_of_ble_eq_true rfl⟩ (fun r_20 u_21 H locs hw_19 hP hD hS => ?_)
                          have hP : va_P (dC, dI) vwCl (w1 h a b cI cJ f g 2 (nI n8) zc zso znu zty zhd zpa zch zlk zlo zhi zlp zll zlv) H := hP
                          have hD : va_D A (w1 h a b cI cJ f g 2 (nI n8) zc zso znu zty zhd zpa zch zlk zlo zhi zlp zll zlv) := hD
                          have hP9 : va_P (dC, dI) vwCl ((fun (_ : Unit) => w1 h a b cI cJ f g 2 (nI n8) zc zso znu zty zhd zpa zch zlk zlo zhi zlp zll zlv) (())) H := hP
                          have hD9 : va_D A ((fun (_ : Unit) => w1 h a b cI cJ f g 2 (nI n8) zc zso znu zty zhd zpa zch zlk zlo zhi zlp zll zlv) (())) := hD
                          exact W.iret (v := r_20) hx hb hr (fun t ht hW => ⟨⟨r_20, (), rfl, trivial, by rw [ht]; exact hP9, va_K.moved hW.alike hK, hD9⟩, hS.F ht⟩) hS.2.2 dX1_pack_453
                        · skip
                          refine lv_aload_n hx hb dX1_pack_428 rfl (lv_at hl 5 rfl) ?_
                          refine lv_iload hx hb dX1_pack_429 (lv_at hl 0 rfl) ?_
                          refine lv_iconst (v := 2) hx hb dX1_pack_431 (by decide) ?_
                          refine lv_iload_n hx hb dX1_pack_432 rfl (lv_at hl 7 rfl) ?_
                          refine lv_i2l hx hb dX1_pack_433 rfl ?_
                          refine lv_iconst (v := -1) hx hb dX1_pack_434 (by decide) ?_
                          have hT : pk11 lo hi = (222, 2, lo.toInt64, (-1)) := by unfold pk11; rw [if_pos c_17, if_neg c_18]
                          have hr9 : 4096 < n8 + 1 + 2 := by rw [hT, phL_n] at hr8; omega
                          refine gvi (As := [.int 222, .int 2, .long lo.toInt64, .int (-1)]) (rest := []) ⟨hx, hb, hml, hown, hts⟩ (c_X1_packHead_f l dC dI tk tw h a b cI cJ _ f g zc zso znu zty zhd zpa zch zlk zlo zhi zlp zll zlv n8 hn8 222 2 (by decide) lo.toInt64 hr9) (cwV 4 hts gX1_pack_X1_packHead rfl rfl rfl (by decide +kernel) ⟨Nat.le_of_ble_eq_true rfl, Nat.le_of_ble_eq_true rfl⟩) hK hP hD hS hA hZ (q0 := 0) (ci := 1) rfl rfl rfl rfl hl.1 rfl (Nat.le_of_ble_eq_true rfl) dX1_pack_435 ⟨Nat.le_of_ble_eq_true rfl, Nat.le_of_ble_eq_true rfl⟩ (fun r_23 u_24 H locs hw_22 hP hD hS => ?_)
                          have hP : va_P (dC, dI) vwCl (w1 h a b cI cJ f g 2 (nI n8) zc zso znu zty zhd zpa zch zlk zlo zhi zlp zll zlv) H := hP
                          have hD : va_D A (w1 h a b cI cJ f g 2 (nI n8) zc zso znu zty zhd zpa zch zlk zlo zhi zlp zll zlv) := hD
                          refine lv_goto (tgt := 453) hx hb dX1_pack_438 (by decide) ?_
                          have hP9 : va_P (dC, dI) vwCl ((fun (_ : Unit) => w1 h a b cI cJ f g 2 (nI n8) zc zso znu zty zhd zpa zch zlk zlo zhi zlp zll zlv) (())) H := hP
                          have hD9 : va_D A ((fun (_ : Unit) => w1 h a b cI cJ f g 2 (nI n8) zc zso znu zty zhd zpa zch zlk zlo zhi zlp zll zlv) (())) := hD
                          exact W.iret (v := r_23) hx hb hr (fun t ht hW => ⟨⟨r_23, (), rfl, trivial, by rw [ht]; exact hP9, va_K.moved hW.alike hK, hD9⟩, hS.F ht⟩) hS.2.2 dX1_pack_453
                      · skip
                        refine lv_aload_n hx hb dX1_pack_408 rfl (lv_at hl 5 rfl) ?_
                        refine lv_iload hx hb dX1_pack_409 (lv_at hl 1 rfl) ?_
                        refine lv_iload_n hx hb dX1_pack_411 rfl (lv_at hl 7 rfl) ?_
                        refine lv_iadd hx hb dX1_pack_412 ?_
                        refine lv_iconst (v := 0) hx hb dX1_pack_413 (by decide) ?_
                        refine lv_lconst (v := 0) hx hb dX1_pack_414 (by decide) ?_
                        refine lv_iconst (v := -1) hx hb dX1_pack_415 (by decide) ?_
                        have hT : pk11 lo hi = ((128 + lo), 0, 0, (-1)) := by unfold pk11; rw [if_neg c_17]
                        have hr9 : 4096 < n8 + 1 + 0 := by rw [hT, phL_n] at hr8; omega
                        refine gvi (As := [.int (128 + lo), .int 0, .long 0, .int (-1)]) (rest := []) ⟨hx, hb, hml, hown, hts⟩ (c_X1_packHead_f l dC dI tk tw h a b cI cJ _ f g zc zso znu zty zhd zpa zch zlk zlo zhi zlp zll zlv n8 hn8 (128 + lo) 0 (by decide) 0 hr9) (cwV 4 hts gX1_pack_X1_packHead rfl rfl rfl (by decide +kernel) ⟨Nat.le_of_ble_eq_true rfl, Nat.le_of_ble_eq_true rfl⟩) hK hP hD hS hA hZ (q0 := 0) (ci := 1) rfl rfl rfl rfl hl.1 rfl (Nat.le_of_ble_eq_true rfl) dX1_pack_416 ⟨Nat.le_of_ble_eq_true rfl, Nat.le_of_ble_eq_true rfl⟩ (fun r_26 u_27 H locs hw_25 hP hD hS => ?_)
                        have hP : va_P (dC, dI) vwCl (w1 h a b cI cJ f g 2 (nI n8) zc zso znu zty zhd zpa zch zlk zlo zhi zlp zll zlv) H := hP
                        have hD : va_D A (w1 h a b cI cJ f g 2 (nI n8) zc zso znu zty zhd zpa zch zlk zlo zhi zlp zll zlv) := hD
                        refine lv_goto (tgt := 453) hx hb dX1_pack_419 (by decide) ?_
                        have hP9 : va_P (dC, dI) vwCl ((fun (_ : Unit) => w1 h a b cI cJ f g 2 (nI n8) zc zso znu zty zhd zpa zch zlk zlo zhi zlp zll zlv) (())) H := hP
                        have hD9 : va_D A ((fun (_ : Unit) => w1 h a b cI cJ f g 2 (nI n8) zc zso znu zty zhd zpa zch zlk zlo zhi zlp zll zlv) (())) := hD
                        exact W.iret (v := r_26) hx hb hr (fun t ht hW => ⟨⟨r_26, (), rfl, trivial, by rw [ht]; exact hP9, va_K.moved hW.alike hK, hD9⟩, hS.F ht⟩) hS.2.2 dX1_pack_453
                    · skip
                      exact absurd c_16 (by decide)
                  · skip
                    exact absurd c_15 (by decide)
              · skip
                exact absurd (by decide) c_10
            · skip
              exact absurd c_6 (by decide)
          · skip
            exact absurd c_5 (by decide)
set_option maxHeartbeats 4000000 in
set_option maxRecDepth 100000 in
theorem c_X1_pack_12 (l : Launch) (dC : Nat → ClassId) (dI : Nat → Nat → Nat) (tk tw : Nat) (h a b : Nat) (cI cJ : ClassId) (sz : Nat) (f : Nat → Int32) (g : Nat → Int64) (zt : Int32) (zc : Int32) (zso : Int32) (znu : Int64) (zty : Int32) (zhd : Int32) (zpa : Int64) (zch : Int64) (zlk : Int32) (zlo : Int32) (zhi : Int32) (zlp : Int32) (zll : Int32) (zlv : Int32) (n8 : Nat) (lo hi : Int32) (h8 : ¬ lo < 0) (hh1 : ¬ hi < -128) (hh2 : ¬ 127 < hi) (hr8 : n8 + phL (pk12 lo hi) ≤ 4096) : Met l yX1_pack wsX1_pack ({ frames := 2, cells := 0, slots := 0, locals := 49 }) (va_Pc [.ref h, .int 12, .int lo, .int hi] (pr dC dI (t1 cI cJ) (w1 h a b cI cJ f g zt (nI n8) zc zso znu zty zhd zpa zch zlk zlo zhi zlp zll zlv) sz tk tw)) (va_Qi (fun (r : Int32) (_ : Unit) => r = nI (phL (pk12 lo hi))) (fun (_ : Unit) => po dC dI (t1 cI cJ) (va_A (w1 h a b cI cJ f g zt (nI n8) zc zso znu zty zhd zpa zch zlk zlo zhi zlp zll zlv) sz) (w1 h a b cI cJ (phF f n8 (pk12 lo hi)) g 0 (nI (n8 + phL (pk12 lo hi))) zc zso znu zty zhd zpa zch zlk zlo zhi zlp zll zlv)) (va_A (w1 h a b cI cJ f g zt (nI n8) zc zso znu zty zhd zpa zch zlk zlo zhi zlp zll zlv) sz)) 0 0 (va_A (w1 h a b cI cJ f g zt (nI n8) zc zso znu zty zhd zpa zch zlk zlo zhi zlp zll zlv) sz) := by
  refine Met.ofW (cc := cX1_pack) (maxL := 11) (ret := (some .int)) (by decide) rfl ?_
  intro p e s m args below meth c s₁ Bd hml hv
  obtain ⟨rfl, hsz, hP, hK, hD0, hZ⟩ := hv
  have hx := Bd.exec
  have hb := Bd.bytes
  have hr := Bd.returns
  have hts := atoms_spec (ws := wsX1_pack) Bd.pre
  have hown : s.vm.findClass RX1 = some m.cls := findClass_of_methodNamed Bd.named
  have hlocks := Bd.notSynchronized
  subst hsz
  have hD := hD0.self (sz := s.heap.size)
  generalize hAe : va_A (w1 h a b cI cJ f g zt (nI n8) zc zso znu zty zhd zpa zch zlk zlo zhi zlp zll zlv) s.heap.size = A at hD hZ ⊢
  have hA : ∀ q : Nat, s.heap.size ≤ q → A q := fun q h => by rw [← hAe]; exact Or.inr h
  have hS : va_S A s.heap s.heap [] := va_S.rf
  have hP : va_P (dC, dI) vwCl (w1 h a b cI cJ f g zt (nI n8) zc zso znu zty zhd zpa zch zlk zlo zhi zlp zll zlv) s.heap := hP
  have hin0 : ∀ w ∈ wsX10, w ∈ wsX1_pack := by decide +kernel
  have fl21 := hts (.fieldLink RX1 21 "MessageReaderModel" "thrown" "I") (by decide +kernel)
  have hl := lv_entry ([.ref h, .int 12, .int lo, .int hi]) (n := 11) (Nat.le_of_ble_eq_true rfl)
  rw [lg_entry_eq]
  generalize (lg_sl ([.ref h, .int 12, .int lo, .int hi]) ++ List.replicate (11 - (lg_sl ([.ref h, .int 12, .int lo, .int hi])).length) Slot.unset).toArray = ls at hl ⊢
  have hl : lv_has ls 11 [(0, .ref h), (1, .int 12), (2, .int lo), (3, .int hi)] := hl
  refine lv_aload_n hx hb dX1_pack_0 rfl (lv_at hl 0 rfl) ?_
  refine lv_iconst (v := 0) hx hb dX1_pack_1 (by decide) ?_
  refine va_put (D := (dC, dI)) (ci := 1) (v := .int 0) (ty := .int) (C := RX1) (T := TX1) (N := 17) hx hb hts hin0 tyX1 tyX1_ok nmX1 hown hK hP hD hS 0 rfl rfl 0 (by decide) fl21 (fun _ h9 => h9) rfl (by decide +kernel) rfl rfl (Nat.le_of_ble_eq_true rfl) dX1_pack_2 (fun H locs hP hD hS => ?_)
  have hP : va_P (dC, dI) vwCl (w1 h a b cI cJ f g 0 (nI n8) zc zso znu zty zhd zpa zch zlk zlo zhi zlp zll zlv) H := hP
  have hD : va_D A (w1 h a b cI cJ f g 0 (nI n8) zc zso znu zty zhd zpa zch zlk zlo zhi zlp zll zlv) := hD
  refine lv_iload_n hx hb dX1_pack_5 rfl (lv_at hl 1 rfl) ?_
  refine lv_if_le (tgt := 47) hx hb dX1_pack_6 (by decide) (fun c_1 => ?_) (fun c_1 => ?_)
  · skip
    exact absurd c_1 (by decide)
  · skip
    refine lv_iload_n hx hb dX1_pack_9 rfl (lv_at hl 1 rfl) ?_
    refine lv_bipush (v := 13) hx hb dX1_pack_10 (by decide) ?_
    refine lv_icmp_ge (tgt := 47) hx hb dX1_pack_12 (by decide) (fun c_2 => ?_) (fun c_2 => ?_)
    · skip
      exact absurd c_2 (by decide)
    · skip
      refine lv_iload_n hx hb dX1_pack_15 rfl (lv_at hl 1 rfl) ?_
      refine lv_bipush (v := 8) hx hb dX1_pack_16 (by decide) ?_
      refine lv_icmp_lt (tgt := 25) hx hb dX1_pack_18 (by decide) (fun c_3 => ?_) (fun c_3 => ?_)
      · skip
        exact absurd c_3 (by decide)
      · skip
        refine lv_iload_n hx hb dX1_pack_21 rfl (lv_at hl 2 rfl) ?_
        refine lv_if_lt (tgt := 47) hx hb dX1_pack_22 (by decide) (fun c_4 => ?_) (fun c_4 => ?_)
        · skip
          exact absurd c_4 h8
        · skip
          refine lv_iload_n hx hb dX1_pack_25 rfl (lv_at hl 1 rfl) ?_
          refine lv_bipush (v := 12) hx hb dX1_pack_26 (by decide) ?_
          refine lv_icmp_ne (tgt := 43) hx hb dX1_pack_28 (by decide) (fun c_5 => ?_) (fun c_5 => ?_)
          · skip
            exact absurd (by decide) c_5
          · skip
            refine lv_iload_n hx hb dX1_pack_31 rfl (lv_at hl 3 rfl) ?_
            refine lv_bipush (v := -128) hx hb dX1_pack_32 (by decide) ?_
            refine lv_icmp_lt (tgt := 47) hx hb dX1_pack_34 (by decide) (fun c_6 => ?_) (fun c_6 => ?_)
            · skip
              exact absurd c_6 hh1
            · skip
              refine lv_iload_n hx hb dX1_pack_37 rfl (lv_at hl 3 rfl) ?_
              refine lv_bipush (v := 127) hx hb dX1_pack_38 (by decide) ?_
              refine lv_icmp_gt (tgt := 47) hx hb dX1_pack_40 (by decide) (fun c_7 => ?_) (fun c_7 => ?_)
              · skip
                exact absurd c_7 hh2
              · skip
                refine lv_iconst (v := 1) hx hb dX1_pack_43 (by decide) ?_
                refine lv_goto (tgt := 48) hx hb dX1_pack_44 (by decide) ?_
                refine lv_istore (lv' := [(4, .int 1), (0, .ref h), (1, .int 12), (2, .int lo), (3, .int hi)]) hx hb dX1_pack_48 hl (by decide) rfl (fun ls hl => ?_)
                refine lv_aload_n hx hb dX1_pack_50 rfl (lv_at hl 1 rfl) ?_
                refine lv_iload hx hb dX1_pack_51 (lv_at hl 0 rfl) ?_
                refine lv_if_ne (tgt := 60) hx hb dX1_pack_53 (by decide) (fun c_8 => ?_) (fun c_8 => ?_)
                · skip
                  refine lv_iconst (v := 0) hx hb dX1_pack_60 (by decide) ?_
                  refine lv_iconst (v := 1) hx hb dX1_pack_61 (by decide) ?_
                  refine gvi (As := [.int 0, .int 1]) (rest := []) ⟨hx, hb, hml, hown, hts⟩ (c_X1_fails l dC dI tk tw h a b cI cJ _ f g 0 (nI n8) zc zso znu zty zhd zpa zch zlk zlo zhi zlp zll zlv 0 1) (cwV 2 hts gX1_pack_X1_fails rfl rfl rfl (by decide +kernel) ⟨Nat.le_of_ble_eq_true rfl, Nat.le_of_ble_eq_true rfl⟩) hK hP hD hS hA hZ (q0 := 0) (ci := 1) rfl rfl rfl rfl hl.1 rfl (Nat.le_of_ble_eq_true rfl) dX1_pack_62 ⟨Nat.le_of_ble_eq_true rfl, Nat.le_of_ble_eq_true rfl⟩ (fun r_10 u_11 H locs hw_9 hP hD hS => ?_)
                  obtain rfl : u_11 = 0 := hw_9.1.trans (by decide)
                  have hP : va_P (dC, dI) vwCl (w1 h a b cI cJ f g 0 (nI n8) zc zso znu zty zhd zpa zch zlk zlo zhi zlp zll zlv) H := hP
                  have hD : va_D A (w1 h a b cI cJ f g 0 (nI n8) zc zso znu zty zhd zpa zch zlk zlo zhi zlp zll zlv) := hD
                  obtain rfl : r_10 = 0 := hw_9.2.trans (by decide)
                  refine lv_if_eq (tgt := 70) hx hb dX1_pack_65 (by decide) (fun c_12 => ?_) (fun c_12 => ?_)
                  · skip
                    refine lv_iload_n hx hb dX1_pack_70 rfl (lv_at hl 4 rfl) ?_
                    refine lv_i2l hx hb dX1_pack_71 rfl ?_
                    refine lv_bipush (v := 32) hx hb dX1_pack_72 (by decide) ?_
                    refine lv_lshl hx hb dX1_pack_74 rfl ?_
                    refine lv_iload_n hx hb dX1_pack_75 rfl (lv_at hl 3 rfl) ?_
                    refine lv_i2l hx hb dX1_pack_76 rfl ?_
                    refine lv_ldc2 (v := 4294967295) hx hb hown (hts (.constantLong RX1 118 (4294967295)) (by decide +kernel)) dX1_pack_77 ?_
                    refine lv_land hx hb dX1_pack_80 ?_
                    refine lv_lor hx hb dX1_pack_81 ?_
                    have e_13 : ((hi.toInt64 <<< ((32 : Int32).toInt64 &&& 63)) ||| (lo.toInt64 &&& 4294967295) : Int64) = bo lo hi := rfl
                    rw [e_13]
                    refine lv_lstore (lv' := [(5, .long (bo lo hi)), (4, .int 1), (0, .ref h), (1, .int 12), (2, .int lo), (3, .int hi)]) hx hb dX1_pack_82 hl (by decide) rfl (fun ls hl => ?_)
                    refine lv_iload_n hx hb dX1_pack_84 rfl (lv_at hl 3 rfl) ?_
                    refine lv_bipush (v := 7) hx hb dX1_pack_85 (by decide) ?_
                    refine lv_icmp_le (tgt := 98) hx hb dX1_pack_87 (by decide) (fun c_14 => ?_) (fun c_14 => ?_)
                    · skip
                      exact absurd c_14 (by decide)
                    · skip
                      refine lv_iload_n hx hb dX1_pack_90 rfl (lv_at hl 4 rfl) ?_
                      refine lv_i2l hx hb dX1_pack_91 rfl ?_
                      refine gsi (As := [.long lo.toInt64]) (rest := []) ⟨hx, hb, hml, hown, hts⟩ (c_X1_needs l dC dI tk tw _ lo.toInt64) (va_cwS 1 hts gX1_pack_X1_needs rfl rfl rfl (by decide +kernel) ⟨Nat.le_of_ble_eq_true rfl, Nat.le_of_ble_eq_true rfl⟩) hP hS hA hZ rfl hl.1 rfl (Nat.le_of_ble_eq_true rfl) dX1_pack_92 ⟨Nat.le_of_ble_eq_true rfl, Nat.le_of_ble_eq_true rfl⟩ (fun r_16 H locs hw_15 hP hS => ?_)
                      obtain rfl : r_16 = nI (ndN lo.toInt64) := hw_15
                      refine lv_goto (tgt := 99) hx hb dX1_pack_95 (by decide) ?_
                      refine lv_istore (lv' := [(7, .int (nI (ndN lo.toInt64))), (5, .long (bo lo hi)), (4, .int 1), (0, .ref h), (1, .int 12), (2, .int lo), (3, .int hi)]) hx hb dX1_pack_99 hl (by decide) rfl (fun ls hl => ?_)
                      refine lv_iload_n hx hb dX1_pack_101 rfl (lv_at hl 4 rfl) ?_
                      refine lv_tableOut (tgt := 454) hx hb dX1_pack_102 (by decide) (by decide) ?_
                      refine lv_iload_n hx hb dX1_pack_454 rfl (lv_at hl 5 rfl) ?_
                      refine lv_iconst (v := 1) hx hb dX1_pack_455 (by decide) ?_
                      refine lv_icmp_eq (tgt := 481) hx hb dX1_pack_456 (by decide) (fun c_17 => ?_) (fun c_17 => ?_)
                      · skip
                        refine lv_iconst (v := 1) hx hb dX1_pack_481 (by decide) ?_
                        refine lv_goto (tgt := 486) hx hb dX1_pack_482 (by decide) ?_
                        refine lv_istore (lv' := [(10, .int 1), (7, .int (nI (ndN lo.toInt64))), (5, .long (bo lo hi)), (4, .int 1), (0, .ref h), (1, .int 12), (2, .int lo), (3, .int hi)]) hx hb dX1_pack_486 hl (by decide) rfl (fun ls hl => ?_)
                        refine lv_iload hx hb dX1_pack_488 (lv_at hl 0 rfl) ?_
                        refine lv_if_eq (tgt := 523) hx hb dX1_pack_490 (by decide) (fun c_18 => ?_) (fun c_18 => ?_)
                        · skip
                          exact absurd c_18 (by decide)
                        · skip
                          refine lv_aload_n hx hb dX1_pack_493 rfl (lv_at hl 4 rfl) ?_
                          refine lv_sipush (v := 212) hx hb dX1_pack_494 (by decide) ?_
                          refine lv_iload_n hx hb dX1_pack_497 rfl (lv_at hl 6 rfl) ?_
                          refine lv_bipush (v := 16) hx hb dX1_pack_498 (by decide) ?_
                          refine lv_icmp_ne (tgt := 507) hx hb dX1_pack_500 (by decide) (fun c_19 => ?_) (fun c_19 => ?_)
                          · skip
                            refine lv_iload_n hx hb dX1_pack_507 rfl (lv_at hl 6 rfl) ?_
                            refine gsi (As := [.int lo]) (rest := [.int 212, .ref h]) ⟨hx, hb, hml, hown, hts⟩ (c_X1_log_v l dC dI tk tw _ 1 (by decide) lo c_17) (va_cwS 1 hts gX1_pack_X1_log rfl rfl rfl (by decide +kernel) ⟨Nat.le_of_ble_eq_true rfl, Nat.le_of_ble_eq_true rfl⟩) hP hS hA hZ rfl hl.1 rfl (Nat.le_of_ble_eq_true rfl) dX1_pack_508 ⟨Nat.le_of_ble_eq_true rfl, Nat.le_of_ble_eq_true rfl⟩ (fun r_21 H locs hw_20 hP hS => ?_)
                            obtain rfl : r_21 = nI (lgN 1) := hw_20
                            refine lv_iadd hx hb dX1_pack_511 ?_
                            refine lv_iconst (v := 0) hx hb dX1_pack_512 (by decide) ?_
                            refine lv_lconst (v := 0) hx hb dX1_pack_513 (by decide) ?_
                            refine lv_iload_n hx hb dX1_pack_514 rfl (lv_at hl 7 rfl) ?_
                            refine lv_sipush (v := 255) hx hb dX1_pack_515 (by decide) ?_
                            refine lv_iand hx hb dX1_pack_518 ?_
                            have hT : pk12 lo hi = ((212 + (nI (lgN 1))), 0, 0, (hi &&& 255)) := by unfold pk12; rw [if_pos c_17]
                            have hm9 : (-1 : Int32) < hi &&& 255 := (and255 hi).1
                            have hne9 : ¬ (hi &&& 255 : Int32) = -1 := (and255 hi).2
                            have hr9 : n8 + 1 + 0 + 1 ≤ 4096 := by rw [hT, phL_m hne9] at hr8; omega
                            refine gvi (As := [.int (212 + (nI (lgN 1))), .int 0, .long 0, .int (hi &&& 255)]) (rest := []) ⟨hx, hb, hml, hown, hts⟩ (c_X1_packHead_m l dC dI tk tw h a b cI cJ _ f g zc zso znu zty zhd zpa zch zlk zlo zhi zlp zll zlv n8 (212 + (nI (lgN 1))) 0 (by decide) 0 (hi &&& 255) hm9 hr9) (cwV 4 hts gX1_pack_X1_packHead rfl rfl rfl (by decide +kernel) ⟨Nat.le_of_ble_eq_true rfl, Nat.le_of_ble_eq_true rfl⟩) hK hP hD hS hA hZ (q0 := 0) (ci := 1) rfl rfl rfl rfl hl.1 rfl (Nat.le_of_ble_eq_true rfl) dX1_pack_519 ⟨Nat.le_of_ble_eq_true rfl, Nat.le_of_ble_eq_true rfl⟩ (fun r_23 u_24 H locs hw_22 hP hD hS => ?_)
                            have hP : va_P (dC, dI) vwCl (w1 h a b cI cJ (apM (apM (upd f n8 (212 + (nI (lgN 1)))) (n8 + 1) 0 0) (n8 + 1 + 0) (hi &&& 255 : Int32).toInt64 1) g 0 (nI (n8 + (1 + 0 + 1))) zc zso znu zty zhd zpa zch zlk zlo zhi zlp zll zlv) H := hP
                            have hD : va_D A (w1 h a b cI cJ (apM (apM (upd f n8 (212 + (nI (lgN 1)))) (n8 + 1) 0 0) (n8 + 1 + 0) (hi &&& 255 : Int32).toInt64 1) g 0 (nI (n8 + (1 + 0 + 1))) zc zso znu zty zhd zpa zch zlk zlo zhi zlp zll zlv) := hD
                            obtain rfl : r_23 = nI (1 + 0 + 1) := hw_22
                            have hP9 : va_P (dC, dI) vwCl ((fun (_ : Unit) => w1 h a b cI cJ (phF f n8 (pk12 lo hi)) g 0 (nI (n8 + phL (pk12 lo hi))) zc zso znu zty zhd zpa zch zlk zlo zhi zlp zll zlv) (())) H := by rw [hT, phL_m hne9, phF_m hne9]; exact hP
                            have hD9 : va_D A ((fun (_ : Unit) => w1 h a b cI cJ (phF f n8 (pk12 lo hi)) g 0 (nI (n8 + phL (pk12 lo hi))) zc zso znu zty zhd zpa zch zlk zlo zhi zlp zll zlv) (())) := by rw [hT, phL_m hne9, phF_m hne9]; exact hD
                            exact W.iret (v := nI (1 + 0 + 1)) hx hb hr (fun t ht hW => ⟨⟨nI (1 + 0 + 1), (), rfl, (by rw [hT, phL_m hne9]), by rw [ht]; exact hP9, va_K.moved hW.alike hK, hD9⟩, hS.F ht⟩) hS.2.2 dX1_pack_522
                          · skip
                            exact absurd (c_17.symm.trans c_19) (by decide)
                      · skip
                        refine lv_iload_n hx hb dX1_pack_459 rfl (lv_at hl 5 rfl) ?_
                        refine lv_iconst (v := 2) hx hb dX1_pack_460 (by decide) ?_
                        refine lv_icmp_eq (tgt := 481) hx hb dX1_pack_461 (by decide) (fun c_25 => ?_) (fun c_25 => ?_)
                        · skip
                          refine lv_iconst (v := 1) hx hb dX1_pack_481 (by decide) ?_
                          refine lv_goto (tgt := 486) hx hb dX1_pack_482 (by decide) ?_
                          refine lv_istore (lv' := [(10, .int 1), (7, .int (nI (ndN lo.toInt64))), (5, .long (bo lo hi)), (4, .int 1), (0, .ref h), (1, .int 12), (2, .int lo), (3, .int hi)]) hx hb dX1_pack_486 hl (by decide) rfl (fun ls hl => ?_)
                          refine lv_iload hx hb dX1_pack_488 (lv_at hl 0 rfl) ?_
                          refine lv_if_eq (tgt := 523) hx hb dX1_pack_490 (by decide) (fun c_26 => ?_) (fun c_26 => ?_)
                          · skip
                            exact absurd c_26 (by decide)
                          · skip
                            refine lv_aload_n hx hb dX1_pack_493 rfl (lv_at hl 4 rfl) ?_
                            refine lv_sipush (v := 212) hx hb dX1_pack_494 (by decide) ?_
                            refine lv_iload_n hx hb dX1_pack_497 rfl (lv_at hl 6 rfl) ?_
                            refine lv_bipush (v := 16) hx hb dX1_pack_498 (by decide) ?_
                            refine lv_icmp_ne (tgt := 507) hx hb dX1_pack_500 (by decide) (fun c_27 => ?_) (fun c_27 => ?_)
                            · skip
                              refine lv_iload_n hx hb dX1_pack_507 rfl (lv_at hl 6 rfl) ?_
                              refine gsi (As := [.int lo]) (rest := [.int 212, .ref h]) ⟨hx, hb, hml, hown, hts⟩ (c_X1_log_v l dC dI tk tw _ 2 (by decide) lo c_25) (va_cwS 1 hts gX1_pack_X1_log rfl rfl rfl (by decide +kernel) ⟨Nat.le_of_ble_eq_true rfl, Nat.le_of_ble_eq_true rfl⟩) hP hS hA hZ rfl hl.1 rfl (Nat.le_of_ble_eq_true rfl) dX1_pack_508 ⟨Nat.le_of_ble_eq_true rfl, Nat.le_of_ble_eq_true rfl⟩ (fun r_29 H locs hw_28 hP hS => ?_)
                              obtain rfl : r_29 = nI (lgN 2) := hw_28
                              refine lv_iadd hx hb dX1_pack_511 ?_
                              refine lv_iconst (v := 0) hx hb dX1_pack_512 (by decide) ?_
                              refine lv_lconst (v := 0) hx hb dX1_pack_513 (by decide) ?_
                              refine lv_iload_n hx hb dX1_pack_514 rfl (lv_at hl 7 rfl) ?_
                              refine lv_sipush (v := 255) hx hb dX1_pack_515 (by decide) ?_
                              refine lv_iand hx hb dX1_pack_518 ?_
                              have hT : pk12 lo hi = ((212 + (nI (lgN 2))), 0, 0, (hi &&& 255)) := by unfold pk12; rw [if_neg c_17, if_pos c_25]
                              have hm9 : (-1 : Int32) < hi &&& 255 := (and255 hi).1
                              have hne9 : ¬ (hi &&& 255 : Int32) = -1 := (and255 hi).2
                              have hr9 : n8 + 1 + 0 + 1 ≤ 4096 := by rw [hT, phL_m hne9] at hr8; omega
                              refine gvi (As := [.int (212 + (nI (lgN 2))), .int 0, .long 0, .int (hi &&& 255)]) (rest := []) ⟨hx, hb, hml, hown, hts⟩ (c_X1_packHead_m l dC dI tk tw h a b cI cJ _ f g zc zso znu zty zhd zpa zch zlk zlo zhi zlp zll zlv n8 (212 + (nI (lgN 2))) 0 (by decide) 0 (hi &&& 255) hm9 hr9) (cwV 4 hts gX1_pack_X1_packHead rfl rfl rfl (by decide +kernel) ⟨Nat.le_of_ble_eq_true rfl, Nat.le_of_ble_eq_true rfl⟩) hK hP hD hS hA hZ (q0 := 0) (ci := 1) rfl rfl rfl rfl hl.1 rfl (Nat.le_of_ble_eq_true rfl) dX1_pack_519 ⟨Nat.le_of_ble_eq_true rfl, Nat.le_of_ble_eq_true rfl⟩ (fun r_31 u_32 H locs hw_30 hP hD hS => ?_)
                              have hP : va_P (dC, dI) vwCl (w1 h a b cI cJ (apM (apM (upd f n8 (212 + (nI (lgN 2)))) (n8 + 1) 0 0) (n8 + 1 + 0) (hi &&& 255 : Int32).toInt64 1) g 0 (nI (n8 + (1 + 0 + 1))) zc zso znu zty zhd zpa zch zlk zlo zhi zlp zll zlv) H := hP
                              have hD : va_D A (w1 h a b cI cJ (apM (apM (upd f n8 (212 + (nI (lgN 2)))) (n8 + 1) 0 0) (n8 + 1 + 0) (hi &&& 255 : Int32).toInt64 1) g 0 (nI (n8 + (1 + 0 + 1))) zc zso znu zty zhd zpa zch zlk zlo zhi zlp zll zlv) := hD
                              obtain rfl : r_31 = nI (1 + 0 + 1) := hw_30
                              have hP9 : va_P (dC, dI) vwCl ((fun (_ : Unit) => w1 h a b cI cJ (phF f n8 (pk12 lo hi)) g 0 (nI (n8 + phL (pk12 lo hi))) zc zso znu zty zhd zpa zch zlk zlo zhi zlp zll zlv) (())) H := by rw [hT, phL_m hne9, phF_m hne9]; exact hP
                              have hD9 : va_D A ((fun (_ : Unit) => w1 h a b cI cJ (phF f n8 (pk12 lo hi)) g 0 (nI (n8 + phL (pk12 lo hi))) zc zso znu zty zhd zpa zch zlk zlo zhi zlp zll zlv) (())) := by rw [hT, phL_m hne9, phF_m hne9]; exact hD
                              exact W.iret (v := nI (1 + 0 + 1)) hx hb hr (fun t ht hW => ⟨⟨nI (1 + 0 + 1), (), rfl, (by rw [hT, phL_m hne9]), by rw [ht]; exact hP9, va_K.moved hW.alike hK, hD9⟩, hS.F ht⟩) hS.2.2 dX1_pack_522
                            · skip
                              exact absurd (c_25.symm.trans c_27) (by decide)
                        · skip
                          refine lv_iload_n hx hb dX1_pack_464 rfl (lv_at hl 5 rfl) ?_
                          refine lv_iconst (v := 4) hx hb dX1_pack_465 (by decide) ?_
                          refine lv_icmp_eq (tgt := 481) hx hb dX1_pack_466 (by decide) (fun c_33 => ?_) (fun c_33 => ?_)
                          · skip
                            refine lv_iconst (v := 1) hx hb dX1_pack_481 (by decide) ?_
                            refine lv_goto (tgt := 486) hx hb dX1_pack_482 (by decide) ?_
                            refine lv_istore (lv' := [(10, .int 1), (7, .int (nI (ndN lo.toInt64))), (5, .long (bo lo hi)), (4, .int 1), (0, .ref h), (1, .int 12), (2, .int lo), (3, .int hi)]) hx hb dX1_pack_486 hl (by decide) rfl (fun ls hl => ?_)
                            refine lv_iload hx hb dX1_pack_488 (lv_at hl 0 rfl) ?_
                            refine lv_if_eq (tgt := 523) hx hb dX1_pack_490 (by decide) (fun c_34 => ?_) (fun c_34 => ?_)
                            · skip
                              exact absurd c_34 (by decide)
                            · skip
                              refine lv_aload_n hx hb dX1_pack_493 rfl (lv_at hl 4 rfl) ?_
                              refine lv_sipush (v := 212) hx hb dX1_pack_494 (by decide) ?_
                              refine lv_iload_n hx hb dX1_pack_497 rfl (lv_at hl 6 rfl) ?_
                              refine lv_bipush (v := 16) hx hb dX1_pack_498 (by decide) ?_
                              refine lv_icmp_ne (tgt := 507) hx hb dX1_pack_500 (by decide) (fun c_35 => ?_) (fun c_35 => ?_)
                              · skip
                                refine lv_iload_n hx hb dX1_pack_507 rfl (lv_at hl 6 rfl) ?_
                                refine gsi (As := [.int lo]) (rest := [.int 212, .ref h]) ⟨hx, hb, hml, hown, hts⟩ (c_X1_log_v l dC dI tk tw _ 4 (by decide) lo c_33) (va_cwS 1 hts gX1_pack_X1_log rfl rfl rfl (by decide +kernel) ⟨Nat.le_of_ble_eq_true rfl, Nat.le_of_ble_eq_true rfl⟩) hP hS hA hZ rfl hl.1 rfl (Nat.le_of_ble_eq_true rfl) dX1_pack_508 ⟨Nat.le_of_ble_eq_true rfl, Nat.le_of_ble_eq_true rfl⟩ (fun r_37 H locs hw_36 hP hS => ?_)
                                obtain rfl : r_37 = nI (lgN 4) := hw_36
                                refine lv_iadd hx hb dX1_pack_511 ?_
                                refine lv_iconst (v := 0) hx hb dX1_pack_512 (by decide) ?_
                                refine lv_lconst (v := 0) hx hb dX1_pack_513 (by decide) ?_
                                refine lv_iload_n hx hb dX1_pack_514 rfl (lv_at hl 7 rfl) ?_
                                refine lv_sipush (v := 255) hx hb dX1_pack_515 (by decide) ?_
                                refine lv_iand hx hb dX1_pack_518 ?_
                                have hT : pk12 lo hi = ((212 + (nI (lgN 4))), 0, 0, (hi &&& 255)) := by unfold pk12; rw [if_neg c_17, if_neg c_25, if_pos c_33]
                                have hm9 : (-1 : Int32) < hi &&& 255 := (and255 hi).1
                                have hne9 : ¬ (hi &&& 255 : Int32) = -1 := (and255 hi).2
                                have hr9 : n8 + 1 + 0 + 1 ≤ 4096 := by rw [hT, phL_m hne9] at hr8; omega
                                refine gvi (As := [.int (212 + (nI (lgN 4))), .int 0, .long 0, .int (hi &&& 255)]) (rest := []) ⟨hx, hb, hml, hown, hts⟩ (c_X1_packHead_m l dC dI tk tw h a b cI cJ _ f g zc zso znu zty zhd zpa zch zlk zlo zhi zlp zll zlv n8 (212 + (nI (lgN 4))) 0 (by decide) 0 (hi &&& 255) hm9 hr9) (cwV 4 hts gX1_pack_X1_packHead rfl rfl rfl (by decide +kernel) ⟨Nat.le_of_ble_eq_true rfl, Nat.le_of_ble_eq_true rfl⟩) hK hP hD hS hA hZ (q0 := 0) (ci := 1) rfl rfl rfl rfl hl.1 rfl (Nat.le_of_ble_eq_true rfl) dX1_pack_519 ⟨Nat.le_of_ble_eq_true rfl, Nat.le_of_ble_eq_true rfl⟩ (fun r_39 u_40 H locs hw_38 hP hD hS => ?_)
                                have hP : va_P (dC, dI) vwCl (w1 h a b cI cJ (apM (apM (upd f n8 (212 + (nI (lgN 4)))) (n8 + 1) 0 0) (n8 + 1 + 0) (hi &&& 255 : Int32).toInt64 1) g 0 (nI (n8 + (1 + 0 + 1))) zc zso znu zty zhd zpa zch zlk zlo zhi zlp zll zlv) H := hP
                                have hD : va_D A (w1 h a b cI cJ (apM (apM (upd f n8 (212 + (nI (lgN 4)))) (n8 + 1) 0 0) (n8 + 1 + 0) (hi &&& 255 : Int32).toInt64 1) g 0 (nI (n8 + (1 + 0 + 1))) zc zso znu zty zhd zpa zch zlk zlo zhi zlp zll zlv) := hD
                                obtain rfl : r_39 = nI (1 + 0 + 1) := hw_38
                                have hP9 : va_P (dC, dI) vwCl ((fun (_ : Unit) => w1 h a b cI cJ (phF f n8 (pk12 lo hi)) g 0 (nI (n8 + phL (pk12 lo hi))) zc zso znu zty zhd zpa zch zlk zlo zhi zlp zll zlv) (())) H := by rw [hT, phL_m hne9, phF_m hne9]; exact hP
                                have hD9 : va_D A ((fun (_ : Unit) => w1 h a b cI cJ (phF f n8 (pk12 lo hi)) g 0 (nI (n8 + phL (pk12 lo hi))) zc zso znu zty zhd zpa zch zlk zlo zhi zlp zll zlv) (())) := by rw [hT, phL_m hne9, phF_m hne9]; exact hD
                                exact W.iret (v := nI (1 + 0 + 1)) hx hb hr (fun t ht hW => ⟨⟨nI (1 + 0 + 1), (), rfl, (by rw [hT, phL_m hne9]), by rw [ht]; exact hP9, va_K.moved hW.alike hK, hD9⟩, hS.F ht⟩) hS.2.2 dX1_pack_522
                              · skip
                                exact absurd (c_33.symm.trans c_35) (by decide)
                          · skip
                            refine lv_iload_n hx hb dX1_pack_469 rfl (lv_at hl 5 rfl) ?_
                            refine lv_bipush (v := 8) hx hb dX1_pack_470 (by decide) ?_
                            refine lv_icmp_eq (tgt := 481) hx hb dX1_pack_472 (by decide) (fun c_41 => ?_) (fun c_41 => ?_)
                            · skip
                              refine lv_iconst (v := 1) hx hb dX1_pack_481 (by decide) ?_
                              refine lv_goto (tgt := 486) hx hb dX1_pack_482 (by decide) ?_
                              refine lv_istore (lv' := [(10, .int 1), (7, .int (nI (ndN lo.toInt64))), (5, .long (bo lo hi)), (4, .int 1), (0, .ref h), (1, .int 12), (2, .int lo), (3, .int hi)]) hx hb dX1_pack_486 hl (by decide) rfl (fun ls hl => ?_)
                              refine lv_iload hx hb dX1_pack_488 (lv_at hl 0 rfl) ?_
                              refine lv_if_eq (tgt := 523) hx hb dX1_pack_490 (by decide) (fun c_42 => ?_) (fun c_42 => ?_)
                              · skip
                                exact absurd c_42 (by decide)
                              · skip
                                refine lv_aload_n hx hb dX1_pack_493 rfl (lv_at hl 4 rfl) ?_
                                refine lv_sipush (v := 212) hx hb dX1_pack_494 (by decide) ?_
                                refine lv_iload_n hx hb dX1_pack_497 rfl (lv_at hl 6 rfl) ?_
                                refine lv_bipush (v := 16) hx hb dX1_pack_498 (by decide) ?_
                                refine lv_icmp_ne (tgt := 507) hx hb dX1_pack_500 (by decide) (fun c_43 => ?_) (fun c_43 => ?_)
                                · skip
                                  refine lv_iload_n hx hb dX1_pack_507 rfl (lv_at hl 6 rfl) ?_
                                  refine gsi (As := [.int lo]) (rest := [.int 212, .ref h]) ⟨hx, hb, hml, hown, hts⟩ (c_X1_log_v l dC dI tk tw _ 8 (by decide) lo c_41) (va_cwS 1 hts gX1_pack_X1_log rfl rfl rfl (by decide +kernel) ⟨Nat.le_of_ble_eq_true rfl, Nat.le_of_ble_eq_true rfl⟩) hP hS hA hZ rfl hl.1 rfl (Nat.le_of_ble_eq_true rfl) dX1_pack_508 ⟨Nat.le_of_ble_eq_true rfl, Nat.le_of_ble_eq_true rfl⟩ (fun r_45 H locs hw_44 hP hS => ?_)
                                  obtain rfl : r_45 = nI (lgN 8) := hw_44
                                  refine lv_iadd hx hb dX1_pack_511 ?_
                                  refine lv_iconst (v := 0) hx hb dX1_pack_512 (by decide) ?_
                                  refine lv_lconst (v := 0) hx hb dX1_pack_513 (by decide) ?_
                                  refine lv_iload_n hx hb dX1_pack_514 rfl (lv_at hl 7 rfl) ?_
                                  refine lv_sipush (v := 255) hx hb dX1_pack_515 (by decide) ?_
                                  refine lv_iand hx hb dX1_pack_518 ?_
                                  have hT : pk12 lo hi = ((212 + (nI (lgN 8))), 0, 0, (hi &&& 255)) := by unfold pk12; rw [if_neg c_17, if_neg c_25, if_neg c_33, if_pos c_41]
                                  have hm9 : (-1 : Int32) < hi &&& 255 := (and255 hi).1
                                  have hne9 : ¬ (hi &&& 255 : Int32) = -1 := (and255 hi).2
                                  have hr9 : n8 + 1 + 0 + 1 ≤ 4096 := by rw [hT, phL_m hne9] at hr8; omega
                                  refine gvi (As := [.int (212 + (nI (lgN 8))), .int 0, .long 0, .int (hi &&& 255)]) (rest := []) ⟨hx, hb, hml, hown, hts⟩ (c_X1_packHead_m l dC dI tk tw h a b cI cJ _ f g zc zso znu zty zhd zpa zch zlk zlo zhi zlp zll zlv n8 (212 + (nI (lgN 8))) 0 (by decide) 0 (hi &&& 255) hm9 hr9) (cwV 4 hts gX1_pack_X1_packHead rfl rfl rfl (by decide +kernel) ⟨Nat.le_of_ble_eq_true rfl, Nat.le_of_ble_eq_true rfl⟩) hK hP hD hS hA hZ (q0 := 0) (ci := 1) rfl rfl rfl rfl hl.1 rfl (Nat.le_of_ble_eq_true rfl) dX1_pack_519 ⟨Nat.le_of_ble_eq_true rfl, Nat.le_of_ble_eq_true rfl⟩ (fun r_47 u_48 H locs hw_46 hP hD hS => ?_)
                                  have hP : va_P (dC, dI) vwCl (w1 h a b cI cJ (apM (apM (upd f n8 (212 + (nI (lgN 8)))) (n8 + 1) 0 0) (n8 + 1 + 0) (hi &&& 255 : Int32).toInt64 1) g 0 (nI (n8 + (1 + 0 + 1))) zc zso znu zty zhd zpa zch zlk zlo zhi zlp zll zlv) H := hP
                                  have hD : va_D A (w1 h a b cI cJ (apM (apM (upd f n8 (212 + (nI (lgN 8)))) (n8 + 1) 0 0) (n8 + 1 + 0) (hi &&& 255 : Int32).toInt64 1) g 0 (nI (n8 + (1 + 0 + 1))) zc zso znu zty zhd zpa zch zlk zlo zhi zlp zll zlv) := hD
                                  obtain rfl : r_47 = nI (1 + 0 + 1) := hw_46
                                  have hP9 : va_P (dC, dI) vwCl ((fun (_ : Unit) => w1 h a b cI cJ (phF f n8 (pk12 lo hi)) g 0 (nI (n8 + phL (pk12 lo hi))) zc zso znu zty zhd zpa zch zlk zlo zhi zlp zll zlv) (())) H := by rw [hT, phL_m hne9, phF_m hne9]; exact hP
                                  have hD9 : va_D A ((fun (_ : Unit) => w1 h a b cI cJ (phF f n8 (pk12 lo hi)) g 0 (nI (n8 + phL (pk12 lo hi))) zc zso znu zty zhd zpa zch zlk zlo zhi zlp zll zlv) (())) := by rw [hT, phL_m hne9, phF_m hne9]; exact hD
                                  exact W.iret (v := nI (1 + 0 + 1)) hx hb hr (fun t ht hW => ⟨⟨nI (1 + 0 + 1), (), rfl, (by rw [hT, phL_m hne9]), by rw [ht]; exact hP9, va_K.moved hW.alike hK, hD9⟩, hS.F ht⟩) hS.2.2 dX1_pack_522
                                · skip
                                  exact absurd (c_41.symm.trans c_43) (by decide)
                            · skip
                              refine lv_iload_n hx hb dX1_pack_475 rfl (lv_at hl 5 rfl) ?_
                              refine lv_bipush (v := 16) hx hb dX1_pack_476 (by decide) ?_
                              refine lv_icmp_ne (tgt := 485) hx hb dX1_pack_478 (by decide) (fun c_49 => ?_) (fun c_49 => ?_)
                              · skip
                                refine lv_iconst (v := 0) hx hb dX1_pack_485 (by decide) ?_
                                refine lv_istore (lv' := [(10, .int 0), (7, .int (nI (ndN lo.toInt64))), (5, .long (bo lo hi)), (4, .int 1), (0, .ref h), (1, .int 12), (2, .int lo), (3, .int hi)]) hx hb dX1_pack_486 hl (by decide) rfl (fun ls hl => ?_)
                                refine lv_iload hx hb dX1_pack_488 (lv_at hl 0 rfl) ?_
                                refine lv_if_eq (tgt := 523) hx hb dX1_pack_490 (by decide) (fun c_50 => ?_) (fun c_50 => ?_)
                                · skip
                                  refine lv_aload_n hx hb dX1_pack_523 rfl (lv_at hl 4 rfl) ?_
                                  refine lv_sipush (v := 199) hx hb dX1_pack_524 (by decide) ?_
                                  refine lv_iload hx hb dX1_pack_527 (lv_at hl 1 rfl) ?_
                                  refine gsi (As := [.int (nI (ndN lo.toInt64))]) (rest := [.int 199, .ref h]) ⟨hx, hb, hml, hown, hts⟩ (c_X1_log l dC dI tk tw _ (ndN lo.toInt64) (Nat.le_trans (ndN_le _) (by decide))) (va_cwS 1 hts gX1_pack_X1_log rfl rfl rfl (by decide +kernel) ⟨Nat.le_of_ble_eq_true rfl, Nat.le_of_ble_eq_true rfl⟩) hP hS hA hZ rfl hl.1 rfl (Nat.le_of_ble_eq_true rfl) dX1_pack_529 ⟨Nat.le_of_ble_eq_true rfl, Nat.le_of_ble_eq_true rfl⟩ (fun r_52 H locs hw_51 hP hS => ?_)
                                  obtain rfl : r_52 = nI (lgN (ndN lo.toInt64)) := hw_51
                                  refine lv_iadd hx hb dX1_pack_532 ?_
                                  refine lv_iload hx hb dX1_pack_533 (lv_at hl 1 rfl) ?_
                                  refine lv_iload_n hx hb dX1_pack_535 rfl (lv_at hl 6 rfl) ?_
                                  refine lv_i2l hx hb dX1_pack_536 rfl ?_
                                  refine lv_iload_n hx hb dX1_pack_537 rfl (lv_at hl 7 rfl) ?_
                                  refine lv_sipush (v := 255) hx hb dX1_pack_538 (by decide) ?_
                                  refine lv_iand hx hb dX1_pack_541 ?_
                                  have hT : pk12 lo hi = ((199 + (nI (lgN (ndN lo.toInt64)))), (ndN lo.toInt64), lo.toInt64, (hi &&& 255)) := by unfold pk12; rw [if_neg c_17, if_neg c_25, if_neg c_33, if_neg c_41, if_neg c_49]
                                  have hm9 : (-1 : Int32) < hi &&& 255 := (and255 hi).1
                                  have hne9 : ¬ (hi &&& 255 : Int32) = -1 := (and255 hi).2
                                  have hr9 : n8 + 1 + (ndN lo.toInt64) + 1 ≤ 4096 := by rw [hT, phL_m hne9] at hr8; omega
                                  refine gvi (As := [.int (199 + (nI (lgN (ndN lo.toInt64)))), .int (nI (ndN lo.toInt64)), .long lo.toInt64, .int (hi &&& 255)]) (rest := []) ⟨hx, hb, hml, hown, hts⟩ (c_X1_packHead_m l dC dI tk tw h a b cI cJ _ f g zc zso znu zty zhd zpa zch zlk zlo zhi zlp zll zlv n8 (199 + (nI (lgN (ndN lo.toInt64)))) (ndN lo.toInt64) (ndN_le _) lo.toInt64 (hi &&& 255) hm9 hr9) (cwV 4 hts gX1_pack_X1_packHead rfl rfl rfl (by decide +kernel) ⟨Nat.le_of_ble_eq_true rfl, Nat.le_of_ble_eq_true rfl⟩) hK hP hD hS hA hZ (q0 := 0) (ci := 1) rfl rfl rfl rfl hl.1 rfl (Nat.le_of_ble_eq_true rfl) dX1_pack_542 ⟨Nat.le_of_ble_eq_true rfl, Nat.le_of_ble_eq_true rfl⟩ (fun r_54 u_55 H locs hw_53 hP hD hS => ?_)
                                  have hP : va_P (dC, dI) vwCl (w1 h a b cI cJ (apM (apM (upd f n8 (199 + (nI (lgN (ndN lo.toInt64))))) (n8 + 1) lo.toInt64 (ndN lo.toInt64)) (n8 + 1 + (ndN lo.toInt64)) (hi &&& 255 : Int32).toInt64 1) g 0 (nI (n8 + (1 + (ndN lo.toInt64) + 1))) zc zso znu zty zhd zpa zch zlk zlo zhi zlp zll zlv) H := hP
                                  have hD : va_D A (w1 h a b cI cJ (apM (apM (upd f n8 (199 + (nI (lgN (ndN lo.toInt64))))) (n8 + 1) lo.toInt64 (ndN lo.toInt64)) (n8 + 1 + (ndN lo.toInt64)) (hi &&& 255 : Int32).toInt64 1) g 0 (nI (n8 + (1 + (ndN lo.toInt64) + 1))) zc zso znu zty zhd zpa zch zlk zlo zhi zlp zll zlv) := hD
                                  obtain rfl : r_54 = nI (1 + (ndN lo.toInt64) + 1) := hw_53
                                  have hP9 : va_P (dC, dI) vwCl ((fun (_ : Unit) => w1 h a b cI cJ (phF f n8 (pk12 lo hi)) g 0 (nI (n8 + phL (pk12 lo hi))) zc zso znu zty zhd zpa zch zlk zlo zhi zlp zll zlv) (())) H := by rw [hT, phL_m hne9, phF_m hne9]; exact hP
                                  have hD9 : va_D A ((fun (_ : Unit) => w1 h a b cI cJ (phF f n8 (pk12 lo hi)) g 0 (nI (n8 + phL (pk12 lo hi))) zc zso znu zty zhd zpa zch zlk zlo zhi zlp zll zlv) (())) := by rw [hT, phL_m hne9, phF_m hne9]; exact hD
                                  exact W.iret (v := nI (1 + (ndN lo.toInt64) + 1)) hx hb hr (fun t ht hW => ⟨⟨nI (1 + (ndN lo.toInt64) + 1), (), rfl, (by rw [hT, phL_m hne9]), by rw [ht]; exact hP9, va_K.moved hW.alike hK, hD9⟩, hS.F ht⟩) hS.2.2 dX1_pack_545
                                · skip
                                  exact absurd (by decide) c_50
                              · skip
                                refine lv_iconst (v := 1) hx hb dX1_pack_481 (by decide) ?_
                                refine lv_goto (tgt := 486) hx hb dX1_pack_482 (by decide) ?_
                                refine lv_istore (lv' := [(10, .int 1), (7, .int (nI (ndN lo.toInt64))), (5, .long (bo lo hi)), (4, .int 1), (0, .ref h), (1, .int 12), (2, .int lo), (3, .int hi)]) hx hb dX1_pack_486 hl (by decide) rfl (fun ls hl => ?_)
                                refine lv_iload hx hb dX1_pack_488 (lv_at hl 0 rfl) ?_
                                refine lv_if_eq (tgt := 523) hx hb dX1_pack_490 (by decide) (fun c_56 => ?_) (fun c_56 => ?_)
                                · skip
                                  exact absurd c_56 (by decide)
                                · skip
                                  refine lv_aload_n hx hb dX1_pack_493 rfl (lv_at hl 4 rfl) ?_
                                  refine lv_sipush (v := 212) hx hb dX1_pack_494 (by decide) ?_
                                  refine lv_iload_n hx hb dX1_pack_497 rfl (lv_at hl 6 rfl) ?_
                                  refine lv_bipush (v := 16) hx hb dX1_pack_498 (by decide) ?_
                                  refine lv_icmp_ne (tgt := 507) hx hb dX1_pack_500 (by decide) (fun c_57 => ?_) (fun c_57 => ?_)
                                  · skip
                                    exact absurd c_49 c_57
                                  · skip
                                    refine lv_iconst (v := 4) hx hb dX1_pack_503 (by decide) ?_
                                    refine lv_goto (tgt := 511) hx hb dX1_pack_504 (by decide) ?_
                                    refine lv_iadd hx hb dX1_pack_511 ?_
                                    refine lv_iconst (v := 0) hx hb dX1_pack_512 (by decide) ?_
                                    refine lv_lconst (v := 0) hx hb dX1_pack_513 (by decide) ?_
                                    refine lv_iload_n hx hb dX1_pack_514 rfl (lv_at hl 7 rfl) ?_
                                    refine lv_sipush (v := 255) hx hb dX1_pack_515 (by decide) ?_
                                    refine lv_iand hx hb dX1_pack_518 ?_
                                    have hT : pk12 lo hi = ((212 + 4), 0, 0, (hi &&& 255)) := by unfold pk12; rw [if_neg c_17, if_neg c_25, if_neg c_33, if_neg c_41, if_pos c_49]
                                    have hm9 : (-1 : Int32) < hi &&& 255 := (and255 hi).1
                                    have hne9 : ¬ (hi &&& 255 : Int32) = -1 := (and255 hi).2
                                    have hr9 : n8 + 1 + 0 + 1 ≤ 4096 := by rw [hT, phL_m hne9] at hr8; omega
                                    refine gvi (As := [.int (212 + 4), .int 0, .long 0, .int (hi &&& 255)]) (rest := []) ⟨hx, hb, hml, hown, hts⟩ (c_X1_packHead_m l dC dI tk tw h a b cI cJ _ f g zc zso znu zty zhd zpa zch zlk zlo zhi zlp zll zlv n8 (212 + 4) 0 (by decide) 0 (hi &&& 255) hm9 hr9) (cwV 4 hts gX1_pack_X1_packHead rfl rfl rfl (by decide +kernel) ⟨Nat.le_of_ble_eq_true rfl, Nat.le_of_ble_eq_true rfl⟩) hK hP hD hS hA hZ (q0 := 0) (ci := 1) rfl rfl rfl rfl hl.1 rfl (Nat.le_of_ble_eq_true rfl) dX1_pack_519 ⟨Nat.le_of_ble_eq_true rfl, Nat.le_of_ble_eq_true rfl⟩ (fun r_59 u_60 H locs hw_58 hP hD hS => ?_)
                                    have hP : va_P (dC, dI) vwCl (w1 h a b cI cJ (apM (apM (upd f n8 (212 + 4)) (n8 + 1) 0 0) (n8 + 1 + 0) (hi &&& 255 : Int32).toInt64 1) g 0 (nI (n8 + (1 + 0 + 1))) zc zso znu zty zhd zpa zch zlk zlo zhi zlp zll zlv) H := hP
                                    have hD : va_D A (w1 h a b cI cJ (apM (apM (upd f n8 (212 + 4)) (n8 + 1) 0 0) (n8 + 1 + 0) (hi &&& 255 : Int32).toInt64 1) g 0 (nI (n8 + (1 + 0 + 1))) zc zso znu zty zhd zpa zch zlk zlo zhi zlp zll zlv) := hD
                                    obtain rfl : r_59 = nI (1 + 0 + 1) := hw_58
                                    have hP9 : va_P (dC, dI) vwCl ((fun (_ : Unit) => w1 h a b cI cJ (phF f n8 (pk12 lo hi)) g 0 (nI (n8 + phL (pk12 lo hi))) zc zso znu zty zhd zpa zch zlk zlo zhi zlp zll zlv) (())) H := by rw [hT, phL_m hne9, phF_m hne9]; exact hP
                                    have hD9 : va_D A ((fun (_ : Unit) => w1 h a b cI cJ (phF f n8 (pk12 lo hi)) g 0 (nI (n8 + phL (pk12 lo hi))) zc zso znu zty zhd zpa zch zlk zlo zhi zlp zll zlv) (())) := by rw [hT, phL_m hne9, phF_m hne9]; exact hD
                                    exact W.iret (v := nI (1 + 0 + 1)) hx hb hr (fun t ht hW => ⟨⟨nI (1 + 0 + 1), (), rfl, (by rw [hT, phL_m hne9]), by rw [ht]; exact hP9, va_K.moved hW.alike hK, hD9⟩, hS.F ht⟩) hS.2.2 dX1_pack_522
                  · skip
                    exact absurd (by decide) c_12
                · skip
                  exact absurd c_8 (by decide)
set_option maxHeartbeats 4000000 in
set_option maxRecDepth 100000 in
theorem c_X1_pack_12f (l : Launch) (dC : Nat → ClassId) (dI : Nat → Nat → Nat) (tk tw : Nat) (h a b : Nat) (cI cJ : ClassId) (sz : Nat) (f : Nat → Int32) (g : Nat → Int64) (zt : Int32) (zc : Int32) (zso : Int32) (znu : Int64) (zty : Int32) (zhd : Int32) (zpa : Int64) (zch : Int64) (zlk : Int32) (zlo : Int32) (zhi : Int32) (zlp : Int32) (zll : Int32) (zlv : Int32) (n8 : Nat) (hn8 : n8 ≤ 4096) (lo hi : Int32) (h8 : ¬ lo < 0) (hh1 : ¬ hi < -128) (hh2 : ¬ 127 < hi) (hr8 : 4096 < n8 + phL (pk12 lo hi)) : Met l yX1_pack wsX1_pack ({ frames := 2, cells := 0, slots := 0, locals := 49 }) (va_Pc [.ref h, .int 12, .int lo, .int hi] (pr dC dI (t1 cI cJ) (w1 h a b cI cJ f g zt (nI n8) zc zso znu zty zhd zpa zch zlk zlo zhi zlp zll zlv) sz tk tw)) (va_Qi (fun (r : Int32) (_ : Unit) => True) (fun (_ : Unit) => po dC dI (t1 cI cJ) (va_A (w1 h a b cI cJ f g zt (nI n8) zc zso znu zty zhd zpa zch zlk zlo zhi zlp zll zlv) sz) (w1 h a b cI cJ f g 2 (nI n8) zc zso znu zty zhd zpa zch zlk zlo zhi zlp zll zlv)) (va_A (w1 h a b cI cJ f g zt (nI n8) zc zso znu zty zhd zpa zch zlk zlo zhi zlp zll zlv) sz)) 0 0 (va_A (w1 h a b cI cJ f g zt (nI n8) zc zso znu zty zhd zpa zch zlk zlo zhi zlp zll zlv) sz) := by
  refine Met.ofW (cc := cX1_pack) (maxL := 11) (ret := (some .int)) (by decide) rfl ?_
  intro p e s m args below meth c s₁ Bd hml hv
  obtain ⟨rfl, hsz, hP, hK, hD0, hZ⟩ := hv
  have hx := Bd.exec
  have hb := Bd.bytes
  have hr := Bd.returns
  have hts := atoms_spec (ws := wsX1_pack) Bd.pre
  have hown : s.vm.findClass RX1 = some m.cls := findClass_of_methodNamed Bd.named
  have hlocks := Bd.notSynchronized
  subst hsz
  have hD := hD0.self (sz := s.heap.size)
  generalize hAe : va_A (w1 h a b cI cJ f g zt (nI n8) zc zso znu zty zhd zpa zch zlk zlo zhi zlp zll zlv) s.heap.size = A at hD hZ ⊢
  have hA : ∀ q : Nat, s.heap.size ≤ q → A q := fun q h => by rw [← hAe]; exact Or.inr h
  have hS : va_S A s.heap s.heap [] := va_S.rf
  have hP : va_P (dC, dI) vwCl (w1 h a b cI cJ f g zt (nI n8) zc zso znu zty zhd zpa zch zlk zlo zhi zlp zll zlv) s.heap := hP
  have hin0 : ∀ w ∈ wsX10, w ∈ wsX1_pack := by decide +kernel
  have fl21 := hts (.fieldLink RX1 21 "MessageReaderModel" "thrown" "I") (by decide +kernel)
  have hl := lv_entry ([.ref h, .int 12, .int lo, .int hi]) (n := 11) (Nat.le_of_ble_eq_true rfl)
  rw [lg_entry_eq]
  generalize (lg_sl ([.ref h, .int 12, .int lo, .int hi]) ++ List.replicate (11 - (lg_sl ([.ref h, .int 12, .int lo, .int hi])).length) Slot.unset).toArray = ls at hl ⊢
  have hl : lv_has ls 11 [(0, .ref h), (1, .int 12), (2, .int lo), (3, .int hi)] := hl
  refine lv_aload_n hx hb dX1_pack_0 rfl (lv_at hl 0 rfl) ?_
  refine lv_iconst (v := 0) hx hb dX1_pack_1 (by decide) ?_
  refine va_put (D := (dC, dI)) (ci := 1) (v := .int 0) (ty := .int) (C := RX1) (T := TX1) (N := 17) hx hb hts hin0 tyX1 tyX1_ok nmX1 hown hK hP hD hS 0 rfl rfl 0 (by decide) fl21 (fun _ h9 => h9) rfl (by decide +kernel) rfl rfl (Nat.le_of_ble_eq_true rfl) dX1_pack_2 (fun H locs hP hD hS => ?_)
  have hP : va_P (dC, dI) vwCl (w1 h a b cI cJ f g 0 (nI n8) zc zso znu zty zhd zpa zch zlk zlo zhi zlp zll zlv) H := hP
  have hD : va_D A (w1 h a b cI cJ f g 0 (nI n8) zc zso znu zty zhd zpa zch zlk zlo zhi zlp zll zlv) := hD
  refine lv_iload_n hx hb dX1_pack_5 rfl (lv_at hl 1 rfl) ?_
  refine lv_if_le (tgt := 47) hx hb dX1_pack_6 (by decide) (fun c_1 => ?_) (fun c_1 => ?_)
  · skip
    exact absurd c_1 (by decide)
  · skip
    refine lv_iload_n hx hb dX1_pack_9 rfl (lv_at hl 1 rfl) ?_
    refine lv_bipush (v := 13) hx hb dX1_pack_10 (by decide) ?_
    refine lv_icmp_ge (tgt := 47) hx hb dX1_pack_12 (by decide) (fun c_2 => ?_) (fun c_2 => ?_)
    · skip
      exact absurd c_2 (by decide)
    · skip
      refine lv_iload_n hx hb dX1_pack_15 rfl (lv_at hl 1 rfl) ?_
      refine lv_bipush (v := 8) hx hb dX1_pack_16 (by decide) ?_
      refine lv_icmp_lt (tgt := 25) hx hb dX1_pack_18 (by decide) (fun c_3 => ?_) (fun c_3 => ?_)
      · skip
        exact absurd c_3 (by decide)
      · skip
        refine lv_iload_n hx hb dX1_pack_21 rfl (lv_at hl 2 rfl) ?_
        refine lv_if_lt (tgt := 47) hx hb dX1_pack_22 (by decide) (fun c_4 => ?_) (fun c_4 => ?_)
        · skip
          exact absurd c_4 h8
        · skip
          refine lv_iload_n hx hb dX1_pack_25 rfl (lv_at hl 1 rfl) ?_
          refine lv_bipush (v := 12) hx hb dX1_pack_26 (by decide) ?_
          refine lv_icmp_ne (tgt := 43) hx hb dX1_pack_28 (by decide) (fun c_5 => ?_) (fun c_5 => ?_)
          · skip
            exact absurd (by decide) c_5
          · skip
            refine lv_iload_n hx hb dX1_pack_31 rfl (lv_at hl 3 rfl) ?_
            refine lv_bipush (v := -128) hx hb dX1_pack_32 (by decide) ?_
            refine lv_icmp_lt (tgt := 47) hx hb dX1_pack_34 (by decide) (fun c_6 => ?_) (fun c_6 => ?_)
            · skip
              exact absurd c_6 hh1
            · skip
              refine lv_iload_n hx hb dX1_pack_37 rfl (lv_at hl 3 rfl) ?_
              refine lv_bipush (v := 127) hx hb dX1_pack_38 (by decide) ?_
              refine lv_icmp_gt (tgt := 47) hx hb dX1_pack_40 (by decide) (fun c_7 => ?_) (fun c_7 => ?_)
              · skip
                exact absurd c_7 hh2
              · skip
                refine lv_iconst (v := 1) hx hb dX1_pack_43 (by decide) ?_
                refine lv_goto (tgt := 48) hx hb dX1_pack_44 (by decide) ?_
                refine lv_istore (lv' := [(4, .int 1), (0, .ref h), (1, .int 12), (2, .int lo), (3, .int hi)]) hx hb dX1_pack_48 hl (by decide) rfl (fun ls hl => ?_)
                refine lv_aload_n hx hb dX1_pack_50 rfl (lv_at hl 1 rfl) ?_
                refine lv_iload hx hb dX1_pack_51 (lv_at hl 0 rfl) ?_
                refine lv_if_ne (tgt := 60) hx hb dX1_pack_53 (by decide) (fun c_8 => ?_) (fun c_8 => ?_)
                · skip
                  refine lv_iconst (v := 0) hx hb dX1_pack_60 (by decide) ?_
                  refine lv_iconst (v := 1) hx hb dX1_pack_61 (by decide) ?_
                  refine gvi (As := [.int 0, .int 1]) (rest := []) ⟨hx, hb, hml, hown, hts⟩ (c_X1_fails l dC dI tk tw h a b cI cJ _ f g 0 (nI n8) zc zso znu zty zhd zpa zch zlk zlo zhi zlp zll zlv 0 1) (cwV 2 hts gX1_pack_X1_fails rfl rfl rfl (by decide +kernel) ⟨Nat.le_of_ble_eq_true rfl, Nat.le_of_ble_eq_true rfl⟩) hK hP hD hS hA hZ (q0 := 0) (ci := 1) rfl rfl rfl rfl hl.1 rfl (Nat.le_of_ble_eq_true rfl) dX1_pack_62 ⟨Nat.le_of_ble_eq_true rfl, Nat.le_of_ble_eq_true rfl⟩ (fun r_10 u_11 H locs hw_9 hP hD hS => ?_)
                  obtain rfl : u_11 = 0 := hw_9.1.trans (by decide)
                  have hP : va_P (dC, dI) vwCl (w1 h a b cI cJ f g 0 (nI n8) zc zso znu zty zhd zpa zch zlk zlo zhi zlp zll zlv) H := hP
                  have hD : va_D A (w1 h a b cI cJ f g 0 (nI n8) zc zso znu zty zhd zpa zch zlk zlo zhi zlp zll zlv) := hD
                  obtain rfl : r_10 = 0 := hw_9.2.trans (by decide)
                  refine lv_if_eq (tgt := 70) hx hb dX1_pack_65 (by decide) (fun c_12 => ?_) (fun c_12 => ?_)
                  · skip
                    refine lv_iload_n hx hb dX1_pack_70 rfl (lv_at hl 4 rfl) ?_
                    refine lv_i2l hx hb dX1_pack_71 rfl ?_
                    refine lv_bipush (v := 32) hx hb dX1_pack_72 (by decide) ?_
                    refine lv_lshl hx hb dX1_pack_74 rfl ?_
                    refine lv_iload_n hx hb dX1_pack_75 rfl (lv_at hl 3 rfl) ?_
                    refine lv_i2l hx hb dX1_pack_76 rfl ?_
                    refine lv_ldc2 (v := 4294967295) hx hb hown (hts (.constantLong RX1 118 (4294967295)) (by decide +kernel)) dX1_pack_77 ?_
                    refine lv_land hx hb dX1_pack_80 ?_
                    refine lv_lor hx hb dX1_pack_81 ?_
                    have e_13 : ((hi.toInt64 <<< ((32 : Int32).toInt64 &&& 63)) ||| (lo.toInt64 &&& 4294967295) : Int64) = bo lo hi := rfl
                    rw [e_13]
                    refine lv_lstore (lv' := [(5, .long (bo lo hi)), (4, .int 1), (0, .ref h), (1, .int 12), (2, .int lo), (3, .int hi)]) hx hb dX1_pack_82 hl (by decide) rfl (fun ls hl => ?_)
                    refine lv_iload_n hx hb dX1_pack_84 rfl (lv_at hl 3 rfl) ?_
                    refine lv_bipush (v := 7) hx hb dX1_pack_85 (by decide) ?_
                    refine lv_icmp_le (tgt := 98) hx hb dX1_pack_87 (by decide) (fun c_14 => ?_) (fun c_14 => ?_)
                    · skip
                      exact absurd c_14 (by decide)
                    · skip
                      refine lv_iload_n hx hb dX1_pack_90 rfl (lv_at hl 4 rfl) ?_
                      refine lv_i2l hx hb dX1_pack_91 rfl ?_
                      refine gsi (As := [.long lo.toInt64]) (rest := []) ⟨hx, hb, hml, hown, hts⟩ (c_X1_needs l dC dI tk tw _ lo.toInt64) (va_cwS 1 hts gX1_pack_X1_needs rfl rfl rfl (by decide +kernel) ⟨Nat.le_of_ble_eq_true rfl, Nat.le_of_ble_eq_true rfl⟩) hP hS hA hZ rfl hl.1 rfl (Nat.le_of_ble_eq_true rfl) dX1_pack_92 ⟨Nat.le_of_ble_eq_true rfl, Nat.le_of_ble_eq_true rfl⟩ (fun r_16 H locs hw_15 hP hS => ?_)
                      obtain rfl : r_16 = nI (ndN lo.toInt64) := hw_15
                      refine lv_goto (tgt := 99) hx hb dX1_pack_95 (by decide) ?_
                      refine lv_istore (lv' := [(7, .int (nI (ndN lo.toInt64))), (5, .long (bo lo hi)), (4, .int 1), (0, .ref h), (1, .int 12), (2, .int lo), (3, .int hi)]) hx hb dX1_pack_99 hl (by decide) rfl (fun ls hl => ?_)
                      refine lv_iload_n hx hb dX1_pack_101 rfl (lv_at hl 4 rfl) ?_
                      refine lv_tableOut (tgt := 454) hx hb dX1_pack_102 (by decide) (by decide) ?_
                      refine lv_iload_n hx hb dX1_pack_454 rfl (lv_at hl 5 rfl) ?_
                      refine lv_iconst (v := 1) hx hb dX1_pack_455 (by decide) ?_
                      refine lv_icmp_eq (tgt := 481) hx hb dX1_pack_456 (by decide) (fun c_17 => ?_) (fun c_17 => ?_)
                      · skip
                        refine lv_iconst (v := 1) hx hb dX1_pack_481 (by decide) ?_
                        refine lv_goto (tgt := 486) hx hb dX1_pack_482 (by decide) ?_
                        refine lv_istore (lv' := [(10, .int 1), (7, .int (nI (ndN lo.toInt64))), (5, .long (bo lo hi)), (4, .int 1), (0, .ref h), (1, .int 12), (2, .int lo), (3, .int hi)]) hx hb dX1_pack_486 hl (by decide) rfl (fun ls hl => ?_)
                        refine lv_iload hx hb dX1_pack_488 (lv_at hl 0 rfl) ?_
                        refine lv_if_eq (tgt := 523) hx hb dX1_pack_490 (by decide) (fun c_18 => ?_) (fun c_18 => ?_)
                        · skip
                          exact absurd c_18 (by decide)
                        · skip
                          refine lv_aload_n hx hb dX1_pack_493 rfl (lv_at hl 4 rfl) ?_
                          refine lv_sipush (v := 212) hx hb dX1_pack_494 (by decide) ?_
                          refine lv_iload_n hx hb dX1_pack_497 rfl (lv_at hl 6 rfl) ?_
                          refine lv_bipush (v := 16) hx hb dX1_pack_498 (by decide) ?_
                          refine lv_icmp_ne (tgt := 507) hx hb dX1_pack_500 (by decide) (fun c_19 => ?_) (fun c_19 => ?_)
                          · skip
                            refine lv_iload_n hx hb dX1_pack_507 rfl (lv_at hl 6 rfl) ?_
                            refine gsi (As := [.int lo]) (rest := [.int 212, .ref h]) ⟨hx, hb, hml, hown, hts⟩ (c_X1_log_v l dC dI tk tw _ 1 (by decide) lo c_17) (va_cwS 1 hts gX1_pack_X1_log rfl rfl rfl (by decide +kernel) ⟨Nat.le_of_ble_eq_true rfl, Nat.le_of_ble_eq_true rfl⟩) hP hS hA hZ rfl hl.1 rfl (Nat.le_of_ble_eq_true rfl) dX1_pack_508 ⟨Nat.le_of_ble_eq_true rfl, Nat.le_of_ble_eq_true rfl⟩ (fun r_21 H locs hw_20 hP hS => ?_)
                            obtain rfl : r_21 = nI (lgN 1) := hw_20
                            refine lv_iadd hx hb dX1_pack_511 ?_
                            refine lv_iconst (v := 0) hx hb dX1_pack_512 (by decide) ?_
                            refine lv_lconst (v := 0) hx hb dX1_pack_513 (by decide) ?_
                            refine lv_iload_n hx hb dX1_pack_514 rfl (lv_at hl 7 rfl) ?_
                            refine lv_sipush (v := 255) hx hb dX1_pack_515 (by decide) ?_
                            refine lv_iand hx hb dX1_pack_518 ?_
                            have hT : pk12 lo hi = ((212 + (nI (lgN 1))), 0, 0, (hi &&& 255)) := by unfold pk12; rw [if_pos c_17]
                            have hm9 : (-1 : Int32) < hi &&& 255 := (and255 hi).1
                            have hne9 : ¬ (hi &&& 255 : Int32) = -1 := (and255 hi).2
                            have hr9 : 4096 < n8 + 1 + 0 + 1 := by rw [hT, phL_m hne9] at hr8; omega
                            refine gvi (As := [.int (212 + (nI (lgN 1))), .int 0, .long 0, .int (hi &&& 255)]) (rest := []) ⟨hx, hb, hml, hown, hts⟩ (c_X1_packHead_mf l dC dI tk tw h a b cI cJ _ f g zc zso znu zty zhd zpa zch zlk zlo zhi zlp zll zlv n8 hn8 (212 + (nI (lgN 1))) 0 (by decide) 0 (hi &&& 255) hm9 hr9) (cwV 4 hts gX1_pack_X1_packHead rfl rfl rfl (by decide +kernel) ⟨Nat.le_of_ble_eq_true rfl, Nat.le_of_ble_eq_true rfl⟩) hK hP hD hS hA hZ (q0 := 0) (ci := 1) rfl rfl rfl rfl hl.1 rfl (Nat.le_of_ble_eq_true rfl) dX1_pack_519 ⟨Nat.le_of_ble_eq_true rfl, Nat.le_of_ble_eq_true rfl⟩ (fun r_23 u_24 H locs hw_22 hP hD hS => ?_)
                            have hP : va_P (dC, dI) vwCl (w1 h a b cI cJ f g 2 (nI n8) zc zso znu zty zhd zpa zch zlk zlo zhi zlp zll zlv) H := hP
                            have hD : va_D A (w1 h a b cI cJ f g 2 (nI n8) zc zso znu zty zhd zpa zch zlk zlo zhi zlp zll zlv) := hD
                            have hP9 : va_P (dC, dI) vwCl ((fun (_ : Unit) => w1 h a b cI cJ f g 2 (nI n8) zc zso znu zty zhd zpa zch zlk zlo zhi zlp zll zlv) (())) H := hP
                            have hD9 : va_D A ((fun (_ : Unit) => w1 h a b cI cJ f g 2 (nI n8) zc zso znu zty zhd zpa zch zlk zlo zhi zlp zll zlv) (())) := hD
                            exact W.iret (v := r_23) hx hb hr (fun t ht hW => ⟨⟨r_23, (), rfl, trivial, by rw [ht]; exact hP9, va_K.moved hW.alike hK, hD9⟩, hS.F ht⟩) hS.2.2 dX1_pack_522
                          · skip
                            exact absurd (c_17.symm.trans c_19) (by decide)
                      · skip
                        refine lv_iload_n hx hb dX1_pack_459 rfl (lv_at hl 5 rfl) ?_
                        refine lv_iconst (v := 2) hx hb dX1_pack_460 (by decide) ?_
                        refine lv_icmp_eq (tgt := 481) hx hb dX1_pack_461 (by decide) (fun c_25 => ?_) (fun c_25 => ?_)
                        · skip
                          refine lv_iconst (v := 1) hx hb dX1_pack_481 (by decide) ?_
                          refine lv_goto (tgt := 486) hx hb dX1_pack_482 (by decide) ?_
                          refine lv_istore (lv' := [(10, .int 1), (7, .int (nI (ndN lo.toInt64))), (5, .long (bo lo hi)), (4, .int 1), (0, .ref h), (1, .int 12), (2, .int lo), (3, .int hi)]) hx hb dX1_pack_486 hl (by decide) rfl (fun ls hl => ?_)
                          refine lv_iload hx hb dX1_pack_488 (lv_at hl 0 rfl) ?_
                          refine lv_if_eq (tgt := 523) hx hb dX1_pack_490 (by decide) (fun c_26 => ?_) (fun c_26 => ?_)
                          · skip
                            exact absurd c_26 (by decide)
                          · skip
                            refine lv_aload_n hx hb dX1_pack_493 rfl (lv_at hl 4 rfl) ?_
                            refine lv_sipush (v := 212) hx hb dX1_pack_494 (by decide) ?_
                            refine lv_iload_n hx hb dX1_pack_497 rfl (lv_at hl 6 rfl) ?_
                            refine lv_bipush (v := 16) hx hb dX1_pack_498 (by decide) ?_
                            refine lv_icmp_ne (tgt := 507) hx hb dX1_pack_500 (by decide) (fun c_27 => ?_) (fun c_27 => ?_)
                            · skip
                              refine lv_iload_n hx hb dX1_pack_507 rfl (lv_at hl 6 rfl) ?_
                              refine gsi (As := [.int lo]) (rest := [.int 212, .ref h]) ⟨hx, hb, hml, hown, hts⟩ (c_X1_log_v l dC dI tk tw _ 2 (by decide) lo c_25) (va_cwS 1 hts gX1_pack_X1_log rfl rfl rfl (by decide +kernel) ⟨Nat.le_of_ble_eq_true rfl, Nat.le_of_ble_eq_true rfl⟩) hP hS hA hZ rfl hl.1 rfl (Nat.le_of_ble_eq_true rfl) dX1_pack_508 ⟨Nat.le_of_ble_eq_true rfl, Nat.le_of_ble_eq_true rfl⟩ (fun r_29 H locs hw_28 hP hS => ?_)
                              obtain rfl : r_29 = nI (lgN 2) := hw_28
                              refine lv_iadd hx hb dX1_pack_511 ?_
                              refine lv_iconst (v := 0) hx hb dX1_pack_512 (by decide) ?_
                              refine lv_lconst (v := 0) hx hb dX1_pack_513 (by decide) ?_
                              refine lv_iload_n hx hb dX1_pack_514 rfl (lv_at hl 7 rfl) ?_
                              refine lv_sipush (v := 255) hx hb dX1_pack_515 (by decide) ?_
                              refine lv_iand hx hb dX1_pack_518 ?_
                              have hT : pk12 lo hi = ((212 + (nI (lgN 2))), 0, 0, (hi &&& 255)) := by unfold pk12; rw [if_neg c_17, if_pos c_25]
                              have hm9 : (-1 : Int32) < hi &&& 255 := (and255 hi).1
                              have hne9 : ¬ (hi &&& 255 : Int32) = -1 := (and255 hi).2
                              have hr9 : 4096 < n8 + 1 + 0 + 1 := by rw [hT, phL_m hne9] at hr8; omega
                              refine gvi (As := [.int (212 + (nI (lgN 2))), .int 0, .long 0, .int (hi &&& 255)]) (rest := []) ⟨hx, hb, hml, hown, hts⟩ (c_X1_packHead_mf l dC dI tk tw h a b cI cJ _ f g zc zso znu zty zhd zpa zch zlk zlo zhi zlp zll zlv n8 hn8 (212 + (nI (lgN 2))) 0 (by decide) 0 (hi &&& 255) hm9 hr9) (cwV 4 hts gX1_pack_X1_packHead rfl rfl rfl (by decide +kernel) ⟨Nat.le_of_ble_eq_true rfl, Nat.le_of_ble_eq_true rfl⟩) hK hP hD hS hA hZ (q0 := 0) (ci := 1) rfl rfl rfl rfl hl.1 rfl (Nat.le_of_ble_eq_true rfl) dX1_pack_519 ⟨Nat.le_of_ble_eq_true rfl, Nat.le_of_ble_eq_true rfl⟩ (fun r_31 u_32 H locs hw_30 hP hD hS => ?_)
                              have hP : va_P (dC, dI) vwCl (w1 h a b cI cJ f g 2 (nI n8) zc zso znu zty zhd zpa zch zlk zlo zhi zlp zll zlv) H := hP
                              have hD : va_D A (w1 h a b cI cJ f g 2 (nI n8) zc zso znu zty zhd zpa zch zlk zlo zhi zlp zll zlv) := hD
                              have hP9 : va_P (dC, dI) vwCl ((fun (_ : Unit) => w1 h a b cI cJ f g 2 (nI n8) zc zso znu zty zhd zpa zch zlk zlo zhi zlp zll zlv) (())) H := hP
                              have hD9 : va_D A ((fun (_ : Unit) => w1 h a b cI cJ f g 2 (nI n8) zc zso znu zty zhd zpa zch zlk zlo zhi zlp zll zlv) (())) := hD
                              exact W.iret (v := r_31) hx hb hr (fun t ht hW => ⟨⟨r_31, (), rfl, trivial, by rw [ht]; exact hP9, va_K.moved hW.alike hK, hD9⟩, hS.F ht⟩) hS.2.2 dX1_pack_522
                            · skip
                              exact absurd (c_25.symm.trans c_27) (by decide)
                        · skip
                          refine lv_iload_n hx hb dX1_pack_464 rfl (lv_at hl 5 rfl) ?_
                          refine lv_iconst (v := 4) hx hb dX1_pack_465 (by decide) ?_
                          refine lv_icmp_eq (tgt := 481) hx hb dX1_pack_466 (by decide) (fun c_33 => ?_) (fun c_33 => ?_)
                          · skip
                            refine lv_iconst (v := 1) hx hb dX1_pack_481 (by decide) ?_
                            refine lv_goto (tgt := 486) hx hb dX1_pack_482 (by decide) ?_
                            refine lv_istore (lv' := [(10, .int 1), (7, .int (nI (ndN lo.toInt64))), (5, .long (bo lo hi)), (4, .int 1), (0, .ref h), (1, .int 12), (2, .int lo), (3, .int hi)]) hx hb dX1_pack_486 hl (by decide) rfl (fun ls hl => ?_)
                            refine lv_iload hx hb dX1_pack_488 (lv_at hl 0 rfl) ?_
                            refine lv_if_eq (tgt := 523) hx hb dX1_pack_490 (by decide) (fun c_34 => ?_) (fun c_34 => ?_)
                            · skip
                              exact absurd c_34 (by decide)
                            · skip
                              refine lv_aload_n hx hb dX1_pack_493 rfl (lv_at hl 4 rfl) ?_
                              refine lv_sipush (v := 212) hx hb dX1_pack_494 (by decide) ?_
                              refine lv_iload_n hx hb dX1_pack_497 rfl (lv_at hl 6 rfl) ?_
                              refine lv_bipush (v := 16) hx hb dX1_pack_498 (by decide) ?_
                              refine lv_icmp_ne (tgt := 507) hx hb dX1_pack_500 (by decide) (fun c_35 => ?_) (fun c_35 => ?_)
                              · skip
                                refine lv_iload_n hx hb dX1_pack_507 rfl (lv_at hl 6 rfl) ?_
                                refine gsi (As := [.int lo]) (rest := [.int 212, .ref h]) ⟨hx, hb, hml, hown, hts⟩ (c_X1_log_v l dC dI tk tw _ 4 (by decide) lo c_33) (va_cwS 1 hts gX1_pack_X1_log rfl rfl rfl (by decide +kernel) ⟨Nat.le_of_ble_eq_true rfl, Nat.le_of_ble_eq_true rfl⟩) hP hS hA hZ rfl hl.1 rfl (Nat.le_of_ble_eq_true rfl) dX1_pack_508 ⟨Nat.le_of_ble_eq_true rfl, Nat.le_of_ble_eq_true rfl⟩ (fun r_37 H locs hw_36 hP hS => ?_)
                                obtain rfl : r_37 = nI (lgN 4) := hw_36
                                refine lv_iadd hx hb dX1_pack_511 ?_
                                refine lv_iconst (v := 0) hx hb dX1_pack_512 (by decide) ?_
                                refine lv_lconst (v := 0) hx hb dX1_pack_513 (by decide) ?_
                                refine lv_iload_n hx hb dX1_pack_514 rfl (lv_at hl 7 rfl) ?_
                                refine lv_sipush (v := 255) hx hb dX1_pack_515 (by decide) ?_
                                refine lv_iand hx hb dX1_pack_518 ?_
                                have hT : pk12 lo hi = ((212 + (nI (lgN 4))), 0, 0, (hi &&& 255)) := by unfold pk12; rw [if_neg c_17, if_neg c_25, if_pos c_33]
                                have hm9 : (-1 : Int32) < hi &&& 255 := (and255 hi).1
                                have hne9 : ¬ (hi &&& 255 : Int32) = -1 := (and255 hi).2
                                have hr9 : 4096 < n8 + 1 + 0 + 1 := by rw [hT, phL_m hne9] at hr8; omega
                                refine gvi (As := [.int (212 + (nI (lgN 4))), .int 0, .long 0, .int (hi &&& 255)]) (rest := []) ⟨hx, hb, hml, hown, hts⟩ (c_X1_packHead_mf l dC dI tk tw h a b cI cJ _ f g zc zso znu zty zhd zpa zch zlk zlo zhi zlp zll zlv n8 hn8 (212 + (nI (lgN 4))) 0 (by decide) 0 (hi &&& 255) hm9 hr9) (cwV 4 hts gX1_pack_X1_packHead rfl rfl rfl (by decide +kernel) ⟨Nat.le_of_ble_eq_true rfl, Nat.le_of_ble_eq_true rfl⟩) hK hP hD hS hA hZ (q0 := 0) (ci := 1) rfl rfl rfl rfl hl.1 rfl (Nat.le_of_ble_eq_true rfl) dX1_pack_519 ⟨Nat.le_of_ble_eq_true rfl, Nat.le_of_ble_eq_true rfl⟩ (fun r_39 u_40 H locs hw_38 hP hD hS => ?_)
                                have hP : va_P (dC, dI) vwCl (w1 h a b cI cJ f g 2 (nI n8) zc zso znu zty zhd zpa zch zlk zlo zhi zlp zll zlv) H := hP
                                have hD : va_D A (w1 h a b cI cJ f g 2 (nI n8) zc zso znu zty zhd zpa zch zlk zlo zhi zlp zll zlv) := hD
                                have hP9 : va_P (dC, dI) vwCl ((fun (_ : Unit) => w1 h a b cI cJ f g 2 (nI n8) zc zso znu zty zhd zpa zch zlk zlo zhi zlp zll zlv) (())) H := hP
                                have hD9 : va_D A ((fun (_ : Unit) => w1 h a b cI cJ f g 2 (nI n8) zc zso znu zty zhd zpa zch zlk zlo zhi zlp zll zlv) (())) := hD
                                exact W.iret (v := r_39) hx hb hr (fun t ht hW => ⟨⟨r_39, (), rfl, trivial, by rw [ht]; exact hP9, va_K.moved hW.alike hK, hD9⟩, hS.F ht⟩) hS.2.2 dX1_pack_522
                              · skip
                                exact absurd (c_33.symm.trans c_35) (by decide)
                          · skip
                            refine lv_iload_n hx hb dX1_pack_469 rfl (lv_at hl 5 rfl) ?_
                            refine lv_bipush (v := 8) hx hb dX1_pack_470 (by decide) ?_
                            refine lv_icmp_eq (tgt := 481) hx hb dX1_pack_472 (by decide) (fun c_41 => ?_) (fun c_41 => ?_)
                            · skip
                              refine lv_iconst (v := 1) hx hb dX1_pack_481 (by decide) ?_
                              refine lv_goto (tgt := 486) hx hb dX1_pack_482 (by decide) ?_
                              refine lv_istore (lv' := [(10, .int 1), (7, .int (nI (ndN lo.toInt64))), (5, .long (bo lo hi)), (4, .int 1), (0, .ref h), (1, .int 12), (2, .int lo), (3, .int hi)]) hx hb dX1_pack_486 hl (by decide) rfl (fun ls hl => ?_)
                              refine lv_iload hx hb dX1_pack_488 (lv_at hl 0 rfl) ?_
                              refine lv_if_eq (tgt := 523) hx hb dX1_pack_490 (by decide) (fun c_42 => ?_) (fun c_42 => ?_)
                              · skip
                                exact absurd c_42 (by decide)
                              · skip
                                refine lv_aload_n hx hb dX1_pack_493 rfl (lv_at hl 4 rfl) ?_
                                refine lv_sipush (v := 212) hx hb dX1_pack_494 (by decide) ?_
                                refine lv_iload_n hx hb dX1_pack_497 rfl (lv_at hl 6 rfl) ?_
                                refine lv_bipush (v := 16) hx hb dX1_pack_498 (by decide) ?_
                                refine lv_icmp_ne (tgt := 507) hx hb dX1_pack_500 (by decide) (fun c_43 => ?_) (fun c_43 => ?_)
                                · skip
                                  refine lv_iload_n hx hb dX1_pack_507 rfl (lv_at hl 6 rfl) ?_
                                  refine gsi (As := [.int lo]) (rest := [.int 212, .ref h]) ⟨hx, hb, hml, hown, hts⟩ (c_X1_log_v l dC dI tk tw _ 8 (by decide) lo c_41) (va_cwS 1 hts gX1_pack_X1_log rfl rfl rfl (by decide +kernel) ⟨Nat.le_of_ble_eq_true rfl, Nat.le_of_ble_eq_true rfl⟩) hP hS hA hZ rfl hl.1 rfl (Nat.le_of_ble_eq_true rfl) dX1_pack_508 ⟨Nat.le_of_ble_eq_true rfl, Nat.le_of_ble_eq_true rfl⟩ (fun r_45 H locs hw_44 hP hS => ?_)
                                  obtain rfl : r_45 = nI (lgN 8) := hw_44
                                  refine lv_iadd hx hb dX1_pack_511 ?_
                                  refine lv_iconst (v := 0) hx hb dX1_pack_512 (by decide) ?_
                                  refine lv_lconst (v := 0) hx hb dX1_pack_513 (by decide) ?_
                                  refine lv_iload_n hx hb dX1_pack_514 rfl (lv_at hl 7 rfl) ?_
                                  refine lv_sipush (v := 255) hx hb dX1_pack_515 (by decide) ?_
                                  refine lv_iand hx hb dX1_pack_518 ?_
                                  have hT : pk12 lo hi = ((212 + (nI (lgN 8))), 0, 0, (hi &&& 255)) := by unfold pk12; rw [if_neg c_17, if_neg c_25, if_neg c_33, if_pos c_41]
                                  have hm9 : (-1 : Int32) < hi &&& 255 := (and255 hi).1
                                  have hne9 : ¬ (hi &&& 255 : Int32) = -1 := (and255 hi).2
                                  have hr9 : 4096 < n8 + 1 + 0 + 1 := by rw [hT, phL_m hne9] at hr8; omega
                                  refine gvi (As := [.int (212 + (nI (lgN 8))), .int 0, .long 0, .int (hi &&& 255)]) (rest := []) ⟨hx, hb, hml, hown, hts⟩ (c_X1_packHead_mf l dC dI tk tw h a b cI cJ _ f g zc zso znu zty zhd zpa zch zlk zlo zhi zlp zll zlv n8 hn8 (212 + (nI (lgN 8))) 0 (by decide) 0 (hi &&& 255) hm9 hr9) (cwV 4 hts gX1_pack_X1_packHead rfl rfl rfl (by decide +kernel) ⟨Nat.le_of_ble_eq_true rfl, Nat.le_of_ble_eq_true rfl⟩) hK hP hD hS hA hZ (q0 := 0) (ci := 1) rfl rfl rfl rfl hl.1 rfl (Nat.le_of_ble_eq_true rfl) dX1_pack_519 ⟨Nat.le_of_ble_eq_true rfl, Nat.le_of_ble_eq_true rfl⟩ (fun r_47 u_48 H locs hw_46 hP hD hS => ?_)
                                  have hP : va_P (dC, dI) vwCl (w1 h a b cI cJ f g 2 (nI n8) zc zso znu zty zhd zpa zch zlk zlo zhi zlp zll zlv) H := hP
                                  have hD : va_D A (w1 h a b cI cJ f g 2 (nI n8) zc zso znu zty zhd zpa zch zlk zlo zhi zlp zll zlv) := hD
                                  have hP9 : va_P (dC, dI) vwCl ((fun (_ : Unit) => w1 h a b cI cJ f g 2 (nI n8) zc zso znu zty zhd zpa zch zlk zlo zhi zlp zll zlv) (())) H := hP
                                  have hD9 : va_D A ((fun (_ : Unit) => w1 h a b cI cJ f g 2 (nI n8) zc zso znu zty zhd zpa zch zlk zlo zhi zlp zll zlv) (())) := hD
                                  exact W.iret (v := r_47) hx hb hr (fun t ht hW => ⟨⟨r_47, (), rfl, trivial, by rw [ht]; exact hP9, va_K.moved hW.alike hK, hD9⟩, hS.F ht⟩) hS.2.2 dX1_pack_522
                                · skip
                                  exact absurd (c_41.symm.trans c_43) (by decide)
                            · skip
                              refine lv_iload_n hx hb dX1_pack_475 rfl (lv_at hl 5 rfl) ?_
                              refine lv_bipush (v := 16) hx hb dX1_pack_476 (by decide) ?_
                              refine lv_icmp_ne (tgt := 485) hx hb dX1_pack_478 (by decide) (fun c_49 => ?_) (fun c_49 => ?_)
                              · skip
                                refine lv_iconst (v := 0) hx hb dX1_pack_485 (by decide) ?_
                                refine lv_istore (lv' := [(10, .int 0), (7, .int (nI (ndN lo.toInt64))), (5, .long (bo lo hi)), (4, .int 1), (0, .ref h), (1, .int 12), (2, .int lo), (3, .int hi)]) hx hb dX1_pack_486 hl (by decide) rfl (fun ls hl => ?_)
                                refine lv_iload hx hb dX1_pack_488 (lv_at hl 0 rfl) ?_
                                refine lv_if_eq (tgt := 523) hx hb dX1_pack_490 (by decide) (fun c_50 => ?_) (fun c_50 => ?_)
                                · skip
                                  refine lv_aload_n hx hb dX1_pack_523 rfl (lv_at hl 4 rfl) ?_
                                  refine lv_sipush (v := 199) hx hb dX1_pack_524 (by decide) ?_
                                  refine lv_iload hx hb dX1_pack_527 (lv_at hl 1 rfl) ?_
                                  refine gsi (As := [.int (nI (ndN lo.toInt64))]) (rest := [.int 199, .ref h]) ⟨hx, hb, hml, hown, hts⟩ (c_X1_log l dC dI tk tw _ (ndN lo.toInt64) (Nat.le_trans (ndN_le _) (by decide))) (va_cwS 1 hts gX1_pack_X1_log rfl rfl rfl (by decide +kernel) ⟨Nat.le_of_ble_eq_true rfl, Nat.le_of_ble_eq_true rfl⟩) hP hS hA hZ rfl hl.1 rfl (Nat.le_of_ble_eq_true rfl) dX1_pack_529 ⟨Nat.le_of_ble_eq_true rfl, Nat.le_of_ble_eq_true rfl⟩ (fun r_52 H locs hw_51 hP hS => ?_)
                                  obtain rfl : r_52 = nI (lgN (ndN lo.toInt64)) := hw_51
                                  refine lv_iadd hx hb dX1_pack_532 ?_
                                  refine lv_iload hx hb dX1_pack_533 (lv_at hl 1 rfl) ?_
                                  refine lv_iload_n hx hb dX1_pack_535 rfl (lv_at hl 6 rfl) ?_
                                  refine lv_i2l hx hb dX1_pack_536 rfl ?_
                                  refine lv_iload_n hx hb dX1_pack_537 rfl (lv_at hl 7 rfl) ?_
                                  refine lv_sipush (v := 255) hx hb dX1_pack_538 (by decide) ?_
                                  refine lv_iand hx hb dX1_pack_541 ?_
                                  have hT : pk12 lo hi = ((199 + (nI (lgN (ndN lo.toInt64)))), (ndN lo.toInt64), lo.toInt64, (hi &&& 255)) := by unfold pk12; rw [if_neg c_17, if_neg c_25, if_neg c_33, if_neg c_41, if_neg c_49]
                                  have hm9 : (-1 : Int32) < hi &&& 255 := (and255 hi).1
                                  have hne9 : ¬ (hi &&& 255 : Int32) = -1 := (and255 hi).2
                                  have hr9 : 4096 < n8 + 1 + (ndN lo.toInt64) + 1 := by rw [hT, phL_m hne9] at hr8; omega
                                  refine gvi (As := [.int (199 + (nI (lgN (ndN lo.toInt64)))), .int (nI (ndN lo.toInt64)), .long lo.toInt64, .int (hi &&& 255)]) (rest := []) ⟨hx, hb, hml, hown, hts⟩ (c_X1_packHead_mf l dC dI tk tw h a b cI cJ _ f g zc zso znu zty zhd zpa zch zlk zlo zhi zlp zll zlv n8 hn8 (199 + (nI (lgN (ndN lo.toInt64)))) (ndN lo.toInt64) (ndN_le _) lo.toInt64 (hi &&& 255) hm9 hr9) (cwV 4 hts gX1_pack_X1_packHead rfl rfl rfl (by decide +kernel) ⟨Nat.le_of_ble_eq_true rfl, Nat.le_of_ble_eq_true rfl⟩) hK hP hD hS hA hZ (q0 := 0) (ci := 1) rfl rfl rfl rfl hl.1 rfl (Nat.le_of_ble_eq_true rfl) dX1_pack_542 ⟨Nat.le_of_ble_eq_true rfl, Nat.le_of_ble_eq_true rfl⟩ (fun r_54 u_55 H locs hw_53 hP hD hS => ?_)
                                  have hP : va_P (dC, dI) vwCl (w1 h a b cI cJ f g 2 (nI n8) zc zso znu zty zhd zpa zch zlk zlo zhi zlp zll zlv) H := hP
                                  have hD : va_D A (w1 h a b cI cJ f g 2 (nI n8) zc zso znu zty zhd zpa zch zlk zlo zhi zlp zll zlv) := hD
                                  have hP9 : va_P (dC, dI) vwCl ((fun (_ : Unit) => w1 h a b cI cJ f g 2 (nI n8) zc zso znu zty zhd zpa zch zlk zlo zhi zlp zll zlv) (())) H := hP
                                  have hD9 : va_D A ((fun (_ : Unit) => w1 h a b cI cJ f g 2 (nI n8) zc zso znu zty zhd zpa zch zlk zlo zhi zlp zll zlv) (())) := hD
                                  exact W.iret (v := r_54) hx hb hr (fun t ht hW => ⟨⟨r_54, (), rfl, trivial, by rw [ht]; exact hP9, va_K.moved hW.alike hK, hD9⟩, hS.F ht⟩) hS.2.2 dX1_pack_545
                                · skip
                                  exact absurd (by decide) c_50
                              · skip
                                refine lv_iconst (v := 1) hx hb dX1_pack_481 (by decide) ?_
                                refine lv_goto (tgt := 486) hx hb dX1_pack_482 (by decide) ?_
                                refine lv_istore (lv' := [(10, .int 1), (7, .int (nI (ndN lo.toInt64))), (5, .long (bo lo hi)), (4, .int 1), (0, .ref h), (1, .int 12), (2, .int lo), (3, .int hi)]) hx hb dX1_pack_486 hl (by decide) rfl (fun ls hl => ?_)
                                refine lv_iload hx hb dX1_pack_488 (lv_at hl 0 rfl) ?_
                                refine lv_if_eq (tgt := 523) hx hb dX1_pack_490 (by decide) (fun c_56 => ?_) (fun c_56 => ?_)
                                · skip
                                  exact absurd c_56 (by decide)
                                · skip
                                  refine lv_aload_n hx hb dX1_pack_493 rfl (lv_at hl 4 rfl) ?_
                                  refine lv_sipush (v := 212) hx hb dX1_pack_494 (by decide) ?_
                                  refine lv_iload_n hx hb dX1_pack_497 rfl (lv_at hl 6 rfl) ?_
                                  refine lv_bipush (v := 16) hx hb dX1_pack_498 (by decide) ?_
                                  refine lv_icmp_ne (tgt := 507) hx hb dX1_pack_500 (by decide) (fun c_57 => ?_) (fun c_57 => ?_)
                                  · skip
                                    exact absurd c_49 c_57
                                  · skip
                                    refine lv_iconst (v := 4) hx hb dX1_pack_503 (by decide) ?_
                                    refine lv_goto (tgt := 511) hx hb dX1_pack_504 (by decide) ?_
                                    refine lv_iadd hx hb dX1_pack_511 ?_
                                    refine lv_iconst (v := 0) hx hb dX1_pack_512 (by decide) ?_
                                    refine lv_lconst (v := 0) hx hb dX1_pack_513 (by decide) ?_
                                    refine lv_iload_n hx hb dX1_pack_514 rfl (lv_at hl 7 rfl) ?_
                                    refine lv_sipush (v := 255) hx hb dX1_pack_515 (by decide) ?_
                                    refine lv_iand hx hb dX1_pack_518 ?_
                                    have hT : pk12 lo hi = ((212 + 4), 0, 0, (hi &&& 255)) := by unfold pk12; rw [if_neg c_17, if_neg c_25, if_neg c_33, if_neg c_41, if_pos c_49]
                                    have hm9 : (-1 : Int32) < hi &&& 255 := (and255 hi).1
                                    have hne9 : ¬ (hi &&& 255 : Int32) = -1 := (and255 hi).2
                                    have hr9 : 4096 < n8 + 1 + 0 + 1 := by rw [hT, phL_m hne9] at hr8; omega
                                    refine gvi (As := [.int (212 + 4), .int 0, .long 0, .int (hi &&& 255)]) (rest := []) ⟨hx, hb, hml, hown, hts⟩ (c_X1_packHead_mf l dC dI tk tw h a b cI cJ _ f g zc zso znu zty zhd zpa zch zlk zlo zhi zlp zll zlv n8 hn8 (212 + 4) 0 (by decide) 0 (hi &&& 255) hm9 hr9) (cwV 4 hts gX1_pack_X1_packHead rfl rfl rfl (by decide +kernel) ⟨Nat.le_of_ble_eq_true rfl, Nat.le_of_ble_eq_true rfl⟩) hK hP hD hS hA hZ (q0 := 0) (ci := 1) rfl rfl rfl rfl hl.1 rfl (Nat.le_of_ble_eq_true rfl) dX1_pack_519 ⟨Nat.le_of_ble_eq_true rfl, Nat.le_of_ble_eq_true rfl⟩ (fun r_59 u_60 H locs hw_58 hP hD hS => ?_)
                                    have hP : va_P (dC, dI) vwCl (w1 h a b cI cJ f g 2 (nI n8) zc zso znu zty zhd zpa zch zlk zlo zhi zlp zll zlv) H := hP
                                    have hD : va_D A (w1 h a b cI cJ f g 2 (nI n8) zc zso znu zty zhd zpa zch zlk zlo zhi zlp zll zlv) := hD
                                    have hP9 : va_P (dC, dI) vwCl ((fun (_ : Unit) => w1 h a b cI cJ f g 2 (nI n8) zc zso znu zty zhd zpa zch zlk zlo zhi zlp zll zlv) (())) H := hP
                                    have hD9 : va_D A ((fun (_ : Unit) => w1 h a b cI cJ f g 2 (nI n8) zc zso znu zty zhd zpa zch zlk zlo zhi zlp zll zlv) (())) := hD
                                    exact W.iret (v := r_59) hx hb hr (fun t ht hW => ⟨⟨r_59, (), rfl, trivial, by rw [ht]; exact hP9, va_K.moved hW.alike hK, hD9⟩, hS.F ht⟩) hS.2.2 dX1_pack_522
                  · skip
                    exact absurd (by decide) c_12
                · skip
                  exact absurd c_8 (by decide)
