set_option maxHeartbeats 4000000 in
set_option maxRecDepth 100000 in
theorem c_X1_pack_5 (l : Launch) (dC : Nat → ClassId) (dI : Nat → Nat → Nat) (tk tw : Nat) (h a b : Nat) (cI cJ : ClassId) (sz : Nat) (f : Nat → Int32) (g : Nat → Int64) (zt : Int32) (zc : Int32) (zso : Int32) (znu : Int64) (zty : Int32) (zhd : Int32) (zpa : Int64) (zch : Int64) (zlk : Int32) (zlo : Int32) (zhi : Int32) (zlp : Int32) (zll : Int32) (zlv : Int32) (n8 : Nat) (lo hi : Int32) (hr8 : n8 + phL (pk5 lo hi) ≤ 4096) : Met l yX1_pack wsX1_pack ({ frames := 2, cells := 0, slots := 0, locals := 49 }) (va_Pc [.ref h, .int 5, .int lo, .int hi] (pr dC dI (t1 cI cJ) (w1 h a b cI cJ f g zt (nI n8) zc zso znu zty zhd zpa zch zlk zlo zhi zlp zll zlv) sz tk tw)) (va_Qi (fun (r : Int32) (_ : Unit) => r = nI (phL (pk5 lo hi))) (fun (_ : Unit) => po dC dI (t1 cI cJ) (va_A (w1 h a b cI cJ f g zt (nI n8) zc zso znu zty zhd zpa zch zlk zlo zhi zlp zll zlv) sz) (w1 h a b cI cJ (phF f n8 (pk5 lo hi)) g 0 (nI (n8 + phL (pk5 lo hi))) zc zso znu zty zhd zpa zch zlk zlo zhi zlp zll zlv)) (va_A (w1 h a b cI cJ f g zt (nI n8) zc zso znu zty zhd zpa zch zlk zlo zhi zlp zll zlv) sz)) 0 0 (va_A (w1 h a b cI cJ f g zt (nI n8) zc zso znu zty zhd zpa zch zlk zlo zhi zlp zll zlv) sz) := by
  refine Met.ofW (cc := cX1_pack) (maxL := 11) (ret := (some .int)) (by decide) rfl ?_
  intro p e s m args below meth c s₁ Bd hml hv
  obtain ⟨rfl, hsz, hP, hK, hD0, hZ⟩ := hv
  have hx := Bd.exec
  have hb := Bd.bytes
  have hr := Bd.returns
  have hts := atoms_spec (ws := wsX1_pack) Bd.pre
  have hown : s.vm.findClass RX1 = some m.cls := findClass_of_methodNamed Bd.named
  have hlocks := Bd.notSynchronized
  subst hsz
  have hD := hD0.self (sz := s.heap.size)
  generalize hAe : va_A (w1 h a b cI cJ f g zt (nI n8) zc zso znu zty zhd zpa zch zlk zlo zhi zlp zll zlv) s.heap.size = A at hD hZ ⊢
  have hA : ∀ q : Nat, s.heap.size ≤ q → A q := fun q h => by rw [← hAe]; exact Or.inr h
  have hS : va_S A s.heap s.heap [] := va_S.rf
  have hP : va_P (dC, dI) vwCl (w1 h a b cI cJ f g zt (nI n8) zc zso znu zty zhd zpa zch zlk zlo zhi zlp zll zlv) s.heap := hP
  have hin0 : ∀ w ∈ wsX10, w ∈ wsX1_pack := by decide +kernel
  have fl21 := hts (.fieldLink RX1 21 "MessageReaderModel" "thrown" "I") (by decide +kernel)
  have hl := lv_entry ([.ref h, .int 5, .int lo, .int hi]) (n := 11) (Nat.le_of_ble_eq_true rfl)
  rw [lg_entry_eq]
  generalize (lg_sl ([.ref h, .int 5, .int lo, .int hi]) ++ List.replicate (11 - (lg_sl ([.ref h, .int 5, .int lo, .int hi])).length) Slot.unset).toArray = ls at hl ⊢
  have hl : lv_has ls 11 [(0, .ref h), (1, .int 5), (2, .int lo), (3, .int hi)] := hl
  refine lv_aload_n hx hb dX1_pack_0 rfl (lv_at hl 0 rfl) ?_
  refine lv_iconst (v := 0) hx hb dX1_pack_1 (by decide) ?_
  refine va_put (D := (dC, dI)) (ci := 1) (v := .int 0) (ty := .int) (C := RX1) (T := TX1) (N := 17) hx hb hts hin0 tyX1 tyX1_ok nmX1 hown hK hP hD hS 0 rfl rfl 0 (by decide) fl21 (fun _ h9 => h9) rfl (by decide +kernel) rfl rfl (Nat.le_of_ble_eq_true rfl) dX1_pack_2 (fun H locs hP hD hS => ?_)
  have hP : va_P (dC, dI) vwCl (w1 h a b cI cJ f g 0 (nI n8) zc zso znu zty zhd zpa zch zlk zlo zhi zlp zll zlv) H := hP
  have hD : va_D A (w1 h a b cI cJ f g 0 (nI n8) zc zso znu zty zhd zpa zch zlk zlo zhi zlp zll zlv) := hD
  refine lv_iload_n hx hb dX1_pack_5 rfl (lv_at hl 1 rfl) ?_
  refine lv_if_le (tgt := 47) hx hb dX1_pack_6 (by decide) (fun c_1 => ?_) (fun c_1 => ?_)
  · skip
    exact absurd c_1 (by decide)
  · skip
    refine lv_iload_n hx hb dX1_pack_9 rfl (lv_at hl 1 rfl) ?_
    refine lv_bipush (v := 13) hx hb dX1_pack_10 (by decide) ?_
    refine lv_icmp_ge (tgt := 47) hx hb dX1_pack_12 (by decide) (fun c_2 => ?_) (fun c_2 => ?_)
    · skip
      exact absurd c_2 (by decide)
    · skip
      refine lv_iload_n hx hb dX1_pack_15 rfl (lv_at hl 1 rfl) ?_
      refine lv_bipush (v := 8) hx hb dX1_pack_16 (by decide) ?_
      refine lv_icmp_lt (tgt := 25) hx hb dX1_pack_18 (by decide) (fun c_3 => ?_) (fun c_3 => ?_)
      · skip
        refine lv_iload_n hx hb dX1_pack_25 rfl (lv_at hl 1 rfl) ?_
        refine lv_bipush (v := 12) hx hb dX1_pack_26 (by decide) ?_
        refine lv_icmp_ne (tgt := 43) hx hb dX1_pack_28 (by decide) (fun c_4 => ?_) (fun c_4 => ?_)
        · skip
          refine lv_iconst (v := 1) hx hb dX1_pack_43 (by decide) ?_
          refine lv_goto (tgt := 48) hx hb dX1_pack_44 (by decide) ?_
          refine lv_istore (lv' := [(4, .int 1), (0, .ref h), (1, .int 5), (2, .int lo), (3, .int hi)]) hx hb dX1_pack_48 hl (by decide) rfl (fun ls hl => ?_)
          refine lv_aload_n hx hb dX1_pack_50 rfl (lv_at hl 1 rfl) ?_
          refine lv_iload hx hb dX1_pack_51 (lv_at hl 0 rfl) ?_
          refine lv_if_ne (tgt := 60) hx hb dX1_pack_53 (by decide) (fun c_5 => ?_) (fun c_5 => ?_)
          · skip
            refine lv_iconst (v := 0) hx hb dX1_pack_60 (by decide) ?_
            refine lv_iconst (v := 1) hx hb dX1_pack_61 (by decide) ?_
            refine gvi (As := [.int 0, .int 1]) (rest := []) ⟨hx, hb, hml, hown, hts⟩ (c_X1_fails l dC dI tk tw h a b cI cJ _ f g 0 (nI n8) zc zso znu zty zhd zpa zch zlk zlo zhi zlp zll zlv 0 1) (cwV 2 hts gX1_pack_X1_fails rfl rfl rfl (by decide +kernel) ⟨Nat.le_of_ble_eq_true rfl, Nat.le_of_ble_eq_true rfl⟩) hK hP hD hS hA hZ (q0 := 0) (ci := 1) rfl rfl rfl rfl hl.1 rfl (Nat.le_of_ble_eq_true rfl) dX1_pack_62 ⟨Nat.le_of_ble_eq_true rfl, Nat.le_of_ble_eq_true rfl⟩ (fun r_7 u_8 H locs hw_6 hP hD hS => ?_)
            obtain rfl : u_8 = 0 := hw_6.1.trans (by decide)
            have hP : va_P (dC, dI) vwCl (w1 h a b cI cJ f g 0 (nI n8) zc zso znu zty zhd zpa zch zlk zlo zhi zlp zll zlv) H := hP
            have hD : va_D A (w1 h a b cI cJ f g 0 (nI n8) zc zso znu zty zhd zpa zch zlk zlo zhi zlp zll zlv) := hD
            obtain rfl : r_7 = 0 := hw_6.2.trans (by decide)
            refine lv_if_eq (tgt := 70) hx hb dX1_pack_65 (by decide) (fun c_9 => ?_) (fun c_9 => ?_)
            · skip
              refine lv_iload_n hx hb dX1_pack_70 rfl (lv_at hl 4 rfl) ?_
              refine lv_i2l hx hb dX1_pack_71 rfl ?_
              refine lv_bipush (v := 32) hx hb dX1_pack_72 (by decide) ?_
              refine lv_lshl hx hb dX1_pack_74 rfl ?_
              refine lv_iload_n hx hb dX1_pack_75 rfl (lv_at hl 3 rfl) ?_
              refine lv_i2l hx hb dX1_pack_76 rfl ?_
              refine lv_ldc2 (v := 4294967295) hx hb hown (hts (.constantLong RX1 118 (4294967295)) (by decide +kernel)) dX1_pack_77 ?_
              refine lv_land hx hb dX1_pack_80 ?_
              refine lv_lor hx hb dX1_pack_81 ?_
              have e_10 : ((hi.toInt64 <<< ((32 : Int32).toInt64 &&& 63)) ||| (lo.toInt64 &&& 4294967295) : Int64) = bo lo hi := rfl
              rw [e_10]
              refine lv_lstore (lv' := [(5, .long (bo lo hi)), (4, .int 1), (0, .ref h), (1, .int 5), (2, .int lo), (3, .int hi)]) hx hb dX1_pack_82 hl (by decide) rfl (fun ls hl => ?_)
              refine lv_iload_n hx hb dX1_pack_84 rfl (lv_at hl 3 rfl) ?_
              refine lv_bipush (v := 7) hx hb dX1_pack_85 (by decide) ?_
              refine lv_icmp_le (tgt := 98) hx hb dX1_pack_87 (by decide) (fun c_11 => ?_) (fun c_11 => ?_)
              · skip
                refine lv_iconst (v := 0) hx hb dX1_pack_98 (by decide) ?_
                refine lv_istore (lv' := [(7, .int 0), (5, .long (bo lo hi)), (4, .int 1), (0, .ref h), (1, .int 5), (2, .int lo), (3, .int hi)]) hx hb dX1_pack_99 hl (by decide) rfl (fun ls hl => ?_)
                refine lv_iload_n hx hb dX1_pack_101 rfl (lv_at hl 4 rfl) ?_
                refine lv_tableIn (tgt := 228) hx hb dX1_pack_102 (by decide) (by decide) rfl (by decide) ?_
                refine lv_lload hx hb dX1_pack_228 (lv_at hl 1 rfl) ?_
                refine lv_ldc2 (v := -32) hx hb hown (hts (.constantLong RX1 131 (-32)) (by decide +kernel)) dX1_pack_230 ?_
                refine W.lcmp hx hb dX1_pack_233 ?_
                refine lv_if_lt (tgt := 259) hx hb dX1_pack_234 (by decide) (fun c_12 => ?_) (fun c_12 => ?_)
                · skip
                  have c_12 := (lg_cmp_lt (bo lo hi) (-32 : Int64)).mp c_12
                  refine lv_aload_n hx hb dX1_pack_259 rfl (lv_at hl 3 rfl) ?_
                  refine lv_sipush (v := 208) hx hb dX1_pack_260 (by decide) ?_
                  refine lv_lload hx hb dX1_pack_263 (lv_at hl 1 rfl) ?_
                  refine gsi (As := [.long (bo lo hi)]) (rest := [.int 208, .ref h]) ⟨hx, hb, hml, hown, hts⟩ (c_X1_needsSigned l dC dI tk tw _ (bo lo hi)) (va_cwS 1 hts gX1_pack_X1_needsSigned rfl rfl rfl (by decide +kernel) ⟨Nat.le_of_ble_eq_true rfl, Nat.le_of_ble_eq_true rfl⟩) hP hS hA hZ rfl hl.1 rfl (Nat.le_of_ble_eq_true rfl) dX1_pack_265 ⟨Nat.le_of_ble_eq_true rfl, Nat.le_of_ble_eq_true rfl⟩ (fun r_14 H locs hw_13 hP hS => ?_)
                  obtain rfl : r_14 = nI (nsN (bo lo hi)) := hw_13
                  refine gsi (As := [.int (nI (nsN (bo lo hi)))]) (rest := [.int 208, .ref h]) ⟨hx, hb, hml, hown, hts⟩ (c_X1_log l dC dI tk tw _ (nsN (bo lo hi)) (Nat.le_trans (nsN_le _) (by decide))) (va_cwS 1 hts gX1_pack_X1_log rfl rfl rfl (by decide +kernel) ⟨Nat.le_of_ble_eq_true rfl, Nat.le_of_ble_eq_true rfl⟩) hP hS hA hZ rfl hl.1 rfl (Nat.le_of_ble_eq_true rfl) dX1_pack_268 ⟨Nat.le_of_ble_eq_true rfl, Nat.le_of_ble_eq_true rfl⟩ (fun r_16 H locs hw_15 hP hS => ?_)
                  obtain rfl : r_16 = nI (lgN (nsN (bo lo hi))) := hw_15
                  refine lv_iadd hx hb dX1_pack_271 ?_
                  refine lv_lload hx hb dX1_pack_272 (lv_at hl 1 rfl) ?_
                  refine gsi (As := [.long (bo lo hi)]) (rest := [.int (208 + (nI (lgN (nsN (bo lo hi))))), .ref h]) ⟨hx, hb, hml, hown, hts⟩ (c_X1_needsSigned l dC dI tk tw _ (bo lo hi)) (va_cwS 1 hts gX1_pack_X1_needsSigned rfl rfl rfl (by decide +kernel) ⟨Nat.le_of_ble_eq_true rfl, Nat.le_of_ble_eq_true rfl⟩) hP hS hA hZ rfl hl.1 rfl (Nat.le_of_ble_eq_true rfl) dX1_pack_274 ⟨Nat.le_of_ble_eq_true rfl, Nat.le_of_ble_eq_true rfl⟩ (fun r_18 H locs hw_17 hP hS => ?_)
                  obtain rfl : r_18 = nI (nsN (bo lo hi)) := hw_17
                  refine lv_lload hx hb dX1_pack_277 (lv_at hl 1 rfl) ?_
                  refine lv_iconst (v := -1) hx hb dX1_pack_279 (by decide) ?_
                  have hT : pk5 lo hi = ((208 + (nI (lgN (nsN (bo lo hi))))), (nsN (bo lo hi)), (bo lo hi), (-1)) := by unfold pk5; rw [if_pos c_12]
                  have hr9 : n8 + 1 + (nsN (bo lo hi)) ≤ 4096 := by rw [hT, phL_n] at hr8; omega
                  refine gvi (As := [.int (208 + (nI (lgN (nsN (bo lo hi))))), .int (nI (nsN (bo lo hi))), .long (bo lo hi), .int (-1)]) (rest := []) ⟨hx, hb, hml, hown, hts⟩ (c_X1_packHead l dC dI tk tw h a b cI cJ _ f g zc zso znu zty zhd zpa zch zlk zlo zhi zlp zll zlv n8 (208 + (nI (lgN (nsN (bo lo hi))))) (nsN (bo lo hi)) (nsN_le _) (bo lo hi) hr9) (cwV 4 hts gX1_pack_X1_packHead rfl rfl rfl (by decide +kernel) ⟨Nat.le_of_ble_eq_true rfl, Nat.le_of_ble_eq_true rfl⟩) hK hP hD hS hA hZ (q0 := 0) (ci := 1) rfl rfl rfl rfl hl.1 rfl (Nat.le_of_ble_eq_true rfl) dX1_pack_280 ⟨Nat.le_of_ble_eq_true rfl, Nat.le_of_ble_eq_true rfl⟩ (fun r_20 u_21 H locs hw_19 hP hD hS => ?_)
                  have hP : va_P (dC, dI) vwCl (w1 h a b cI cJ (apM (upd f n8 (208 + (nI (lgN (nsN (bo lo hi)))))) (n8 + 1) (bo lo hi) (nsN (bo lo hi))) g 0 (nI (n8 + (1 + (nsN (bo lo hi))))) zc zso znu zty zhd zpa zch zlk zlo zhi zlp zll zlv) H := hP
                  have hD : va_D A (w1 h a b cI cJ (apM (upd f n8 (208 + (nI (lgN (nsN (bo lo hi)))))) (n8 + 1) (bo lo hi) (nsN (bo lo hi))) g 0 (nI (n8 + (1 + (nsN (bo lo hi))))) zc zso znu zty zhd zpa zch zlk zlo zhi zlp zll zlv) := hD
                  obtain rfl : r_20 = nI (1 + (nsN (bo lo hi))) := hw_19
                  have hP9 : va_P (dC, dI) vwCl ((fun (_ : Unit) => w1 h a b cI cJ (phF f n8 (pk5 lo hi)) g 0 (nI (n8 + phL (pk5 lo hi))) zc zso znu zty zhd zpa zch zlk zlo zhi zlp zll zlv) (())) H := by rw [hT, phL_n, phF_n]; exact hP
                  have hD9 : va_D A ((fun (_ : Unit) => w1 h a b cI cJ (phF f n8 (pk5 lo hi)) g 0 (nI (n8 + phL (pk5 lo hi))) zc zso znu zty zhd zpa zch zlk zlo zhi zlp zll zlv) (())) := by rw [hT, phL_n, phF_n]; exact hD
                  exact W.iret (v := nI (1 + (nsN (bo lo hi)))) hx hb hr (fun t ht hW => ⟨⟨nI (1 + (nsN (bo lo hi))), (), rfl, (by rw [hT, phL_n]), by rw [ht]; exact hP9, va_K.moved hW.alike hK, hD9⟩, hS.F ht⟩) hS.2.2 dX1_pack_283
                · skip
                  have c_12 := (not_congr (lg_cmp_lt (bo lo hi) (-32 : Int64))).mp c_12
                  refine lv_lload hx hb dX1_pack_237 (lv_at hl 1 rfl) ?_
                  refine lv_lconst (v := 0) hx hb dX1_pack_239 (by decide) ?_
                  refine W.lcmp hx hb dX1_pack_240 ?_
                  refine lv_if_ge (tgt := 259) hx hb dX1_pack_241 (by decide) (fun c_22 => ?_) (fun c_22 => ?_)
                  · skip
                    have c_22 := (lg_cmp_ge (bo lo hi) (0 : Int64)).mp c_22
                    refine lv_aload_n hx hb dX1_pack_259 rfl (lv_at hl 3 rfl) ?_
                    refine lv_sipush (v := 208) hx hb dX1_pack_260 (by decide) ?_
                    refine lv_lload hx hb dX1_pack_263 (lv_at hl 1 rfl) ?_
                    refine gsi (As := [.long (bo lo hi)]) (rest := [.int 208, .ref h]) ⟨hx, hb, hml, hown, hts⟩ (c_X1_needsSigned l dC dI tk tw _ (bo lo hi)) (va_cwS 1 hts gX1_pack_X1_needsSigned rfl rfl rfl (by decide +kernel) ⟨Nat.le_of_ble_eq_true rfl, Nat.le_of_ble_eq_true rfl⟩) hP hS hA hZ rfl hl.1 rfl (Nat.le_of_ble_eq_true rfl) dX1_pack_265 ⟨Nat.le_of_ble_eq_true rfl, Nat.le_of_ble_eq_true rfl⟩ (fun r_24 H locs hw_23 hP hS => ?_)
                    obtain rfl : r_24 = nI (nsN (bo lo hi)) := hw_23
                    refine gsi (As := [.int (nI (nsN (bo lo hi)))]) (rest := [.int 208, .ref h]) ⟨hx, hb, hml, hown, hts⟩ (c_X1_log l dC dI tk tw _ (nsN (bo lo hi)) (Nat.le_trans (nsN_le _) (by decide))) (va_cwS 1 hts gX1_pack_X1_log rfl rfl rfl (by decide +kernel) ⟨Nat.le_of_ble_eq_true rfl, Nat.le_of_ble_eq_true rfl⟩) hP hS hA hZ rfl hl.1 rfl (Nat.le_of_ble_eq_true rfl) dX1_pack_268 ⟨Nat.le_of_ble_eq_true rfl, Nat.le_of_ble_eq_true rfl⟩ (fun r_26 H locs hw_25 hP hS => ?_)
                    obtain rfl : r_26 = nI (lgN (nsN (bo lo hi))) := hw_25
                    refine lv_iadd hx hb dX1_pack_271 ?_
                    refine lv_lload hx hb dX1_pack_272 (lv_at hl 1 rfl) ?_
                    refine gsi (As := [.long (bo lo hi)]) (rest := [.int (208 + (nI (lgN (nsN (bo lo hi))))), .ref h]) ⟨hx, hb, hml, hown, hts⟩ (c_X1_needsSigned l dC dI tk tw _ (bo lo hi)) (va_cwS 1 hts gX1_pack_X1_needsSigned rfl rfl rfl (by decide +kernel) ⟨Nat.le_of_ble_eq_true rfl, Nat.le_of_ble_eq_true rfl⟩) hP hS hA hZ rfl hl.1 rfl (Nat.le_of_ble_eq_true rfl) dX1_pack_274 ⟨Nat.le_of_ble_eq_true rfl, Nat.le_of_ble_eq_true rfl⟩ (fun r_28 H locs hw_27 hP hS => ?_)
                    obtain rfl : r_28 = nI (nsN (bo lo hi)) := hw_27
                    refine lv_lload hx hb dX1_pack_277 (lv_at hl 1 rfl) ?_
                    refine lv_iconst (v := -1) hx hb dX1_pack_279 (by decide) ?_
                    have hT : pk5 lo hi = ((208 + (nI (lgN (nsN (bo lo hi))))), (nsN (bo lo hi)), (bo lo hi), (-1)) := by unfold pk5; rw [if_neg c_12, if_pos c_22]
                    have hr9 : n8 + 1 + (nsN (bo lo hi)) ≤ 4096 := by rw [hT, phL_n] at hr8; omega
                    refine gvi (As := [.int (208 + (nI (lgN (nsN (bo lo hi))))), .int (nI (nsN (bo lo hi))), .long (bo lo hi), .int (-1)]) (rest := []) ⟨hx, hb, hml, hown, hts⟩ (c_X1_packHead l dC dI tk tw h a b cI cJ _ f g zc zso znu zty zhd zpa zch zlk zlo zhi zlp zll zlv n8 (208 + (nI (lgN (nsN (bo lo hi))))) (nsN (bo lo hi)) (nsN_le _) (bo lo hi) hr9) (cwV 4 hts gX1_pack_X1_packHead rfl rfl rfl (by decide +kernel) ⟨Nat.le_of_ble_eq_true rfl, Nat.le_of_ble_eq_true rfl⟩) hK hP hD hS hA hZ (q0 := 0) (ci := 1) rfl rfl rfl rfl hl.1 rfl (Nat.le_of_ble_eq_true rfl) dX1_pack_280 ⟨Nat.le_of_ble_eq_true rfl, Nat.le_of_ble_eq_true rfl⟩ (fun r_30 u_31 H locs hw_29 hP hD hS => ?_)
                    have hP : va_P (dC, dI) vwCl (w1 h a b cI cJ (apM (upd f n8 (208 + (nI (lgN (nsN (bo lo hi)))))) (n8 + 1) (bo lo hi) (nsN (bo lo hi))) g 0 (nI (n8 + (1 + (nsN (bo lo hi))))) zc zso znu zty zhd zpa zch zlk zlo zhi zlp zll zlv) H := hP
                    have hD : va_D A (w1 h a b cI cJ (apM (upd f n8 (208 + (nI (lgN (nsN (bo lo hi)))))) (n8 + 1) (bo lo hi) (nsN (bo lo hi))) g 0 (nI (n8 + (1 + (nsN (bo lo hi))))) zc zso znu zty zhd zpa zch zlk zlo zhi zlp zll zlv) := hD
                    obtain rfl : r_30 = nI (1 + (nsN (bo lo hi))) := hw_29
                    have hP9 : va_P (dC, dI) vwCl ((fun (_ : Unit) => w1 h a b cI cJ (phF f n8 (pk5 lo hi)) g 0 (nI (n8 + phL (pk5 lo hi))) zc zso znu zty zhd zpa zch zlk zlo zhi zlp zll zlv) (())) H := by rw [hT, phL_n, phF_n]; exact hP
                    have hD9 : va_D A ((fun (_ : Unit) => w1 h a b cI cJ (phF f n8 (pk5 lo hi)) g 0 (nI (n8 + phL (pk5 lo hi))) zc zso znu zty zhd zpa zch zlk zlo zhi zlp zll zlv) (())) := by rw [hT, phL_n, phF_n]; exact hD
                    exact W.iret (v := nI (1 + (nsN (bo lo hi)))) hx hb hr (fun t ht hW => ⟨⟨nI (1 + (nsN (bo lo hi))), (), rfl, (by rw [hT, phL_n]), by rw [ht]; exact hP9, va_K.moved hW.alike hK, hD9⟩, hS.F ht⟩) hS.2.2 dX1_pack_283
                  · skip
                    have c_22 := (not_congr (lg_cmp_ge (bo lo hi) (0 : Int64))).mp c_22
                    refine lv_aload_n hx hb dX1_pack_244 rfl (lv_at hl 3 rfl) ?_
                    refine lv_lload hx hb dX1_pack_245 (lv_at hl 1 rfl) ?_
                    refine lv_l2i hx hb dX1_pack_247 rfl ?_
                    refine lv_sipush (v := 256) hx hb dX1_pack_248 (by decide) ?_
                    refine lv_iadd hx hb dX1_pack_251 ?_
                    refine lv_iconst (v := 0) hx hb dX1_pack_252 (by decide) ?_
                    refine lv_lconst (v := 0) hx hb dX1_pack_253 (by decide) ?_
                    refine lv_iconst (v := -1) hx hb dX1_pack_254 (by decide) ?_
                    have hT : pk5 lo hi = ((((bo lo hi).toInt32) + 256), 0, 0, (-1)) := by unfold pk5; rw [if_neg c_12, if_neg c_22]
                    have hr9 : n8 + 1 + 0 ≤ 4096 := by rw [hT, phL_n] at hr8; omega
                    refine gvi (As := [.int (((bo lo hi).toInt32) + 256), .int 0, .long 0, .int (-1)]) (rest := []) ⟨hx, hb, hml, hown, hts⟩ (c_X1_packHead l dC dI tk tw h a b cI cJ _ f g zc zso znu zty zhd zpa zch zlk zlo zhi zlp zll zlv n8 (((bo lo hi).toInt32) + 256) 0 (by decide) 0 hr9) (cwV 4 hts gX1_pack_X1_packHead rfl rfl rfl (by decide +kernel) ⟨Nat.le_of_ble_eq_true rfl, Nat.le_of_ble_eq_true rfl⟩) hK hP hD hS hA hZ (q0 := 0) (ci := 1) rfl rfl rfl rfl hl.1 rfl (Nat.le_of_ble_eq_true rfl) dX1_pack_255 ⟨Nat.le_of_ble_eq_true rfl, Nat.le_of_ble_eq_true rfl⟩ (fun r_33 u_34 H locs hw_32 hP hD hS => ?_)
                    have hP : va_P (dC, dI) vwCl (w1 h a b cI cJ (apM (upd f n8 (((bo lo hi).toInt32) + 256)) (n8 + 1) 0 0) g 0 (nI (n8 + (1 + 0))) zc zso znu zty zhd zpa zch zlk zlo zhi zlp zll zlv) H := hP
                    have hD : va_D A (w1 h a b cI cJ (apM (upd f n8 (((bo lo hi).toInt32) + 256)) (n8 + 1) 0 0) g 0 (nI (n8 + (1 + 0))) zc zso znu zty zhd zpa zch zlk zlo zhi zlp zll zlv) := hD
                    obtain rfl : r_33 = nI (1 + 0) := hw_32
                    have hP9 : va_P (dC, dI) vwCl ((fun (_ : Unit) => w1 h a b cI cJ (phF f n8 (pk5 lo hi)) g 0 (nI (n8 + phL (pk5 lo hi))) zc zso znu zty zhd zpa zch zlk zlo zhi zlp zll zlv) (())) H := by rw [hT, phL_n, phF_n]; exact hP
                    have hD9 : va_D A ((fun (_ : Unit) => w1 h a b cI cJ (phF f n8 (pk5 lo hi)) g 0 (nI (n8 + phL (pk5 lo hi))) zc zso znu zty zhd zpa zch zlk zlo zhi zlp zll zlv) (())) := by rw [hT, phL_n, phF_n]; exact hD
                    exact W.iret (v := nI (1 + 0)) hx hb hr (fun t ht hW => ⟨⟨nI (1 + 0), (), rfl, (by rw [hT, phL_n]), by rw [ht]; exact hP9, va_K.moved hW.alike hK, hD9⟩, hS.F ht⟩) hS.2.2 dX1_pack_258
              · skip
                exact absurd (by decide) c_11
            · skip
              exact absurd (by decide) c_9
          · skip
            exact absurd c_5 (by decide)
        · skip
          exact absurd c_4 (by decide)
      · skip
        exact absurd (by decide) c_3
set_option maxHeartbeats 4000000 in
set_option maxRecDepth 100000 in
theorem c_X1_pack_5f (l : Launch) (dC : Nat → ClassId) (dI : Nat → Nat → Nat) (tk tw : Nat) (h a b : Nat) (cI cJ : ClassId) (sz : Nat) (f : Nat → Int32) (g : Nat → Int64) (zt : Int32) (zc : Int32) (zso : Int32) (znu : Int64) (zty : Int32) (zhd : Int32) (zpa : Int64) (zch : Int64) (zlk : Int32) (zlo : Int32) (zhi : Int32) (zlp : Int32) (zll : Int32) (zlv : Int32) (n8 : Nat) (hn8 : n8 ≤ 4096) (lo hi : Int32) (hr8 : 4096 < n8 + phL (pk5 lo hi)) : Met l yX1_pack wsX1_pack ({ frames := 2, cells := 0, slots := 0, locals := 49 }) (va_Pc [.ref h, .int 5, .int lo, .int hi] (pr dC dI (t1 cI cJ) (w1 h a b cI cJ f g zt (nI n8) zc zso znu zty zhd zpa zch zlk zlo zhi zlp zll zlv) sz tk tw)) (va_Qi (fun (r : Int32) (_ : Unit) => True) (fun (_ : Unit) => po dC dI (t1 cI cJ) (va_A (w1 h a b cI cJ f g zt (nI n8) zc zso znu zty zhd zpa zch zlk zlo zhi zlp zll zlv) sz) (w1 h a b cI cJ f g 2 (nI n8) zc zso znu zty zhd zpa zch zlk zlo zhi zlp zll zlv)) (va_A (w1 h a b cI cJ f g zt (nI n8) zc zso znu zty zhd zpa zch zlk zlo zhi zlp zll zlv) sz)) 0 0 (va_A (w1 h a b cI cJ f g zt (nI n8) zc zso znu zty zhd zpa zch zlk zlo zhi zlp zll zlv) sz) := by
  refine Met.ofW (cc := cX1_pack) (maxL := 11) (ret := (some .int)) (by decide) rfl ?_
  intro p e s m args below meth c s₁ Bd hml hv
  obtain ⟨rfl, hsz, hP, hK, hD0, hZ⟩ := hv
  have hx := Bd.exec
  have hb := Bd.bytes
  have hr := Bd.returns
  have hts := atoms_spec (ws := wsX1_pack) Bd.pre
  have hown : s.vm.findClass RX1 = some m.cls := findClass_of_methodNamed Bd.named
  have hlocks := Bd.notSynchronized
  subst hsz
  have hD := hD0.self (sz := s.heap.size)
  generalize hAe : va_A (w1 h a b cI cJ f g zt (nI n8) zc zso znu zty zhd zpa zch zlk zlo zhi zlp zll zlv) s.heap.size = A at hD hZ ⊢
  have hA : ∀ q : Nat, s.heap.size ≤ q → A q := fun q h => by rw [← hAe]; exact Or.inr h
  have hS : va_S A s.heap s.heap [] := va_S.rf
  have hP : va_P (dC, dI) vwCl (w1 h a b cI cJ f g zt (nI n8) zc zso znu zty zhd zpa zch zlk zlo zhi zlp zll zlv) s.heap := hP
  have hin0 : ∀ w ∈ wsX10, w ∈ wsX1_pack := by decide +kernel
  have fl21 := hts (.fieldLink RX1 21 "MessageReaderModel" "thrown" "I") (by decide +kernel)
  have hl := lv_entry ([.ref h, .int 5, .int lo, .int hi]) (n := 11) (Nat.le_of_ble_eq_true rfl)
  rw [lg_entry_eq]
  generalize (lg_sl ([.ref h, .int 5, .int lo, .int hi]) ++ List.replicate (11 - (lg_sl ([.ref h, .int 5, .int lo, .int hi])).length) Slot.unset).toArray = ls at hl ⊢
  have hl : lv_has ls 11 [(0, .ref h), (1, .int 5), (2, .int lo), (3, .int hi)] := hl
  refine lv_aload_n hx hb dX1_pack_0 rfl (lv_at hl 0 rfl) ?_
  refine lv_iconst (v := 0) hx hb dX1_pack_1 (by decide) ?_
  refine va_put (D := (dC, dI)) (ci := 1) (v := .int 0) (ty := .int) (C := RX1) (T := TX1) (N := 17) hx hb hts hin0 tyX1 tyX1_ok nmX1 hown hK hP hD hS 0 rfl rfl 0 (by decide) fl21 (fun _ h9 => h9) rfl (by decide +kernel) rfl rfl (Nat.le_of_ble_eq_true rfl) dX1_pack_2 (fun H locs hP hD hS => ?_)
  have hP : va_P (dC, dI) vwCl (w1 h a b cI cJ f g 0 (nI n8) zc zso znu zty zhd zpa zch zlk zlo zhi zlp zll zlv) H := hP
  have hD : va_D A (w1 h a b cI cJ f g 0 (nI n8) zc zso znu zty zhd zpa zch zlk zlo zhi zlp zll zlv) := hD
  refine lv_iload_n hx hb dX1_pack_5 rfl (lv_at hl 1 rfl) ?_
  refine lv_if_le (tgt := 47) hx hb dX1_pack_6 (by decide) (fun c_1 => ?_) (fun c_1 => ?_)
  · skip
    exact absurd c_1 (by decide)
  · skip
    refine lv_iload_n hx hb dX1_pack_9 rfl (lv_at hl 1 rfl) ?_
    refine lv_bipush (v := 13) hx hb dX1_pack_10 (by decide) ?_
    refine lv_icmp_ge (tgt := 47) hx hb dX1_pack_12 (by decide) (fun c_2 => ?_) (fun c_2 => ?_)
    · skip
      exact absurd c_2 (by decide)
    · skip
      refine lv_iload_n hx hb dX1_pack_15 rfl (lv_at hl 1 rfl) ?_
      refine lv_bipush (v := 8) hx hb dX1_pack_16 (by decide) ?_
      refine lv_icmp_lt (tgt := 25) hx hb dX1_pack_18 (by decide) (fun c_3 => ?_) (fun c_3 => ?_)
      · skip
        refine lv_iload_n hx hb dX1_pack_25 rfl (lv_at hl 1 rfl) ?_
        refine lv_bipush (v := 12) hx hb dX1_pack_26 (by decide) ?_
        refine lv_icmp_ne (tgt := 43) hx hb dX1_pack_28 (by decide) (fun c_4 => ?_) (fun c_4 => ?_)
        · skip
          refine lv_iconst (v := 1) hx hb dX1_pack_43 (by decide) ?_
          refine lv_goto (tgt := 48) hx hb dX1_pack_44 (by decide) ?_
          refine lv_istore (lv' := [(4, .int 1), (0, .ref h), (1, .int 5), (2, .int lo), (3, .int hi)]) hx hb dX1_pack_48 hl (by decide) rfl (fun ls hl => ?_)
          refine lv_aload_n hx hb dX1_pack_50 rfl (lv_at hl 1 rfl) ?_
          refine lv_iload hx hb dX1_pack_51 (lv_at hl 0 rfl) ?_
          refine lv_if_ne (tgt := 60) hx hb dX1_pack_53 (by decide) (fun c_5 => ?_) (fun c_5 => ?_)
          · skip
            refine lv_iconst (v := 0) hx hb dX1_pack_60 (by decide) ?_
            refine lv_iconst (v := 1) hx hb dX1_pack_61 (by decide) ?_
            refine gvi (As := [.int 0, .int 1]) (rest := []) ⟨hx, hb, hml, hown, hts⟩ (c_X1_fails l dC dI tk tw h a b cI cJ _ f g 0 (nI n8) zc zso znu zty zhd zpa zch zlk zlo zhi zlp zll zlv 0 1) (cwV 2 hts gX1_pack_X1_fails rfl rfl rfl (by decide +kernel) ⟨Nat.le_of_ble_eq_true rfl, Nat.le_of_ble_eq_true rfl⟩) hK hP hD hS hA hZ (q0 := 0) (ci := 1) rfl rfl rfl rfl hl.1 rfl (Nat.le_of_ble_eq_true rfl) dX1_pack_62 ⟨Nat.le_of_ble_eq_true rfl, Nat.le_of_ble_eq_true rfl⟩ (fun r_7 u_8 H locs hw_6 hP hD hS => ?_)
            obtain rfl : u_8 = 0 := hw_6.1.trans (by decide)
            have hP : va_P (dC, dI) vwCl (w1 h a b cI cJ f g 0 (nI n8) zc zso znu zty zhd zpa zch zlk zlo zhi zlp zll zlv) H := hP
            have hD : va_D A (w1 h a b cI cJ f g 0 (nI n8) zc zso znu zty zhd zpa zch zlk zlo zhi zlp zll zlv) := hD
            obtain rfl : r_7 = 0 := hw_6.2.trans (by decide)
            refine lv_if_eq (tgt := 70) hx hb dX1_pack_65 (by decide) (fun c_9 => ?_) (fun c_9 => ?_)
            · skip
              refine lv_iload_n hx hb dX1_pack_70 rfl (lv_at hl 4 rfl) ?_
              refine lv_i2l hx hb dX1_pack_71 rfl ?_
              refine lv_bipush (v := 32) hx hb dX1_pack_72 (by decide) ?_
              refine lv_lshl hx hb dX1_pack_74 rfl ?_
              refine lv_iload_n hx hb dX1_pack_75 rfl (lv_at hl 3 rfl) ?_
              refine lv_i2l hx hb dX1_pack_76 rfl ?_
              refine lv_ldc2 (v := 4294967295) hx hb hown (hts (.constantLong RX1 118 (4294967295)) (by decide +kernel)) dX1_pack_77 ?_
              refine lv_land hx hb dX1_pack_80 ?_
              refine lv_lor hx hb dX1_pack_81 ?_
              have e_10 : ((hi.toInt64 <<< ((32 : Int32).toInt64 &&& 63)) ||| (lo.toInt64 &&& 4294967295) : Int64) = bo lo hi := rfl
              rw [e_10]
              refine lv_lstore (lv' := [(5, .long (bo lo hi)), (4, .int 1), (0, .ref h), (1, .int 5), (2, .int lo), (3, .int hi)]) hx hb dX1_pack_82 hl (by decide) rfl (fun ls hl => ?_)
              refine lv_iload_n hx hb dX1_pack_84 rfl (lv_at hl 3 rfl) ?_
              refine lv_bipush (v := 7) hx hb dX1_pack_85 (by decide) ?_
              refine lv_icmp_le (tgt := 98) hx hb dX1_pack_87 (by decide) (fun c_11 => ?_) (fun c_11 => ?_)
              · skip
                refine lv_iconst (v := 0) hx hb dX1_pack_98 (by decide) ?_
                refine lv_istore (lv' := [(7, .int 0), (5, .long (bo lo hi)), (4, .int 1), (0, .ref h), (1, .int 5), (2, .int lo), (3, .int hi)]) hx hb dX1_pack_99 hl (by decide) rfl (fun ls hl => ?_)
                refine lv_iload_n hx hb dX1_pack_101 rfl (lv_at hl 4 rfl) ?_
                refine lv_tableIn (tgt := 228) hx hb dX1_pack_102 (by decide) (by decide) rfl (by decide) ?_
                refine lv_lload hx hb dX1_pack_228 (lv_at hl 1 rfl) ?_
                refine lv_ldc2 (v := -32) hx hb hown (hts (.constantLong RX1 131 (-32)) (by decide +kernel)) dX1_pack_230 ?_
                refine W.lcmp hx hb dX1_pack_233 ?_
                refine lv_if_lt (tgt := 259) hx hb dX1_pack_234 (by decide) (fun c_12 => ?_) (fun c_12 => ?_)
                · skip
                  have c_12 := (lg_cmp_lt (bo lo hi) (-32 : Int64)).mp c_12
                  refine lv_aload_n hx hb dX1_pack_259 rfl (lv_at hl 3 rfl) ?_
                  refine lv_sipush (v := 208) hx hb dX1_pack_260 (by decide) ?_
                  refine lv_lload hx hb dX1_pack_263 (lv_at hl 1 rfl) ?_
                  refine gsi (As := [.long (bo lo hi)]) (rest := [.int 208, .ref h]) ⟨hx, hb, hml, hown, hts⟩ (c_X1_needsSigned l dC dI tk tw _ (bo lo hi)) (va_cwS 1 hts gX1_pack_X1_needsSigned rfl rfl rfl (by decide +kernel) ⟨Nat.le_of_ble_eq_true rfl, Nat.le_of_ble_eq_true rfl⟩) hP hS hA hZ rfl hl.1 rfl (Nat.le_of_ble_eq_true rfl) dX1_pack_265 ⟨Nat.le_of_ble_eq_true rfl, Nat.le_of_ble_eq_true rfl⟩ (fun r_14 H locs hw_13 hP hS => ?_)
                  obtain rfl : r_14 = nI (nsN (bo lo hi)) := hw_13
                  refine gsi (As := [.int (nI (nsN (bo lo hi)))]) (rest := [.int 208, .ref h]) ⟨hx, hb, hml, hown, hts⟩ (c_X1_log l dC dI tk tw _ (nsN (bo lo hi)) (Nat.le_trans (nsN_le _) (by decide))) (va_cwS 1 hts gX1_pack_X1_log rfl rfl rfl (by decide +kernel) ⟨Nat.le_of_ble_eq_true rfl, Nat.le_of_ble_eq_true rfl⟩) hP hS hA hZ rfl hl.1 rfl (Nat.le_of_ble_eq_true rfl) dX1_pack_268 ⟨Nat.le_of_ble_eq_true rfl, Nat.le_of_ble_eq_true rfl⟩ (fun r_16 H locs hw_15 hP hS => ?_)
                  obtain rfl : r_16 = nI (lgN (nsN (bo lo hi))) := hw_15
                  refine lv_iadd hx hb dX1_pack_271 ?_
                  refine lv_lload hx hb dX1_pack_272 (lv_at hl 1 rfl) ?_
                  refine gsi (As := [.long (bo lo hi)]) (rest := [.int (208 + (nI (lgN (nsN (bo lo hi))))), .ref h]) ⟨hx, hb, hml, hown, hts⟩ (c_X1_needsSigned l dC dI tk tw _ (bo lo hi)) (va_cwS 1 hts gX1_pack_X1_needsSigned rfl rfl rfl (by decide +kernel) ⟨Nat.le_of_ble_eq_true rfl, Nat.le_of_ble_eq_true rfl⟩) hP hS hA hZ rfl hl.1 rfl (Nat.le_of_ble_eq_true rfl) dX1_pack_274 ⟨Nat.le_of_ble_eq_true rfl, Nat.le_of_ble_eq_true rfl⟩ (fun r_18 H locs hw_17 hP hS => ?_)
                  obtain rfl : r_18 = nI (nsN (bo lo hi)) := hw_17
                  refine lv_lload hx hb dX1_pack_277 (lv_at hl 1 rfl) ?_
                  refine lv_iconst (v := -1) hx hb dX1_pack_279 (by decide) ?_
                  have hT : pk5 lo hi = ((208 + (nI (lgN (nsN (bo lo hi))))), (nsN (bo lo hi)), (bo lo hi), (-1)) := by unfold pk5; rw [if_pos c_12]
                  have hr9 : 4096 < n8 + 1 + (nsN (bo lo hi)) := by rw [hT, phL_n] at hr8; omega
                  refine gvi (As := [.int (208 + (nI (lgN (nsN (bo lo hi))))), .int (nI (nsN (bo lo hi))), .long (bo lo hi), .int (-1)]) (rest := []) ⟨hx, hb, hml, hown, hts⟩ (c_X1_packHead_f l dC dI tk tw h a b cI cJ _ f g zc zso znu zty zhd zpa zch zlk zlo zhi zlp zll zlv n8 hn8 (208 + (nI (lgN (nsN (bo lo hi))))) (nsN (bo lo hi)) (nsN_le _) (bo lo hi) hr9) (cwV 4 hts gX1_pack_X1_packHead rfl rfl rfl (by decide +kernel) ⟨Nat.le_of_ble_eq_true rfl, Nat.le_of_ble_eq_true rfl⟩) hK hP hD hS hA hZ (q0 := 0) (ci := 1) rfl rfl rfl rfl hl.1 rfl (Nat.le_of_ble_eq_true rfl) dX1_pack_280 ⟨Nat.le_of_ble_eq_true rfl, Nat.le_of_ble_eq_true rfl⟩ (fun r_20 u_21 H locs hw_19 hP hD hS => ?_)
                  have hP : va_P (dC, dI) vwCl (w1 h a b cI cJ f g 2 (nI n8) zc zso znu zty zhd zpa zch zlk zlo zhi zlp zll zlv) H := hP
                  have hD : va_D A (w1 h a b cI cJ f g 2 (nI n8) zc zso znu zty zhd zpa zch zlk zlo zhi zlp zll zlv) := hD
                  have hP9 : va_P (dC, dI) vwCl ((fun (_ : Unit) => w1 h a b cI cJ f g 2 (nI n8) zc zso znu zty zhd zpa zch zlk zlo zhi zlp zll zlv) (())) H := hP
                  have hD9 : va_D A ((fun (_ : Unit) => w1 h a b cI cJ f g 2 (nI n8) zc zso znu zty zhd zpa zch zlk zlo zhi zlp zll zlv) (())) := hD
                  exact W.iret (v := r_20) hx hb hr (fun t ht hW => ⟨⟨r_20, (), rfl, trivial, by rw [ht]; exact hP9, va_K.moved hW.alike hK, hD9⟩, hS.F ht⟩) hS.2.2 dX1_pack_283
                · skip
                  have c_12 := (not_congr (lg_cmp_lt (bo lo hi) (-32 : Int64))).mp c_12
                  refine lv_lload hx hb dX1_pack_237 (lv_at hl 1 rfl) ?_
                  refine lv_lconst (v := 0) hx hb dX1_pack_239 (by decide) ?_
                  refine W.lcmp hx hb dX1_pack_240 ?_
                  refine lv_if_ge (tgt := 259) hx hb dX1_pack_241 (by decide) (fun c_22 => ?_) (fun c_22 => ?_)
                  · skip
                    have c_22 := (lg_cmp_ge (bo lo hi) (0 : Int64)).mp c_22
                    refine lv_aload_n hx hb dX1_pack_259 rfl (lv_at hl 3 rfl) ?_
                    refine lv_sipush (v := 208) hx hb dX1_pack_260 (by decide) ?_
                    refine lv_lload hx hb dX1_pack_263 (lv_at hl 1 rfl) ?_
                    refine gsi (As := [.long (bo lo hi)]) (rest := [.int 208, .ref h]) ⟨hx, hb, hml, hown, hts⟩ (c_X1_needsSigned l dC dI tk tw _ (bo lo hi)) (va_cwS 1 hts gX1_pack_X1_needsSigned rfl rfl rfl (by decide +kernel) ⟨Nat.le_of_ble_eq_true rfl, Nat.le_of_ble_eq_true rfl⟩) hP hS hA hZ rfl hl.1 rfl (Nat.le_of_ble_eq_true rfl) dX1_pack_265 ⟨Nat.le_of_ble_eq_true rfl, Nat.le_of_ble_eq_true rfl⟩ (fun r_24 H locs hw_23 hP hS => ?_)
                    obtain rfl : r_24 = nI (nsN (bo lo hi)) := hw_23
                    refine gsi (As := [.int (nI (nsN (bo lo hi)))]) (rest := [.int 208, .ref h]) ⟨hx, hb, hml, hown, hts⟩ (c_X1_log l dC dI tk tw _ (nsN (bo lo hi)) (Nat.le_trans (nsN_le _) (by decide))) (va_cwS 1 hts gX1_pack_X1_log rfl rfl rfl (by decide +kernel) ⟨Nat.le_of_ble_eq_true rfl, Nat.le_of_ble_eq_true rfl⟩) hP hS hA hZ rfl hl.1 rfl (Nat.le_of_ble_eq_true rfl) dX1_pack_268 ⟨Nat.le_of_ble_eq_true rfl, Nat.le_of_ble_eq_true rfl⟩ (fun r_26 H locs hw_25 hP hS => ?_)
                    obtain rfl : r_26 = nI (lgN (nsN (bo lo hi))) := hw_25
                    refine lv_iadd hx hb dX1_pack_271 ?_
                    refine lv_lload hx hb dX1_pack_272 (lv_at hl 1 rfl) ?_
                    refine gsi (As := [.long (bo lo hi)]) (rest := [.int (208 + (nI (lgN (nsN (bo lo hi))))), .ref h]) ⟨hx, hb, hml, hown, hts⟩ (c_X1_needsSigned l dC dI tk tw _ (bo lo hi)) (va_cwS 1 hts gX1_pack_X1_needsSigned rfl rfl rfl (by decide +kernel) ⟨Nat.le_of_ble_eq_true rfl, Nat.le_of_ble_eq_true rfl⟩) hP hS hA hZ rfl hl.1 rfl (Nat.le_of_ble_eq_true rfl) dX1_pack_274 ⟨Nat.le_of_ble_eq_true rfl, Nat.le_of_ble_eq_true rfl⟩ (fun r_28 H locs hw_27 hP hS => ?_)
                    obtain rfl : r_28 = nI (nsN (bo lo hi)) := hw_27
                    refine lv_lload hx hb dX1_pack_277 (lv_at hl 1 rfl) ?_
                    refine lv_iconst (v := -1) hx hb dX1_pack_279 (by decide) ?_
                    have hT : pk5 lo hi = ((208 + (nI (lgN (nsN (bo lo hi))))), (nsN (bo lo hi)), (bo lo hi), (-1)) := by unfold pk5; rw [if_neg c_12, if_pos c_22]
                    have hr9 : 4096 < n8 + 1 + (nsN (bo lo hi)) := by rw [hT, phL_n] at hr8; omega
                    refine gvi (As := [.int (208 + (nI (lgN (nsN (bo lo hi))))), .int (nI (nsN (bo lo hi))), .long (bo lo hi), .int (-1)]) (rest := []) ⟨hx, hb, hml, hown, hts⟩ (c_X1_packHead_f l dC dI tk tw h a b cI cJ _ f g zc zso znu zty zhd zpa zch zlk zlo zhi zlp zll zlv n8 hn8 (208 + (nI (lgN (nsN (bo lo hi))))) (nsN (bo lo hi)) (nsN_le _) (bo lo hi) hr9) (cwV 4 hts gX1_pack_X1_packHead rfl rfl rfl (by decide +kernel) ⟨Nat.le_of_ble_eq_true rfl, Nat.le_of_ble_eq_true rfl⟩) hK hP hD hS hA hZ (q0 := 0) (ci := 1) rfl rfl rfl rfl hl.1 rfl (Nat.le_of_ble_eq_true rfl) dX1_pack_280 ⟨Nat.le_of_ble_eq_true rfl, Nat.le_of_ble_eq_true rfl⟩ (fun r_30 u_31 H locs hw_29 hP hD hS => ?_)
                    have hP : va_P (dC, dI) vwCl (w1 h a b cI cJ f g 2 (nI n8) zc zso znu zty zhd zpa zch zlk zlo zhi zlp zll zlv) H := hP
                    have hD : va_D A (w1 h a b cI cJ f g 2 (nI n8) zc zso znu zty zhd zpa zch zlk zlo zhi zlp zll zlv) := hD
                    have hP9 : va_P (dC, dI) vwCl ((fun (_ : Unit) => w1 h a b cI cJ f g 2 (nI n8) zc zso znu zty zhd zpa zch zlk zlo zhi zlp zll zlv) (())) H := hP
                    have hD9 : va_D A ((fun (_ : Unit) => w1 h a b cI cJ f g 2 (nI n8) zc zso znu zty zhd zpa zch zlk zlo zhi zlp zll zlv) (())) := hD
                    exact W.iret (v := r_30) hx hb hr (fun t ht hW => ⟨⟨r_30, (), rfl, trivial, by rw [ht]; exact hP9, va_K.moved hW.alike hK, hD9⟩, hS.F ht⟩) hS.2.2 dX1_pack_283
                  · skip
                    have c_22 := (not_congr (lg_cmp_ge (bo lo hi) (0 : Int64))).mp c_22
                    refine lv_aload_n hx hb dX1_pack_244 rfl (lv_at hl 3 rfl) ?_
                    refine lv_lload hx hb dX1_pack_245 (lv_at hl 1 rfl) ?_
                    refine lv_l2i hx hb dX1_pack_247 rfl ?_
                    refine lv_sipush (v := 256) hx hb dX1_pack_248 (by decide) ?_
                    refine lv_iadd hx hb dX1_pack_251 ?_
                    refine lv_iconst (v := 0) hx hb dX1_pack_252 (by decide) ?_
                    refine lv_lconst (v := 0) hx hb dX1_pack_253 (by decide) ?_
                    refine lv_iconst (v := -1) hx hb dX1_pack_254 (by decide) ?_
                    have hT : pk5 lo hi = ((((bo lo hi).toInt32) + 256), 0, 0, (-1)) := by unfold pk5; rw [if_neg c_12, if_neg c_22]
                    have hr9 : 4096 < n8 + 1 + 0 := by rw [hT, phL_n] at hr8; omega
                    refine gvi (As := [.int (((bo lo hi).toInt32) + 256), .int 0, .long 0, .int (-1)]) (rest := []) ⟨hx, hb, hml, hown, hts⟩ (c_X1_packHead_f l dC dI tk tw h a b cI cJ _ f g zc zso znu zty zhd zpa zch zlk zlo zhi zlp zll zlv n8 hn8 (((bo lo hi).toInt32) + 256) 0 (by decide) 0 hr9) (cwV 4 hts gX1_pack_X1_packHead rfl rfl rfl (by decide +kernel) ⟨Nat.le_of_ble_eq_true rfl, Nat.le_of_ble_eq_true rfl⟩) hK hP hD hS hA hZ (q0 := 0) (ci := 1) rfl rfl rfl rfl hl.1 rfl (Nat.le_of_ble_eq_true rfl) dX1_pack_255 ⟨Nat.le_of_ble_eq_true rfl, Nat.le_of_ble_eq_true rfl⟩ (fun r_33 u_34 H locs hw_32 hP hD hS => ?_)
                    have hP : va_P (dC, dI) vwCl (w1 h a b cI cJ f g 2 (nI n8) zc zso znu zty zhd zpa zch zlk zlo zhi zlp zll zlv) H := hP
                    have hD : va_D A (w1 h a b cI cJ f g 2 (nI n8) zc zso znu zty zhd zpa zch zlk zlo zhi zlp zll zlv) := hD
                    have hP9 : va_P (dC, dI) vwCl ((fun (_ : Unit) => w1 h a b cI cJ f g 2 (nI n8) zc zso znu zty zhd zpa zch zlk zlo zhi zlp zll zlv) (())) H := hP
                    have hD9 : va_D A ((fun (_ : Unit) => w1 h a b cI cJ f g 2 (nI n8) zc zso znu zty zhd zpa zch zlk zlo zhi zlp zll zlv) (())) := hD
                    exact W.iret (v := r_33) hx hb hr (fun t ht hW => ⟨⟨r_33, (), rfl, trivial, by rw [ht]; exact hP9, va_K.moved hW.alike hK, hD9⟩, hS.F ht⟩) hS.2.2 dX1_pack_258
              · skip
                exact absurd (by decide) c_11
            · skip
              exact absurd (by decide) c_9
          · skip
            exact absurd c_5 (by decide)
        · skip
          exact absurd c_4 (by decide)
      · skip
        exact absurd (by decide) c_3
set_option maxHeartbeats 4000000 in
set_option maxRecDepth 100000 in
theorem c_X1_pack_6 (l : Launch) (dC : Nat → ClassId) (dI : Nat → Nat → Nat) (tk tw : Nat) (h a b : Nat) (cI cJ : ClassId) (sz : Nat) (f : Nat → Int32) (g : Nat → Int64) (zt : Int32) (zc : Int32) (zso : Int32) (znu : Int64) (zty : Int32) (zhd : Int32) (zpa : Int64) (zch : Int64) (zlk : Int32) (zlo : Int32) (zhi : Int32) (zlp : Int32) (zll : Int32) (zlv : Int32) (n8 : Nat) (lo hi : Int32) (hr8 : n8 + phL (pk6 lo hi) ≤ 4096) : Met l yX1_pack wsX1_pack ({ frames := 2, cells := 0, slots := 0, locals := 49 }) (va_Pc [.ref h, .int 6, .int lo, .int hi] (pr dC dI (t1 cI cJ) (w1 h a b cI cJ f g zt (nI n8) zc zso znu zty zhd zpa zch zlk zlo zhi zlp zll zlv) sz tk tw)) (va_Qi (fun (r : Int32) (_ : Unit) => r = nI (phL (pk6 lo hi))) (fun (_ : Unit) => po dC dI (t1 cI cJ) (va_A (w1 h a b cI cJ f g zt (nI n8) zc zso znu zty zhd zpa zch zlk zlo zhi zlp zll zlv) sz) (w1 h a b cI cJ (phF f n8 (pk6 lo hi)) g 0 (nI (n8 + phL (pk6 lo hi))) zc zso znu zty zhd zpa zch zlk zlo zhi zlp zll zlv)) (va_A (w1 h a b cI cJ f g zt (nI n8) zc zso znu zty zhd zpa zch zlk zlo zhi zlp zll zlv) sz)) 0 0 (va_A (w1 h a b cI cJ f g zt (nI n8) zc zso znu zty zhd zpa zch zlk zlo zhi zlp zll zlv) sz) := by
  refine Met.ofW (cc := cX1_pack) (maxL := 11) (ret := (some .int)) (by decide) rfl ?_
  intro p e s m args below meth c s₁ Bd hml hv
  obtain ⟨rfl, hsz, hP, hK, hD0, hZ⟩ := hv
  have hx := Bd.exec
  have hb := Bd.bytes
  have hr := Bd.returns
  have hts := atoms_spec (ws := wsX1_pack) Bd.pre
  have hown : s.vm.findClass RX1 = some m.cls := findClass_of_methodNamed Bd.named
  have hlocks := Bd.notSynchronized
  subst hsz
  have hD := hD0.self (sz := s.heap.size)
  generalize hAe : va_A (w1 h a b cI cJ f g zt (nI n8) zc zso znu zty zhd zpa zch zlk zlo zhi zlp zll zlv) s.heap.size = A at hD hZ ⊢
  have hA : ∀ q : Nat, s.heap.size ≤ q → A q := fun q h => by rw [← hAe]; exact Or.inr h
  have hS : va_S A s.heap s.heap [] := va_S.rf
  have hP : va_P (dC, dI) vwCl (w1 h a b cI cJ f g zt (nI n8) zc zso znu zty zhd zpa zch zlk zlo zhi zlp zll zlv) s.heap := hP
  have hin0 : ∀ w ∈ wsX10, w ∈ wsX1_pack := by decide +kernel
  have fl21 := hts (.fieldLink RX1 21 "MessageReaderModel" "thrown" "I") (by decide +kernel)
  have hl := lv_entry ([.ref h, .int 6, .int lo, .int hi]) (n := 11) (Nat.le_of_ble_eq_true rfl)
  rw [lg_entry_eq]
  generalize (lg_sl ([.ref h, .int 6, .int lo, .int hi]) ++ List.replicate (11 - (lg_sl ([.ref h, .int 6, .int lo, .int hi])).length) Slot.unset).toArray = ls at hl ⊢
  have hl : lv_has ls 11 [(0, .ref h), (1, .int 6), (2, .int lo), (3, .int hi)] := hl
  refine lv_aload_n hx hb dX1_pack_0 rfl (lv_at hl 0 rfl) ?_
  refine lv_iconst (v := 0) hx hb dX1_pack_1 (by decide) ?_
  refine va_put (D := (dC, dI)) (ci := 1) (v := .int 0) (ty := .int) (C := RX1) (T := TX1) (N := 17) hx hb hts hin0 tyX1 tyX1_ok nmX1 hown hK hP hD hS 0 rfl rfl 0 (by decide) fl21 (fun _ h9 => h9) rfl (by decide +kernel) rfl rfl (Nat.le_of_ble_eq_true rfl) dX1_pack_2 (fun H locs hP hD hS => ?_)
  have hP : va_P (dC, dI) vwCl (w1 h a b cI cJ f g 0 (nI n8) zc zso znu zty zhd zpa zch zlk zlo zhi zlp zll zlv) H := hP
  have hD : va_D A (w1 h a b cI cJ f g 0 (nI n8) zc zso znu zty zhd zpa zch zlk zlo zhi zlp zll zlv) := hD
  refine lv_iload_n hx hb dX1_pack_5 rfl (lv_at hl 1 rfl) ?_
  refine lv_if_le (tgt := 47) hx hb dX1_pack_6 (by decide) (fun c_1 => ?_) (fun c_1 => ?_)
  · skip
    exact absurd c_1 (by decide)
  · skip
    refine lv_iload_n hx hb dX1_pack_9 rfl (lv_at hl 1 rfl) ?_
    refine lv_bipush (v := 13) hx hb dX1_pack_10 (by decide) ?_
    refine lv_icmp_ge (tgt := 47) hx hb dX1_pack_12 (by decide) (fun c_2 => ?_) (fun c_2 => ?_)
    · skip
      exact absurd c_2 (by decide)
    · skip
      refine lv_iload_n hx hb dX1_pack_15 rfl (lv_at hl 1 rfl) ?_
      refine lv_bipush (v := 8) hx hb dX1_pack_16 (by decide) ?_
      refine lv_icmp_lt (tgt := 25) hx hb dX1_pack_18 (by decide) (fun c_3 => ?_) (fun c_3 => ?_)
      · skip
        refine lv_iload_n hx hb dX1_pack_25 rfl (lv_at hl 1 rfl) ?_
        refine lv_bipush (v := 12) hx hb dX1_pack_26 (by decide) ?_
        refine lv_icmp_ne (tgt := 43) hx hb dX1_pack_28 (by decide) (fun c_4 => ?_) (fun c_4 => ?_)
        · skip
          refine lv_iconst (v := 1) hx hb dX1_pack_43 (by decide) ?_
          refine lv_goto (tgt := 48) hx hb dX1_pack_44 (by decide) ?_
          refine lv_istore (lv' := [(4, .int 1), (0, .ref h), (1, .int 6), (2, .int lo), (3, .int hi)]) hx hb dX1_pack_48 hl (by decide) rfl (fun ls hl => ?_)
          refine lv_aload_n hx hb dX1_pack_50 rfl (lv_at hl 1 rfl) ?_
          refine lv_iload hx hb dX1_pack_51 (lv_at hl 0 rfl) ?_
          refine lv_if_ne (tgt := 60) hx hb dX1_pack_53 (by decide) (fun c_5 => ?_) (fun c_5 => ?_)
          · skip
            refine lv_iconst (v := 0) hx hb dX1_pack_60 (by decide) ?_
            refine lv_iconst (v := 1) hx hb dX1_pack_61 (by decide) ?_
            refine gvi (As := [.int 0, .int 1]) (rest := []) ⟨hx, hb, hml, hown, hts⟩ (c_X1_fails l dC dI tk tw h a b cI cJ _ f g 0 (nI n8) zc zso znu zty zhd zpa zch zlk zlo zhi zlp zll zlv 0 1) (cwV 2 hts gX1_pack_X1_fails rfl rfl rfl (by decide +kernel) ⟨Nat.le_of_ble_eq_true rfl, Nat.le_of_ble_eq_true rfl⟩) hK hP hD hS hA hZ (q0 := 0) (ci := 1) rfl rfl rfl rfl hl.1 rfl (Nat.le_of_ble_eq_true rfl) dX1_pack_62 ⟨Nat.le_of_ble_eq_true rfl, Nat.le_of_ble_eq_true rfl⟩ (fun r_7 u_8 H locs hw_6 hP hD hS => ?_)
            obtain rfl : u_8 = 0 := hw_6.1.trans (by decide)
            have hP : va_P (dC, dI) vwCl (w1 h a b cI cJ f g 0 (nI n8) zc zso znu zty zhd zpa zch zlk zlo zhi zlp zll zlv) H := hP
            have hD : va_D A (w1 h a b cI cJ f g 0 (nI n8) zc zso znu zty zhd zpa zch zlk zlo zhi zlp zll zlv) := hD
            obtain rfl : r_7 = 0 := hw_6.2.trans (by decide)
            refine lv_if_eq (tgt := 70) hx hb dX1_pack_65 (by decide) (fun c_9 => ?_) (fun c_9 => ?_)
            · skip
              refine lv_iload_n hx hb dX1_pack_70 rfl (lv_at hl 4 rfl) ?_
              refine lv_i2l hx hb dX1_pack_71 rfl ?_
              refine lv_bipush (v := 32) hx hb dX1_pack_72 (by decide) ?_
              refine lv_lshl hx hb dX1_pack_74 rfl ?_
              refine lv_iload_n hx hb dX1_pack_75 rfl (lv_at hl 3 rfl) ?_
              refine lv_i2l hx hb dX1_pack_76 rfl ?_
              refine lv_ldc2 (v := 4294967295) hx hb hown (hts (.constantLong RX1 118 (4294967295)) (by decide +kernel)) dX1_pack_77 ?_
              refine lv_land hx hb dX1_pack_80 ?_
              refine lv_lor hx hb dX1_pack_81 ?_
              have e_10 : ((hi.toInt64 <<< ((32 : Int32).toInt64 &&& 63)) ||| (lo.toInt64 &&& 4294967295) : Int64) = bo lo hi := rfl
              rw [e_10]
              refine lv_lstore (lv' := [(5, .long (bo lo hi)), (4, .int 1), (0, .ref h), (1, .int 6), (2, .int lo), (3, .int hi)]) hx hb dX1_pack_82 hl (by decide) rfl (fun ls hl => ?_)
              refine lv_iload_n hx hb dX1_pack_84 rfl (lv_at hl 3 rfl) ?_
              refine lv_bipush (v := 7) hx hb dX1_pack_85 (by decide) ?_
              refine lv_icmp_le (tgt := 98) hx hb dX1_pack_87 (by decide) (fun c_11 => ?_) (fun c_11 => ?_)
              · skip
                refine lv_iconst (v := 0) hx hb dX1_pack_98 (by decide) ?_
                refine lv_istore (lv' := [(7, .int 0), (5, .long (bo lo hi)), (4, .int 1), (0, .ref h), (1, .int 6), (2, .int lo), (3, .int hi)]) hx hb dX1_pack_99 hl (by decide) rfl (fun ls hl => ?_)
                refine lv_iload_n hx hb dX1_pack_101 rfl (lv_at hl 4 rfl) ?_
                refine lv_tableIn (tgt := 284) hx hb dX1_pack_102 (by decide) (by decide) rfl (by decide) ?_
                refine lv_aload_n hx hb dX1_pack_284 rfl (lv_at hl 3 rfl) ?_
                refine lv_sipush (v := 202) hx hb dX1_pack_285 (by decide) ?_
                refine lv_iconst (v := 4) hx hb dX1_pack_288 (by decide) ?_
                refine lv_iload_n hx hb dX1_pack_289 rfl (lv_at hl 5 rfl) ?_
                refine lv_i2l hx hb dX1_pack_290 rfl ?_
                refine lv_iconst (v := -1) hx hb dX1_pack_291 (by decide) ?_
                have hT : pk6 lo hi = (202, 4, lo.toInt64, (-1)) := rfl
                have hr9 : n8 + 1 + 4 ≤ 4096 := by rw [hT, phL_n] at hr8; omega
                refine gvi (As := [.int 202, .int 4, .long lo.toInt64, .int (-1)]) (rest := []) ⟨hx, hb, hml, hown, hts⟩ (c_X1_packHead l dC dI tk tw h a b cI cJ _ f g zc zso znu zty zhd zpa zch zlk zlo zhi zlp zll zlv n8 202 4 (by decide) lo.toInt64 hr9) (cwV 4 hts gX1_pack_X1_packHead rfl rfl rfl (by decide +kernel) ⟨Nat.le_of_ble_eq_true rfl, Nat.le_of_ble_eq_true rfl⟩) hK hP hD hS hA hZ (q0 := 0) (ci := 1) rfl rfl rfl rfl hl.1 rfl (Nat.le_of_ble_eq_true rfl) dX1_pack_292 ⟨Nat.le_of_ble_eq_true rfl, Nat.le_of_ble_eq_true rfl⟩ (fun r_13 u_14 H locs hw_12 hP hD hS => ?_)
                have hP : va_P (dC, dI) vwCl (w1 h a b cI cJ (apM (upd f n8 202) (n8 + 1) lo.toInt64 4) g 0 (nI (n8 + (1 + 4))) zc zso znu zty zhd zpa zch zlk zlo zhi zlp zll zlv) H := hP
                have hD : va_D A (w1 h a b cI cJ (apM (upd f n8 202) (n8 + 1) lo.toInt64 4) g 0 (nI (n8 + (1 + 4))) zc zso znu zty zhd zpa zch zlk zlo zhi zlp zll zlv) := hD
                obtain rfl : r_13 = nI (1 + 4) := hw_12
                have hP9 : va_P (dC, dI) vwCl ((fun (_ : Unit) => w1 h a b cI cJ (phF f n8 (pk6 lo hi)) g 0 (nI (n8 + phL (pk6 lo hi))) zc zso znu zty zhd zpa zch zlk zlo zhi zlp zll zlv) (())) H := by rw [hT, phL_n, phF_n]; exact hP
                have hD9 : va_D A ((fun (_ : Unit) => w1 h a b cI cJ (phF f n8 (pk6 lo hi)) g 0 (nI (n8 + phL (pk6 lo hi))) zc zso znu zty zhd zpa zch zlk zlo zhi zlp zll zlv) (())) := by rw [hT, phL_n, phF_n]; exact hD
                exact W.iret (v := nI (1 + 4)) hx hb hr (fun t ht hW => ⟨⟨nI (1 + 4), (), rfl, (by rw [hT, phL_n]), by rw [ht]; exact hP9, va_K.moved hW.alike hK, hD9⟩, hS.F ht⟩) hS.2.2 dX1_pack_295
              · skip
                exact absurd (by decide) c_11
            · skip
              exact absurd (by decide) c_9
          · skip
            exact absurd c_5 (by decide)
        · skip
          exact absurd c_4 (by decide)
      · skip
        exact absurd (by decide) c_3
set_option maxHeartbeats 4000000 in
set_option maxRecDepth 100000 in
theorem c_X1_pack_6f (l : Launch) (dC : Nat → ClassId) (dI : Nat → Nat → Nat) (tk tw : Nat) (h a b : Nat) (cI cJ : ClassId) (sz : Nat) (f : Nat → Int32) (g : Nat → Int64) (zt : Int32) (zc : Int32) (zso : Int32) (znu : Int64) (zty : Int32) (zhd : Int32) (zpa : Int64) (zch : Int64) (zlk : Int32) (zlo : Int32) (zhi : Int32) (zlp : Int32) (zll : Int32) (zlv : Int32) (n8 : Nat) (hn8 : n8 ≤ 4096) (lo hi : Int32) (hr8 : 4096 < n8 + phL (pk6 lo hi)) : Met l yX1_pack wsX1_pack ({ frames := 2, cells := 0, slots := 0, locals := 49 }) (va_Pc [.ref h, .int 6, .int lo, .int hi] (pr dC dI (t1 cI cJ) (w1 h a b cI cJ f g zt (nI n8) zc zso znu zty zhd zpa zch zlk zlo zhi zlp zll zlv) sz tk tw)) (va_Qi (fun (r : Int32) (_ : Unit) => True) (fun (_ : Unit) => po dC dI (t1 cI cJ) (va_A (w1 h a b cI cJ f g zt (nI n8) zc zso znu zty zhd zpa zch zlk zlo zhi zlp zll zlv) sz) (w1 h a b cI cJ f g 2 (nI n8) zc zso znu zty zhd zpa zch zlk zlo zhi zlp zll zlv)) (va_A (w1 h a b cI cJ f g zt (nI n8) zc zso znu zty zhd zpa zch zlk zlo zhi zlp zll zlv) sz)) 0 0 (va_A (w1 h a b cI cJ f g zt (nI n8) zc zso znu zty zhd zpa zch zlk zlo zhi zlp zll zlv) sz) := by
  refine Met.ofW (cc := cX1_pack) (maxL := 11) (ret := (some .int)) (by decide) rfl ?_
  intro p e s m args below meth c s₁ Bd hml hv
  obtain ⟨rfl, hsz, hP, hK, hD0, hZ⟩ := hv
  have hx := Bd.exec
  have hb := Bd.bytes
  have hr := Bd.returns
  have hts := atoms_spec (ws := wsX1_pack) Bd.pre
  have hown : s.vm.findClass RX1 = some m.cls := findClass_of_methodNamed Bd.named
  have hlocks := Bd.notSynchronized
  subst hsz
  have hD := hD0.self (sz := s.heap.size)
  generalize hAe : va_A (w1 h a b cI cJ f g zt (nI n8) zc zso znu zty zhd zpa zch zlk zlo zhi zlp zll zlv) s.heap.size = A at hD hZ ⊢
  have hA : ∀ q : Nat, s.heap.size ≤ q → A q := fun q h => by rw [← hAe]; exact Or.inr h
  have hS : va_S A s.heap s.heap [] := va_S.rf
  have hP : va_P (dC, dI) vwCl (w1 h a b cI cJ f g zt (nI n8) zc zso znu zty zhd zpa zch zlk zlo zhi zlp zll zlv) s.heap := hP
  have hin0 : ∀ w ∈ wsX10, w ∈ wsX1_pack := by decide +kernel
  have fl21 := hts (.fieldLink RX1 21 "MessageReaderModel" "thrown" "I") (by decide +kernel)
  have hl := lv_entry ([.ref h, .int 6, .int lo, .int hi]) (n := 11) (Nat.le_of_ble_eq_true rfl)
  rw [lg_entry_eq]
  generalize (lg_sl ([.ref h, .int 6, .int lo, .int hi]) ++ List.replicate (11 - (lg_sl ([.ref h, .int 6, .int lo, .int hi])).length) Slot.unset).toArray = ls at hl ⊢
  have hl : lv_has ls 11 [(0, .ref h), (1, .int 6), (2, .int lo), (3, .int hi)] := hl
  refine lv_aload_n hx hb dX1_pack_0 rfl (lv_at hl 0 rfl) ?_
  refine lv_iconst (v := 0) hx hb dX1_pack_1 (by decide) ?_
  refine va_put (D := (dC, dI)) (ci := 1) (v := .int 0) (ty := .int) (C := RX1) (T := TX1) (N := 17) hx hb hts hin0 tyX1 tyX1_ok nmX1 hown hK hP hD hS 0 rfl rfl 0 (by decide) fl21 (fun _ h9 => h9) rfl (by decide +kernel) rfl rfl (Nat.le_of_ble_eq_true rfl) dX1_pack_2 (fun H locs hP hD hS => ?_)
  have hP : va_P (dC, dI) vwCl (w1 h a b cI cJ f g 0 (nI n8) zc zso znu zty zhd zpa zch zlk zlo zhi zlp zll zlv) H := hP
  have hD : va_D A (w1 h a b cI cJ f g 0 (nI n8) zc zso znu zty zhd zpa zch zlk zlo zhi zlp zll zlv) := hD
  refine lv_iload_n hx hb dX1_pack_5 rfl (lv_at hl 1 rfl) ?_
  refine lv_if_le (tgt := 47) hx hb dX1_pack_6 (by decide) (fun c_1 => ?_) (fun c_1 => ?_)
  · skip
    exact absurd c_1 (by decide)
  · skip
    refine lv_iload_n hx hb dX1_pack_9 rfl (lv_at hl 1 rfl) ?_
    refine lv_bipush (v := 13) hx hb dX1_pack_10 (by decide) ?_
    refine lv_icmp_ge (tgt := 47) hx hb dX1_pack_12 (by decide) (fun c_2 => ?_) (fun c_2 => ?_)
    · skip
      exact absurd c_2 (by decide)
    · skip
      refine lv_iload_n hx hb dX1_pack_15 rfl (lv_at hl 1 rfl) ?_
      refine lv_bipush (v := 8) hx hb dX1_pack_16 (by decide) ?_
      refine lv_icmp_lt (tgt := 25) hx hb dX1_pack_18 (by decide) (fun c_3 => ?_) (fun c_3 => ?_)
      · skip
        refine lv_iload_n hx hb dX1_pack_25 rfl (lv_at hl 1 rfl) ?_
        refine lv_bipush (v := 12) hx hb dX1_pack_26 (by decide) ?_
        refine lv_icmp_ne (tgt := 43) hx hb dX1_pack_28 (by decide) (fun c_4 => ?_) (fun c_4 => ?_)
        · skip
          refine lv_iconst (v := 1) hx hb dX1_pack_43 (by decide) ?_
          refine lv_goto (tgt := 48) hx hb dX1_pack_44 (by decide) ?_
          refine lv_istore (lv' := [(4, .int 1), (0, .ref h), (1, .int 6), (2, .int lo), (3, .int hi)]) hx hb dX1_pack_48 hl (by decide) rfl (fun ls hl => ?_)
          refine lv_aload_n hx hb dX1_pack_50 rfl (lv_at hl 1 rfl) ?_
          refine lv_iload hx hb dX1_pack_51 (lv_at hl 0 rfl) ?_
          refine lv_if_ne (tgt := 60) hx hb dX1_pack_53 (by decide) (fun c_5 => ?_) (fun c_5 => ?_)
          · skip
            refine lv_iconst (v := 0) hx hb dX1_pack_60 (by decide) ?_
            refine lv_iconst (v := 1) hx hb dX1_pack_61 (by decide) ?_
            refine gvi (As := [.int 0, .int 1]) (rest := []) ⟨hx, hb, hml, hown, hts⟩ (c_X1_fails l dC dI tk tw h a b cI cJ _ f g 0 (nI n8) zc zso znu zty zhd zpa zch zlk zlo zhi zlp zll zlv 0 1) (cwV 2 hts gX1_pack_X1_fails rfl rfl rfl (by decide +kernel) ⟨Nat.le_of_ble_eq_true rfl, Nat.le_of_ble_eq_true rfl⟩) hK hP hD hS hA hZ (q0 := 0) (ci := 1) rfl rfl rfl rfl hl.1 rfl (Nat.le_of_ble_eq_true rfl) dX1_pack_62 ⟨Nat.le_of_ble_eq_true rfl, Nat.le_of_ble_eq_true rfl⟩ (fun r_7 u_8 H locs hw_6 hP hD hS => ?_)
            obtain rfl : u_8 = 0 := hw_6.1.trans (by decide)
            have hP : va_P (dC, dI) vwCl (w1 h a b cI cJ f g 0 (nI n8) zc zso znu zty zhd zpa zch zlk zlo zhi zlp zll zlv) H := hP
            have hD : va_D A (w1 h a b cI cJ f g 0 (nI n8) zc zso znu zty zhd zpa zch zlk zlo zhi zlp zll zlv) := hD
            obtain rfl : r_7 = 0 := hw_6.2.trans (by decide)
            refine lv_if_eq (tgt := 70) hx hb dX1_pack_65 (by decide) (fun c_9 => ?_) (fun c_9 => ?_)
            · skip
              refine lv_iload_n hx hb dX1_pack_70 rfl (lv_at hl 4 rfl) ?_
              refine lv_i2l hx hb dX1_pack_71 rfl ?_
              refine lv_bipush (v := 32) hx hb dX1_pack_72 (by decide) ?_
              refine lv_lshl hx hb dX1_pack_74 rfl ?_
              refine lv_iload_n hx hb dX1_pack_75 rfl (lv_at hl 3 rfl) ?_
              refine lv_i2l hx hb dX1_pack_76 rfl ?_
              refine lv_ldc2 (v := 4294967295) hx hb hown (hts (.constantLong RX1 118 (4294967295)) (by decide +kernel)) dX1_pack_77 ?_
              refine lv_land hx hb dX1_pack_80 ?_
              refine lv_lor hx hb dX1_pack_81 ?_
              have e_10 : ((hi.toInt64 <<< ((32 : Int32).toInt64 &&& 63)) ||| (lo.toInt64 &&& 4294967295) : Int64) = bo lo hi := rfl
              rw [e_10]
              refine lv_lstore (lv' := [(5, .long (bo lo hi)), (4, .int 1), (0, .ref h), (1, .int 6), (2, .int lo), (3, .int hi)]) hx hb dX1_pack_82 hl (by decide) rfl (fun ls hl => ?_)
              refine lv_iload_n hx hb dX1_pack_84 rfl (lv_at hl 3 rfl) ?_
              refine lv_bipush (v := 7) hx hb dX1_pack_85 (by decide) ?_
              refine lv_icmp_le (tgt := 98) hx hb dX1_pack_87 (by decide) (fun c_11 => ?_) (fun c_11 => ?_)
              · skip
                refine lv_iconst (v := 0) hx hb dX1_pack_98 (by decide) ?_
                refine lv_istore (lv' := [(7, .int 0), (5, .long (bo lo hi)), (4, .int 1), (0, .ref h), (1, .int 6), (2, .int lo), (3, .int hi)]) hx hb dX1_pack_99 hl (by decide) rfl (fun ls hl => ?_)
                refine lv_iload_n hx hb dX1_pack_101 rfl (lv_at hl 4 rfl) ?_
                refine lv_tableIn (tgt := 284) hx hb dX1_pack_102 (by decide) (by decide) rfl (by decide) ?_
                refine lv_aload_n hx hb dX1_pack_284 rfl (lv_at hl 3 rfl) ?_
                refine lv_sipush (v := 202) hx hb dX1_pack_285 (by decide) ?_
                refine lv_iconst (v := 4) hx hb dX1_pack_288 (by decide) ?_
                refine lv_iload_n hx hb dX1_pack_289 rfl (lv_at hl 5 rfl) ?_
                refine lv_i2l hx hb dX1_pack_290 rfl ?_
                refine lv_iconst (v := -1) hx hb dX1_pack_291 (by decide) ?_
                have hT : pk6 lo hi = (202, 4, lo.toInt64, (-1)) := rfl
                have hr9 : 4096 < n8 + 1 + 4 := by rw [hT, phL_n] at hr8; omega
                refine gvi (As := [.int 202, .int 4, .long lo.toInt64, .int (-1)]) (rest := []) ⟨hx, hb, hml, hown, hts⟩ (c_X1_packHead_f l dC dI tk tw h a b cI cJ _ f g zc zso znu zty zhd zpa zch zlk zlo zhi zlp zll zlv n8 hn8 202 4 (by decide) lo.toInt64 hr9) (cwV 4 hts gX1_pack_X1_packHead rfl rfl rfl (by decide +kernel) ⟨Nat.le_of_ble_eq_true rfl, Nat.le_of_ble_eq_true rfl⟩) hK hP hD hS hA hZ (q0 := 0) (ci := 1) rfl rfl rfl rfl hl.1 rfl (Nat.le_of_ble_eq_true rfl) dX1_pack_292 ⟨Nat.le_of_ble_eq_true rfl, Nat.le_of_ble_eq_true rfl⟩ (fun r_13 u_14 H locs hw_12 hP hD hS => ?_)
                have hP : va_P (dC, dI) vwCl (w1 h a b cI cJ f g 2 (nI n8) zc zso znu zty zhd zpa zch zlk zlo zhi zlp zll zlv) H := hP
                have hD : va_D A (w1 h a b cI cJ f g 2 (nI n8) zc zso znu zty zhd zpa zch zlk zlo zhi zlp zll zlv) := hD
                have hP9 : va_P (dC, dI) vwCl ((fun (_ : Unit) => w1 h a b cI cJ f g 2 (nI n8) zc zso znu zty zhd zpa zch zlk zlo zhi zlp zll zlv) (())) H := hP
                have hD9 : va_D A ((fun (_ : Unit) => w1 h a b cI cJ f g 2 (nI n8) zc zso znu zty zhd zpa zch zlk zlo zhi zlp zll zlv) (())) := hD
                exact W.iret (v := r_13) hx hb hr (fun t ht hW => ⟨⟨r_13, (), rfl, trivial, by rw [ht]; exact hP9, va_K.moved hW.alike hK, hD9⟩, hS.F ht⟩) hS.2.2 dX1_pack_295
              · skip
                exact absurd (by decide) c_11
            · skip
              exact absurd (by decide) c_9
          · skip
            exact absurd c_5 (by decide)
        · skip
          exact absurd c_4 (by decide)
      · skip
        exact absurd (by decide) c_3
set_option maxHeartbeats 4000000 in
set_option maxRecDepth 100000 in
theorem c_X1_pack_7 (l : Launch) (dC : Nat → ClassId) (dI : Nat → Nat → Nat) (tk tw : Nat) (h a b : Nat) (cI cJ : ClassId) (sz : Nat) (f : Nat → Int32) (g : Nat → Int64) (zt : Int32) (zc : Int32) (zso : Int32) (znu : Int64) (zty : Int32) (zhd : Int32) (zpa : Int64) (zch : Int64) (zlk : Int32) (zlo : Int32) (zhi : Int32) (zlp : Int32) (zll : Int32) (zlv : Int32) (n8 : Nat) (lo hi : Int32) (hr8 : n8 + phL (pk7 lo hi) ≤ 4096) : Met l yX1_pack wsX1_pack ({ frames := 2, cells := 0, slots := 0, locals := 49 }) (va_Pc [.ref h, .int 7, .int lo, .int hi] (pr dC dI (t1 cI cJ) (w1 h a b cI cJ f g zt (nI n8) zc zso znu zty zhd zpa zch zlk zlo zhi zlp zll zlv) sz tk tw)) (va_Qi (fun (r : Int32) (_ : Unit) => r = nI (phL (pk7 lo hi))) (fun (_ : Unit) => po dC dI (t1 cI cJ) (va_A (w1 h a b cI cJ f g zt (nI n8) zc zso znu zty zhd zpa zch zlk zlo zhi zlp zll zlv) sz) (w1 h a b cI cJ (phF f n8 (pk7 lo hi)) g 0 (nI (n8 + phL (pk7 lo hi))) zc zso znu zty zhd zpa zch zlk zlo zhi zlp zll zlv)) (va_A (w1 h a b cI cJ f g zt (nI n8) zc zso znu zty zhd zpa zch zlk zlo zhi zlp zll zlv) sz)) 0 0 (va_A (w1 h a b cI cJ f g zt (nI n8) zc zso znu zty zhd zpa zch zlk zlo zhi zlp zll zlv) sz) := by
  refine Met.ofW (cc := cX1_pack) (maxL := 11) (ret := (some .int)) (by decide) rfl ?_
  intro p e s m args below meth c s₁ Bd hml hv
  obtain ⟨rfl, hsz, hP, hK, hD0, hZ⟩ := hv
  have hx := Bd.exec
  have hb := Bd.bytes
  have hr := Bd.returns
  have hts := atoms_spec (ws := wsX1_pack) Bd.pre
  have hown : s.vm.findClass RX1 = some m.cls := findClass_of_methodNamed Bd.named
  have hlocks := Bd.notSynchronized
  subst hsz
  have hD := hD0.self (sz := s.heap.size)
  generalize hAe : va_A (w1 h a b cI cJ f g zt (nI n8) zc zso znu zty zhd zpa zch zlk zlo zhi zlp zll zlv) s.heap.size = A at hD hZ ⊢
  have hA : ∀ q : Nat, s.heap.size ≤ q → A q := fun q h => by rw [← hAe]; exact Or.inr h
  have hS : va_S A s.heap s.heap [] := va_S.rf
  have hP : va_P (dC, dI) vwCl (w1 h a b cI cJ f g zt (nI n8) zc zso znu zty zhd zpa zch zlk zlo zhi zlp zll zlv) s.heap := hP
  have hin0 : ∀ w ∈ wsX10, w ∈ wsX1_pack := by decide +kernel
  have fl21 := hts (.fieldLink RX1 21 "MessageReaderModel" "thrown" "I") (by decide +kernel)
  have hl := lv_entry ([.ref h, .int 7, .int lo, .int hi]) (n := 11) (Nat.le_of_ble_eq_true rfl)
  rw [lg_entry_eq]
  generalize (lg_sl ([.ref h, .int 7, .int lo, .int hi]) ++ List.replicate (11 - (lg_sl ([.ref h, .int 7, .int lo, .int hi])).length) Slot.unset).toArray = ls at hl ⊢
  have hl : lv_has ls 11 [(0, .ref h), (1, .int 7), (2, .int lo), (3, .int hi)] := hl
  refine lv_aload_n hx hb dX1_pack_0 rfl (lv_at hl 0 rfl) ?_
  refine lv_iconst (v := 0) hx hb dX1_pack_1 (by decide) ?_
  refine va_put (D := (dC, dI)) (ci := 1) (v := .int 0) (ty := .int) (C := RX1) (T := TX1) (N := 17) hx hb hts hin0 tyX1 tyX1_ok nmX1 hown hK hP hD hS 0 rfl rfl 0 (by decide) fl21 (fun _ h9 => h9) rfl (by decide +kernel) rfl rfl (Nat.le_of_ble_eq_true rfl) dX1_pack_2 (fun H locs hP hD hS => ?_)
  have hP : va_P (dC, dI) vwCl (w1 h a b cI cJ f g 0 (nI n8) zc zso znu zty zhd zpa zch zlk zlo zhi zlp zll zlv) H := hP
  have hD : va_D A (w1 h a b cI cJ f g 0 (nI n8) zc zso znu zty zhd zpa zch zlk zlo zhi zlp zll zlv) := hD
  refine lv_iload_n hx hb dX1_pack_5 rfl (lv_at hl 1 rfl) ?_
  refine lv_if_le (tgt := 47) hx hb dX1_pack_6 (by decide) (fun c_1 => ?_) (fun c_1 => ?_)
  · skip
    exact absurd c_1 (by decide)
  · skip
    refine lv_iload_n hx hb dX1_pack_9 rfl (lv_at hl 1 rfl) ?_
    refine lv_bipush (v := 13) hx hb dX1_pack_10 (by decide) ?_
    refine lv_icmp_ge (tgt := 47) hx hb dX1_pack_12 (by decide) (fun c_2 => ?_) (fun c_2 => ?_)
    · skip
      exact absurd c_2 (by decide)
    · skip
      refine lv_iload_n hx hb dX1_pack_15 rfl (lv_at hl 1 rfl) ?_
      refine lv_bipush (v := 8) hx hb dX1_pack_16 (by decide) ?_
      refine lv_icmp_lt (tgt := 25) hx hb dX1_pack_18 (by decide) (fun c_3 => ?_) (fun c_3 => ?_)
      · skip
        refine lv_iload_n hx hb dX1_pack_25 rfl (lv_at hl 1 rfl) ?_
        refine lv_bipush (v := 12) hx hb dX1_pack_26 (by decide) ?_
        refine lv_icmp_ne (tgt := 43) hx hb dX1_pack_28 (by decide) (fun c_4 => ?_) (fun c_4 => ?_)
        · skip
          refine lv_iconst (v := 1) hx hb dX1_pack_43 (by decide) ?_
          refine lv_goto (tgt := 48) hx hb dX1_pack_44 (by decide) ?_
          refine lv_istore (lv' := [(4, .int 1), (0, .ref h), (1, .int 7), (2, .int lo), (3, .int hi)]) hx hb dX1_pack_48 hl (by decide) rfl (fun ls hl => ?_)
          refine lv_aload_n hx hb dX1_pack_50 rfl (lv_at hl 1 rfl) ?_
          refine lv_iload hx hb dX1_pack_51 (lv_at hl 0 rfl) ?_
          refine lv_if_ne (tgt := 60) hx hb dX1_pack_53 (by decide) (fun c_5 => ?_) (fun c_5 => ?_)
          · skip
            refine lv_iconst (v := 0) hx hb dX1_pack_60 (by decide) ?_
            refine lv_iconst (v := 1) hx hb dX1_pack_61 (by decide) ?_
            refine gvi (As := [.int 0, .int 1]) (rest := []) ⟨hx, hb, hml, hown, hts⟩ (c_X1_fails l dC dI tk tw h a b cI cJ _ f g 0 (nI n8) zc zso znu zty zhd zpa zch zlk zlo zhi zlp zll zlv 0 1) (cwV 2 hts gX1_pack_X1_fails rfl rfl rfl (by decide +kernel) ⟨Nat.le_of_ble_eq_true rfl, Nat.le_of_ble_eq_true rfl⟩) hK hP hD hS hA hZ (q0 := 0) (ci := 1) rfl rfl rfl rfl hl.1 rfl (Nat.le_of_ble_eq_true rfl) dX1_pack_62 ⟨Nat.le_of_ble_eq_true rfl, Nat.le_of_ble_eq_true rfl⟩ (fun r_7 u_8 H locs hw_6 hP hD hS => ?_)
            obtain rfl : u_8 = 0 := hw_6.1.trans (by decide)
            have hP : va_P (dC, dI) vwCl (w1 h a b cI cJ f g 0 (nI n8) zc zso znu zty zhd zpa zch zlk zlo zhi zlp zll zlv) H := hP
            have hD : va_D A (w1 h a b cI cJ f g 0 (nI n8) zc zso znu zty zhd zpa zch zlk zlo zhi zlp zll zlv) := hD
            obtain rfl : r_7 = 0 := hw_6.2.trans (by decide)
            refine lv_if_eq (tgt := 70) hx hb dX1_pack_65 (by decide) (fun c_9 => ?_) (fun c_9 => ?_)
            · skip
              refine lv_iload_n hx hb dX1_pack_70 rfl (lv_at hl 4 rfl) ?_
              refine lv_i2l hx hb dX1_pack_71 rfl ?_
              refine lv_bipush (v := 32) hx hb dX1_pack_72 (by decide) ?_
              refine lv_lshl hx hb dX1_pack_74 rfl ?_
              refine lv_iload_n hx hb dX1_pack_75 rfl (lv_at hl 3 rfl) ?_
              refine lv_i2l hx hb dX1_pack_76 rfl ?_
              refine lv_ldc2 (v := 4294967295) hx hb hown (hts (.constantLong RX1 118 (4294967295)) (by decide +kernel)) dX1_pack_77 ?_
              refine lv_land hx hb dX1_pack_80 ?_
              refine lv_lor hx hb dX1_pack_81 ?_
              have e_10 : ((hi.toInt64 <<< ((32 : Int32).toInt64 &&& 63)) ||| (lo.toInt64 &&& 4294967295) : Int64) = bo lo hi := rfl
              rw [e_10]
              refine lv_lstore (lv' := [(5, .long (bo lo hi)), (4, .int 1), (0, .ref h), (1, .int 7), (2, .int lo), (3, .int hi)]) hx hb dX1_pack_82 hl (by decide) rfl (fun ls hl => ?_)
              refine lv_iload_n hx hb dX1_pack_84 rfl (lv_at hl 3 rfl) ?_
              refine lv_bipush (v := 7) hx hb dX1_pack_85 (by decide) ?_
              refine lv_icmp_le (tgt := 98) hx hb dX1_pack_87 (by decide) (fun c_11 => ?_) (fun c_11 => ?_)
              · skip
                refine lv_iconst (v := 0) hx hb dX1_pack_98 (by decide) ?_
                refine lv_istore (lv' := [(7, .int 0), (5, .long (bo lo hi)), (4, .int 1), (0, .ref h), (1, .int 7), (2, .int lo), (3, .int hi)]) hx hb dX1_pack_99 hl (by decide) rfl (fun ls hl => ?_)
                refine lv_iload_n hx hb dX1_pack_101 rfl (lv_at hl 4 rfl) ?_
                refine lv_tableIn (tgt := 296) hx hb dX1_pack_102 (by decide) (by decide) rfl (by decide) ?_
                refine lv_aload_n hx hb dX1_pack_296 rfl (lv_at hl 3 rfl) ?_
                refine lv_sipush (v := 203) hx hb dX1_pack_297 (by decide) ?_
                refine lv_bipush (v := 8) hx hb dX1_pack_300 (by decide) ?_
                refine lv_lload hx hb dX1_pack_302 (lv_at hl 1 rfl) ?_
                refine lv_iconst (v := -1) hx hb dX1_pack_304 (by decide) ?_
                have hT : pk7 lo hi = (203, 8, (bo lo hi), (-1)) := rfl
                have hr9 : n8 + 1 + 8 ≤ 4096 := by rw [hT, phL_n] at hr8; omega
                refine gvi (As := [.int 203, .int 8, .long (bo lo hi), .int (-1)]) (rest := []) ⟨hx, hb, hml, hown, hts⟩ (c_X1_packHead l dC dI tk tw h a b cI cJ _ f g zc zso znu zty zhd zpa zch zlk zlo zhi zlp zll zlv n8 203 8 (by decide) (bo lo hi) hr9) (cwV 4 hts gX1_pack_X1_packHead rfl rfl rfl (by decide +kernel) ⟨Nat.le_of_ble_eq_true rfl, Nat.le_of_ble_eq_true rfl⟩) hK hP hD hS hA hZ (q0 := 0) (ci := 1) rfl rfl rfl rfl hl.1 rfl (Nat.le_of_ble_eq_true rfl) dX1_pack_305 ⟨Nat.le_of_ble_eq_true rfl, Nat.le_of_ble_eq_true rfl⟩ (fun r_13 u_14 H locs hw_12 hP hD hS => ?_)
                have hP : va_P (dC, dI) vwCl (w1 h a b cI cJ (apM (upd f n8 203) (n8 + 1) (bo lo hi) 8) g 0 (nI (n8 + (1 + 8))) zc zso znu zty zhd zpa zch zlk zlo zhi zlp zll zlv) H := hP
                have hD : va_D A (w1 h a b cI cJ (apM (upd f n8 203) (n8 + 1) (bo lo hi) 8) g 0 (nI (n8 + (1 + 8))) zc zso znu zty zhd zpa zch zlk zlo zhi zlp zll zlv) := hD
                obtain rfl : r_13 = nI (1 + 8) := hw_12
                have hP9 : va_P (dC, dI) vwCl ((fun (_ : Unit) => w1 h a b cI cJ (phF f n8 (pk7 lo hi)) g 0 (nI (n8 + phL (pk7 lo hi))) zc zso znu zty zhd zpa zch zlk zlo zhi zlp zll zlv) (())) H := by rw [hT, phL_n, phF_n]; exact hP
                have hD9 : va_D A ((fun (_ : Unit) => w1 h a b cI cJ (phF f n8 (pk7 lo hi)) g 0 (nI (n8 + phL (pk7 lo hi))) zc zso znu zty zhd zpa zch zlk zlo zhi zlp zll zlv) (())) := by rw [hT, phL_n, phF_n]; exact hD
                exact W.iret (v := nI (1 + 8)) hx hb hr (fun t ht hW => ⟨⟨nI (1 + 8), (), rfl, (by rw [hT, phL_n]), by rw [ht]; exact hP9, va_K.moved hW.alike hK, hD9⟩, hS.F ht⟩) hS.2.2 dX1_pack_308
              · skip
                exact absurd (by decide) c_11
            · skip
              exact absurd (by decide) c_9
          · skip
            exact absurd c_5 (by decide)
        · skip
          exact absurd c_4 (by decide)
      · skip
        exact absurd (by decide) c_3
set_option maxHeartbeats 4000000 in
set_option maxRecDepth 100000 in
theorem c_X1_pack_7f (l : Launch) (dC : Nat → ClassId) (dI : Nat → Nat → Nat) (tk tw : Nat) (h a b : Nat) (cI cJ : ClassId) (sz : Nat) (f : Nat → Int32) (g : Nat → Int64) (zt : Int32) (zc : Int32) (zso : Int32) (znu : Int64) (zty : Int32) (zhd : Int32) (zpa : Int64) (zch : Int64) (zlk : Int32) (zlo : Int32) (zhi : Int32) (zlp : Int32) (zll : Int32) (zlv : Int32) (n8 : Nat) (hn8 : n8 ≤ 4096) (lo hi : Int32) (hr8 : 4096 < n8 + phL (pk7 lo hi)) : Met l yX1_pack wsX1_pack ({ frames := 2, cells := 0, slots := 0, locals := 49 }) (va_Pc [.ref h, .int 7, .int lo, .int hi] (pr dC dI (t1 cI cJ) (w1 h a b cI cJ f g zt (nI n8) zc zso znu zty zhd zpa zch zlk zlo zhi zlp zll zlv) sz tk tw)) (va_Qi (fun (r : Int32) (_ : Unit) => True) (fun (_ : Unit) => po dC dI (t1 cI cJ) (va_A (w1 h a b cI cJ f g zt (nI n8) zc zso znu zty zhd zpa zch zlk zlo zhi zlp zll zlv) sz) (w1 h a b cI cJ f g 2 (nI n8) zc zso znu zty zhd zpa zch zlk zlo zhi zlp zll zlv)) (va_A (w1 h a b cI cJ f g zt (nI n8) zc zso znu zty zhd zpa zch zlk zlo zhi zlp zll zlv) sz)) 0 0 (va_A (w1 h a b cI cJ f g zt (nI n8) zc zso znu zty zhd zpa zch zlk zlo zhi zlp zll zlv) sz) := by
  refine Met.ofW (cc := cX1_pack) (maxL := 11) (ret := (some .int)) (by decide) rfl ?_
  intro p e s m args below meth c s₁ Bd hml hv
  obtain ⟨rfl, hsz, hP, hK, hD0, hZ⟩ := hv
  have hx := Bd.exec
  have hb := Bd.bytes
  have hr := Bd.returns
  have hts := atoms_spec (ws := wsX1_pack) Bd.pre
  have hown : s.vm.findClass RX1 = some m.cls := findClass_of_methodNamed Bd.named
  have hlocks := Bd.notSynchronized
  subst hsz
  have hD := hD0.self (sz := s.heap.size)
  generalize hAe : va_A (w1 h a b cI cJ f g zt (nI n8) zc zso znu zty zhd zpa zch zlk zlo zhi zlp zll zlv) s.heap.size = A at hD hZ ⊢
  have hA : ∀ q : Nat, s.heap.size ≤ q → A q := fun q h => by rw [← hAe]; exact Or.inr h
  have hS : va_S A s.heap s.heap [] := va_S.rf
  have hP : va_P (dC, dI) vwCl (w1 h a b cI cJ f g zt (nI n8) zc zso znu zty zhd zpa zch zlk zlo zhi zlp zll zlv) s.heap := hP
  have hin0 : ∀ w ∈ wsX10, w ∈ wsX1_pack := by decide +kernel
  have fl21 := hts (.fieldLink RX1 21 "MessageReaderModel" "thrown" "I") (by decide +kernel)
  have hl := lv_entry ([.ref h, .int 7, .int lo, .int hi]) (n := 11) (Nat.le_of_ble_eq_true rfl)
  rw [lg_entry_eq]
  generalize (lg_sl ([.ref h, .int 7, .int lo, .int hi]) ++ List.replicate (11 - (lg_sl ([.ref h, .int 7, .int lo, .int hi])).length) Slot.unset).toArray = ls at hl ⊢
  have hl : lv_has ls 11 [(0, .ref h), (1, .int 7), (2, .int lo), (3, .int hi)] := hl
  refine lv_aload_n hx hb dX1_pack_0 rfl (lv_at hl 0 rfl) ?_
  refine lv_iconst (v := 0) hx hb dX1_pack_1 (by decide) ?_
  refine va_put (D := (dC, dI)) (ci := 1) (v := .int 0) (ty := .int) (C := RX1) (T := TX1) (N := 17) hx hb hts hin0 tyX1 tyX1_ok nmX1 hown hK hP hD hS 0 rfl rfl 0 (by decide) fl21 (fun _ h9 => h9) rfl (by decide +kernel) rfl rfl (Nat.le_of_ble_eq_true rfl) dX1_pack_2 (fun H locs hP hD hS => ?_)
  have hP : va_P (dC, dI) vwCl (w1 h a b cI cJ f g 0 (nI n8) zc zso znu zty zhd zpa zch zlk zlo zhi zlp zll zlv) H := hP
  have hD : va_D A (w1 h a b cI cJ f g 0 (nI n8) zc zso znu zty zhd zpa zch zlk zlo zhi zlp zll zlv) := hD
  refine lv_iload_n hx hb dX1_pack_5 rfl (lv_at hl 1 rfl) ?_
  refine lv_if_le (tgt := 47) hx hb dX1_pack_6 (by decide) (fun c_1 => ?_) (fun c_1 => ?_)
  · skip
    exact absurd c_1 (by decide)
  · skip
    refine lv_iload_n hx hb dX1_pack_9 rfl (lv_at hl 1 rfl) ?_
    refine lv_bipush (v := 13) hx hb dX1_pack_10 (by decide) ?_
    refine lv_icmp_ge (tgt := 47) hx hb dX1_pack_12 (by decide) (fun c_2 => ?_) (fun c_2 => ?_)
    · skip
      exact absurd c_2 (by decide)
    · skip
      refine lv_iload_n hx hb dX1_pack_15 rfl (lv_at hl 1 rfl) ?_
      refine lv_bipush (v := 8) hx hb dX1_pack_16 (by decide) ?_
      refine lv_icmp_lt (tgt := 25) hx hb dX1_pack_18 (by decide) (fun c_3 => ?_) (fun c_3 => ?_)
      · skip
        refine lv_iload_n hx hb dX1_pack_25 rfl (lv_at hl 1 rfl) ?_
        refine lv_bipush (v := 12) hx hb dX1_pack_26 (by decide) ?_
        refine lv_icmp_ne (tgt := 43) hx hb dX1_pack_28 (by decide) (fun c_4 => ?_) (fun c_4 => ?_)
        · skip
          refine lv_iconst (v := 1) hx hb dX1_pack_43 (by decide) ?_
          refine lv_goto (tgt := 48) hx hb dX1_pack_44 (by decide) ?_
          refine lv_istore (lv' := [(4, .int 1), (0, .ref h), (1, .int 7), (2, .int lo), (3, .int hi)]) hx hb dX1_pack_48 hl (by decide) rfl (fun ls hl => ?_)
          refine lv_aload_n hx hb dX1_pack_50 rfl (lv_at hl 1 rfl) ?_
          refine lv_iload hx hb dX1_pack_51 (lv_at hl 0 rfl) ?_
          refine lv_if_ne (tgt := 60) hx hb dX1_pack_53 (by decide) (fun c_5 => ?_) (fun c_5 => ?_)
          · skip
            refine lv_iconst (v := 0) hx hb dX1_pack_60 (by decide) ?_
            refine lv_iconst (v := 1) hx hb dX1_pack_61 (by decide) ?_
            refine gvi (As := [.int 0, .int 1]) (rest := []) ⟨hx, hb, hml, hown, hts⟩ (c_X1_fails l dC dI tk tw h a b cI cJ _ f g 0 (nI n8) zc zso znu zty zhd zpa zch zlk zlo zhi zlp zll zlv 0 1) (cwV 2 hts gX1_pack_X1_fails rfl rfl rfl (by decide +kernel) ⟨Nat.le_of_ble_eq_true rfl, Nat.le_of_ble_eq_true rfl⟩) hK hP hD hS hA hZ (q0 := 0) (ci := 1) rfl rfl rfl rfl hl.1 rfl (Nat.le_of_ble_eq_true rfl) dX1_pack_62 ⟨Nat.le_of_ble_eq_true rfl, Nat.le_of_ble_eq_true rfl⟩ (fun r_7 u_8 H locs hw_6 hP hD hS => ?_)
            obtain rfl : u_8 = 0 := hw_6.1.trans (by decide)
            have hP : va_P (dC, dI) vwCl (w1 h a b cI cJ f g 0 (nI n8) zc zso znu zty zhd zpa zch zlk zlo zhi zlp zll zlv) H := hP
            have hD : va_D A (w1 h a b cI cJ f g 0 (nI n8) zc zso znu zty zhd zpa zch zlk zlo zhi zlp zll zlv) := hD
            obtain rfl : r_7 = 0 := hw_6.2.trans (by decide)
            refine lv_if_eq (tgt := 70) hx hb dX1_pack_65 (by decide) (fun c_9 => ?_) (fun c_9 => ?_)
            · skip
              refine lv_iload_n hx hb dX1_pack_70 rfl (lv_at hl 4 rfl) ?_
              refine lv_i2l hx hb dX1_pack_71 rfl ?_
              refine lv_bipush (v := 32) hx hb dX1_pack_72 (by decide) ?_
              refine lv_lshl hx hb dX1_pack_74 rfl ?_
              refine lv_iload_n hx hb dX1_pack_75 rfl (lv_at hl 3 rfl) ?_
              refine lv_i2l hx hb dX1_pack_76 rfl ?_
              refine lv_ldc2 (v := 4294967295) hx hb hown (hts (.constantLong RX1 118 (4294967295)) (by decide +kernel)) dX1_pack_77 ?_
              refine lv_land hx hb dX1_pack_80 ?_
              refine lv_lor hx hb dX1_pack_81 ?_
              have e_10 : ((hi.toInt64 <<< ((32 : Int32).toInt64 &&& 63)) ||| (lo.toInt64 &&& 4294967295) : Int64) = bo lo hi := rfl
              rw [e_10]
              refine lv_lstore (lv' := [(5, .long (bo lo hi)), (4, .int 1), (0, .ref h), (1, .int 7), (2, .int lo), (3, .int hi)]) hx hb dX1_pack_82 hl (by decide) rfl (fun ls hl => ?_)
              refine lv_iload_n hx hb dX1_pack_84 rfl (lv_at hl 3 rfl) ?_
              refine lv_bipush (v := 7) hx hb dX1_pack_85 (by decide) ?_
              refine lv_icmp_le (tgt := 98) hx hb dX1_pack_87 (by decide) (fun c_11 => ?_) (fun c_11 => ?_)
              · skip
                refine lv_iconst (v := 0) hx hb dX1_pack_98 (by decide) ?_
                refine lv_istore (lv' := [(7, .int 0), (5, .long (bo lo hi)), (4, .int 1), (0, .ref h), (1, .int 7), (2, .int lo), (3, .int hi)]) hx hb dX1_pack_99 hl (by decide) rfl (fun ls hl => ?_)
                refine lv_iload_n hx hb dX1_pack_101 rfl (lv_at hl 4 rfl) ?_
                refine lv_tableIn (tgt := 296) hx hb dX1_pack_102 (by decide) (by decide) rfl (by decide) ?_
                refine lv_aload_n hx hb dX1_pack_296 rfl (lv_at hl 3 rfl) ?_
                refine lv_sipush (v := 203) hx hb dX1_pack_297 (by decide) ?_
                refine lv_bipush (v := 8) hx hb dX1_pack_300 (by decide) ?_
                refine lv_lload hx hb dX1_pack_302 (lv_at hl 1 rfl) ?_
                refine lv_iconst (v := -1) hx hb dX1_pack_304 (by decide) ?_
                have hT : pk7 lo hi = (203, 8, (bo lo hi), (-1)) := rfl
                have hr9 : 4096 < n8 + 1 + 8 := by rw [hT, phL_n] at hr8; omega
                refine gvi (As := [.int 203, .int 8, .long (bo lo hi), .int (-1)]) (rest := []) ⟨hx, hb, hml, hown, hts⟩ (c_X1_packHead_f l dC dI tk tw h a b cI cJ _ f g zc zso znu zty zhd zpa zch zlk zlo zhi zlp zll zlv n8 hn8 203 8 (by decide) (bo lo hi) hr9) (cwV 4 hts gX1_pack_X1_packHead rfl rfl rfl (by decide +kernel) ⟨Nat.le_of_ble_eq_true rfl, Nat.le_of_ble_eq_true rfl⟩) hK hP hD hS hA hZ (q0 := 0) (ci := 1) rfl rfl rfl rfl hl.1 rfl (Nat.le_of_ble_eq_true rfl) dX1_pack_305 ⟨Nat.le_of_ble_eq_true rfl, Nat.le_of_ble_eq_true rfl⟩ (fun r_13 u_14 H locs hw_12 hP hD hS => ?_)
                have hP : va_P (dC, dI) vwCl (w1 h a b cI cJ f g 2 (nI n8) zc zso znu zty zhd zpa zch zlk zlo zhi zlp zll zlv) H := hP
                have hD : va_D A (w1 h a b cI cJ f g 2 (nI n8) zc zso znu zty zhd zpa zch zlk zlo zhi zlp zll zlv) := hD
                have hP9 : va_P (dC, dI) vwCl ((fun (_ : Unit) => w1 h a b cI cJ f g 2 (nI n8) zc zso znu zty zhd zpa zch zlk zlo zhi zlp zll zlv) (())) H := hP
                have hD9 : va_D A ((fun (_ : Unit) => w1 h a b cI cJ f g 2 (nI n8) zc zso znu zty zhd zpa zch zlk zlo zhi zlp zll zlv) (())) := hD
                exact W.iret (v := r_13) hx hb hr (fun t ht hW => ⟨⟨r_13, (), rfl, trivial, by rw [ht]; exact hP9, va_K.moved hW.alike hK, hD9⟩, hS.F ht⟩) hS.2.2 dX1_pack_308
              · skip
                exact absurd (by decide) c_11
            · skip
              exact absurd (by decide) c_9
          · skip
            exact absurd c_5 (by decide)
        · skip
          exact absurd c_4 (by decide)
      · skip
        exact absurd (by decide) c_3
set_option maxHeartbeats 4000000 in
set_option maxRecDepth 100000 in
theorem c_X1_pack_8 (l : Launch) (dC : Nat → ClassId) (dI : Nat → Nat → Nat) (tk tw : Nat) (h a b : Nat) (cI cJ : ClassId) (sz : Nat) (f : Nat → Int32) (g : Nat → Int64) (zt : Int32) (zc : Int32) (zso : Int32) (znu : Int64) (zty : Int32) (zhd : Int32) (zpa : Int64) (zch : Int64) (zlk : Int32) (zlo : Int32) (zhi : Int32) (zlp : Int32) (zll : Int32) (zlv : Int32) (n8 : Nat) (lo hi : Int32) (h8 : ¬ lo < 0) (hr8 : n8 + phL (pk8 lo hi) ≤ 4096) : Met l yX1_pack wsX1_pack ({ frames := 2, cells := 0, slots := 0, locals := 49 }) (va_Pc [.ref h, .int 8, .int lo, .int hi] (pr dC dI (t1 cI cJ) (w1 h a b cI cJ f g zt (nI n8) zc zso znu zty zhd zpa zch zlk zlo zhi zlp zll zlv) sz tk tw)) (va_Qi (fun (r : Int32) (_ : Unit) => r = nI (phL (pk8 lo hi))) (fun (_ : Unit) => po dC dI (t1 cI cJ) (va_A (w1 h a b cI cJ f g zt (nI n8) zc zso znu zty zhd zpa zch zlk zlo zhi zlp zll zlv) sz) (w1 h a b cI cJ (phF f n8 (pk8 lo hi)) g 0 (nI (n8 + phL (pk8 lo hi))) zc zso znu zty zhd zpa zch zlk zlo zhi zlp zll zlv)) (va_A (w1 h a b cI cJ f g zt (nI n8) zc zso znu zty zhd zpa zch zlk zlo zhi zlp zll zlv) sz)) 0 0 (va_A (w1 h a b cI cJ f g zt (nI n8) zc zso znu zty zhd zpa zch zlk zlo zhi zlp zll zlv) sz) := by
  refine Met.ofW (cc := cX1_pack) (maxL := 11) (ret := (some .int)) (by decide) rfl ?_
  intro p e s m args below meth c s₁ Bd hml hv
  obtain ⟨rfl, hsz, hP, hK, hD0, hZ⟩ := hv
  have hx := Bd.exec
  have hb := Bd.bytes
  have hr := Bd.returns
  have hts := atoms_spec (ws := wsX1_pack) Bd.pre
  have hown : s.vm.findClass RX1 = some m.cls := findClass_of_methodNamed Bd.named
  have hlocks := Bd.notSynchronized
  subst hsz
  have hD := hD0.self (sz := s.heap.size)
  generalize hAe : va_A (w1 h a b cI cJ f g zt (nI n8) zc zso znu zty zhd zpa zch zlk zlo zhi zlp zll zlv) s.heap.size = A at hD hZ ⊢
  have hA : ∀ q : Nat, s.heap.size ≤ q → A q := fun q h => by rw [← hAe]; exact Or.inr h
  have hS : va_S A s.heap s.heap [] := va_S.rf
  have hP : va_P (dC, dI) vwCl (w1 h a b cI cJ f g zt (nI n8) zc zso znu zty zhd zpa zch zlk zlo zhi zlp zll zlv) s.heap := hP
  have hin0 : ∀ w ∈ wsX10, w ∈ wsX1_pack := by decide +kernel
  have fl21 := hts (.fieldLink RX1 21 "MessageReaderModel" "thrown" "I") (by decide +kernel)
  have hl := lv_entry ([.ref h, .int 8, .int lo, .int hi]) (n := 11) (Nat.le_of_ble_eq_true rfl)
  rw [lg_entry_eq]
  generalize (lg_sl ([.ref h, .int 8, .int lo, .int hi]) ++ List.replicate (11 - (lg_sl ([.ref h, .int 8, .int lo, .int hi])).length) Slot.unset).toArray = ls at hl ⊢
  have hl : lv_has ls 11 [(0, .ref h), (1, .int 8), (2, .int lo), (3, .int hi)] := hl
  refine lv_aload_n hx hb dX1_pack_0 rfl (lv_at hl 0 rfl) ?_
  refine lv_iconst (v := 0) hx hb dX1_pack_1 (by decide) ?_
  refine va_put (D := (dC, dI)) (ci := 1) (v := .int 0) (ty := .int) (C := RX1) (T := TX1) (N := 17) hx hb hts hin0 tyX1 tyX1_ok nmX1 hown hK hP hD hS 0 rfl rfl 0 (by decide) fl21 (fun _ h9 => h9) rfl (by decide +kernel) rfl rfl (Nat.le_of_ble_eq_true rfl) dX1_pack_2 (fun H locs hP hD hS => ?_)
  have hP : va_P (dC, dI) vwCl (w1 h a b cI cJ f g 0 (nI n8) zc zso znu zty zhd zpa zch zlk zlo zhi zlp zll zlv) H := hP
  have hD : va_D A (w1 h a b cI cJ f g 0 (nI n8) zc zso znu zty zhd zpa zch zlk zlo zhi zlp zll zlv) := hD
  refine lv_iload_n hx hb dX1_pack_5 rfl (lv_at hl 1 rfl) ?_
  refine lv_if_le (tgt := 47) hx hb dX1_pack_6 (by decide) (fun c_1 => ?_) (fun c_1 => ?_)
  · skip
    exact absurd c_1 (by decide)
  · skip
    refine lv_iload_n hx hb dX1_pack_9 rfl (lv_at hl 1 rfl) ?_
    refine lv_bipush (v := 13) hx hb dX1_pack_10 (by decide) ?_
    refine lv_icmp_ge (tgt := 47) hx hb dX1_pack_12 (by decide) (fun c_2 => ?_) (fun c_2 => ?_)
    · skip
      exact absurd c_2 (by decide)
    · skip
      refine lv_iload_n hx hb dX1_pack_15 rfl (lv_at hl 1 rfl) ?_
      refine lv_bipush (v := 8) hx hb dX1_pack_16 (by decide) ?_
      refine lv_icmp_lt (tgt := 25) hx hb dX1_pack_18 (by decide) (fun c_3 => ?_) (fun c_3 => ?_)
      · skip
        exact absurd c_3 (by decide)
      · skip
        refine lv_iload_n hx hb dX1_pack_21 rfl (lv_at hl 2 rfl) ?_
        refine lv_if_lt (tgt := 47) hx hb dX1_pack_22 (by decide) (fun c_4 => ?_) (fun c_4 => ?_)
        · skip
          exact absurd c_4 h8
        · skip
          refine lv_iload_n hx hb dX1_pack_25 rfl (lv_at hl 1 rfl) ?_
          refine lv_bipush (v := 12) hx hb dX1_pack_26 (by decide) ?_
          refine lv_icmp_ne (tgt := 43) hx hb dX1_pack_28 (by decide) (fun c_5 => ?_) (fun c_5 => ?_)
          · skip
            refine lv_iconst (v := 1) hx hb dX1_pack_43 (by decide) ?_
            refine lv_goto (tgt := 48) hx hb dX1_pack_44 (by decide) ?_
            refine lv_istore (lv' := [(4, .int 1), (0, .ref h), (1, .int 8), (2, .int lo), (3, .int hi)]) hx hb dX1_pack_48 hl (by decide) rfl (fun ls hl => ?_)
            refine lv_aload_n hx hb dX1_pack_50 rfl (lv_at hl 1 rfl) ?_
            refine lv_iload hx hb dX1_pack_51 (lv_at hl 0 rfl) ?_
            refine lv_if_ne (tgt := 60) hx hb dX1_pack_53 (by decide) (fun c_6 => ?_) (fun c_6 => ?_)
            · skip
              refine lv_iconst (v := 0) hx hb dX1_pack_60 (by decide) ?_
              refine lv_iconst (v := 1) hx hb dX1_pack_61 (by decide) ?_
              refine gvi (As := [.int 0, .int 1]) (rest := []) ⟨hx, hb, hml, hown, hts⟩ (c_X1_fails l dC dI tk tw h a b cI cJ _ f g 0 (nI n8) zc zso znu zty zhd zpa zch zlk zlo zhi zlp zll zlv 0 1) (cwV 2 hts gX1_pack_X1_fails rfl rfl rfl (by decide +kernel) ⟨Nat.le_of_ble_eq_true rfl, Nat.le_of_ble_eq_true rfl⟩) hK hP hD hS hA hZ (q0 := 0) (ci := 1) rfl rfl rfl rfl hl.1 rfl (Nat.le_of_ble_eq_true rfl) dX1_pack_62 ⟨Nat.le_of_ble_eq_true rfl, Nat.le_of_ble_eq_true rfl⟩ (fun r_8 u_9 H locs hw_7 hP hD hS => ?_)
              obtain rfl : u_9 = 0 := hw_7.1.trans (by decide)
              have hP : va_P (dC, dI) vwCl (w1 h a b cI cJ f g 0 (nI n8) zc zso znu zty zhd zpa zch zlk zlo zhi zlp zll zlv) H := hP
              have hD : va_D A (w1 h a b cI cJ f g 0 (nI n8) zc zso znu zty zhd zpa zch zlk zlo zhi zlp zll zlv) := hD
              obtain rfl : r_8 = 0 := hw_7.2.trans (by decide)
              refine lv_if_eq (tgt := 70) hx hb dX1_pack_65 (by decide) (fun c_10 => ?_) (fun c_10 => ?_)
              · skip
                refine lv_iload_n hx hb dX1_pack_70 rfl (lv_at hl 4 rfl) ?_
                refine lv_i2l hx hb dX1_pack_71 rfl ?_
                refine lv_bipush (v := 32) hx hb dX1_pack_72 (by decide) ?_
                refine lv_lshl hx hb dX1_pack_74 rfl ?_
                refine lv_iload_n hx hb dX1_pack_75 rfl (lv_at hl 3 rfl) ?_
                refine lv_i2l hx hb dX1_pack_76 rfl ?_
                refine lv_ldc2 (v := 4294967295) hx hb hown (hts (.constantLong RX1 118 (4294967295)) (by decide +kernel)) dX1_pack_77 ?_
                refine lv_land hx hb dX1_pack_80 ?_
                refine lv_lor hx hb dX1_pack_81 ?_
                have e_11 : ((hi.toInt64 <<< ((32 : Int32).toInt64 &&& 63)) ||| (lo.toInt64 &&& 4294967295) : Int64) = bo lo hi := rfl
                rw [e_11]
                refine lv_lstore (lv' := [(5, .long (bo lo hi)), (4, .int 1), (0, .ref h), (1, .int 8), (2, .int lo), (3, .int hi)]) hx hb dX1_pack_82 hl (by decide) rfl (fun ls hl => ?_)
                refine lv_iload_n hx hb dX1_pack_84 rfl (lv_at hl 3 rfl) ?_
                refine lv_bipush (v := 7) hx hb dX1_pack_85 (by decide) ?_
                refine lv_icmp_le (tgt := 98) hx hb dX1_pack_87 (by decide) (fun c_12 => ?_) (fun c_12 => ?_)
                · skip
                  exact absurd c_12 (by decide)
                · skip
                  refine lv_iload_n hx hb dX1_pack_90 rfl (lv_at hl 4 rfl) ?_
                  refine lv_i2l hx hb dX1_pack_91 rfl ?_
                  refine gsi (As := [.long lo.toInt64]) (rest := []) ⟨hx, hb, hml, hown, hts⟩ (c_X1_needs l dC dI tk tw _ lo.toInt64) (va_cwS 1 hts gX1_pack_X1_needs rfl rfl rfl (by decide +kernel) ⟨Nat.le_of_ble_eq_true rfl, Nat.le_of_ble_eq_true rfl⟩) hP hS hA hZ rfl hl.1 rfl (Nat.le_of_ble_eq_true rfl) dX1_pack_92 ⟨Nat.le_of_ble_eq_true rfl, Nat.le_of_ble_eq_true rfl⟩ (fun r_14 H locs hw_13 hP hS => ?_)
                  obtain rfl : r_14 = nI (ndN lo.toInt64) := hw_13
                  refine lv_goto (tgt := 99) hx hb dX1_pack_95 (by decide) ?_
                  refine lv_istore (lv' := [(7, .int (nI (ndN lo.toInt64))), (5, .long (bo lo hi)), (4, .int 1), (0, .ref h), (1, .int 8), (2, .int lo), (3, .int hi)]) hx hb dX1_pack_99 hl (by decide) rfl (fun ls hl => ?_)
                  refine lv_iload_n hx hb dX1_pack_101 rfl (lv_at hl 4 rfl) ?_
                  refine lv_tableIn (tgt := 309) hx hb dX1_pack_102 (by decide) (by decide) rfl (by decide) ?_
                  refine lv_iload_n hx hb dX1_pack_309 rfl (lv_at hl 5 rfl) ?_
                  refine lv_bipush (v := 32) hx hb dX1_pack_310 (by decide) ?_
                  refine lv_icmp_ge (tgt := 330) hx hb dX1_pack_312 (by decide) (fun c_15 => ?_) (fun c_15 => ?_)
                  · skip
                    refine lv_aload_n hx hb dX1_pack_330 rfl (lv_at hl 3 rfl) ?_
                    refine lv_sipush (v := 217) hx hb dX1_pack_331 (by decide) ?_
                    refine lv_iload hx hb dX1_pack_334 (lv_at hl 0 rfl) ?_
                    refine gsi (As := [.int (nI (ndN lo.toInt64))]) (rest := [.int 217, .ref h]) ⟨hx, hb, hml, hown, hts⟩ (c_X1_log l dC dI tk tw _ (ndN lo.toInt64) (Nat.le_trans (ndN_le _) (by decide))) (va_cwS 1 hts gX1_pack_X1_log rfl rfl rfl (by decide +kernel) ⟨Nat.le_of_ble_eq_true rfl, Nat.le_of_ble_eq_true rfl⟩) hP hS hA hZ rfl hl.1 rfl (Nat.le_of_ble_eq_true rfl) dX1_pack_336 ⟨Nat.le_of_ble_eq_true rfl, Nat.le_of_ble_eq_true rfl⟩ (fun r_17 H locs hw_16 hP hS => ?_)
                    obtain rfl : r_17 = nI (lgN (ndN lo.toInt64)) := hw_16
                    refine lv_iadd hx hb dX1_pack_339 ?_
                    refine lv_iload hx hb dX1_pack_340 (lv_at hl 0 rfl) ?_
                    refine lv_iload_n hx hb dX1_pack_342 rfl (lv_at hl 5 rfl) ?_
                    refine lv_i2l hx hb dX1_pack_343 rfl ?_
                    refine lv_iconst (v := -1) hx hb dX1_pack_344 (by decide) ?_
                    have hT : pk8 lo hi = ((217 + (nI (lgN (ndN lo.toInt64)))), (ndN lo.toInt64), lo.toInt64, (-1)) := by unfold pk8; rw [if_pos c_15]
                    have hr9 : n8 + 1 + (ndN lo.toInt64) ≤ 4096 := by rw [hT, phL_n] at hr8; omega
                    refine gvi (As := [.int (217 + (nI (lgN (ndN lo.toInt64)))), .int (nI (ndN lo.toInt64)), .long lo.toInt64, .int (-1)]) (rest := []) ⟨hx, hb, hml, hown, hts⟩ (c_X1_packHead l dC dI tk tw h a b cI cJ _ f g zc zso znu zty zhd zpa zch zlk zlo zhi zlp zll zlv n8 (217 + (nI (lgN (ndN lo.toInt64)))) (ndN lo.toInt64) (ndN_le _) lo.toInt64 hr9) (cwV 4 hts gX1_pack_X1_packHead rfl rfl rfl (by decide +kernel) ⟨Nat.le_of_ble_eq_true rfl, Nat.le_of_ble_eq_true rfl⟩) hK hP hD hS hA hZ (q0 := 0) (ci := 1) rfl rfl rfl rfl hl.1 rfl (Nat.le_of_ble_eq_true rfl) dX1_pack_345 ⟨Nat.le_of_ble_eq_true rfl, Nat.le_of_ble_eq_true rfl⟩ (fun r_19 u_20 H locs hw_18 hP hD hS => ?_)
                    have hP : va_P (dC, dI) vwCl (w1 h a b cI cJ (apM (upd f n8 (217 + (nI (lgN (ndN lo.toInt64))))) (n8 + 1) lo.toInt64 (ndN lo.toInt64)) g 0 (nI (n8 + (1 + (ndN lo.toInt64)))) zc zso znu zty zhd zpa zch zlk zlo zhi zlp zll zlv) H := hP
                    have hD : va_D A (w1 h a b cI cJ (apM (upd f n8 (217 + (nI (lgN (ndN lo.toInt64))))) (n8 + 1) lo.toInt64 (ndN lo.toInt64)) g 0 (nI (n8 + (1 + (ndN lo.toInt64)))) zc zso znu zty zhd zpa zch zlk zlo zhi zlp zll zlv) := hD
                    obtain rfl : r_19 = nI (1 + (ndN lo.toInt64)) := hw_18
                    have hP9 : va_P (dC, dI) vwCl ((fun (_ : Unit) => w1 h a b cI cJ (phF f n8 (pk8 lo hi)) g 0 (nI (n8 + phL (pk8 lo hi))) zc zso znu zty zhd zpa zch zlk zlo zhi zlp zll zlv) (())) H := by rw [hT, phL_n, phF_n]; exact hP
                    have hD9 : va_D A ((fun (_ : Unit) => w1 h a b cI cJ (phF f n8 (pk8 lo hi)) g 0 (nI (n8 + phL (pk8 lo hi))) zc zso znu zty zhd zpa zch zlk zlo zhi zlp zll zlv) (())) := by rw [hT, phL_n, phF_n]; exact hD
                    exact W.iret (v := nI (1 + (ndN lo.toInt64))) hx hb hr (fun t ht hW => ⟨⟨nI (1 + (ndN lo.toInt64)), (), rfl, (by rw [hT, phL_n]), by rw [ht]; exact hP9, va_K.moved hW.alike hK, hD9⟩, hS.F ht⟩) hS.2.2 dX1_pack_348
                  · skip
                    refine lv_aload_n hx hb dX1_pack_315 rfl (lv_at hl 3 rfl) ?_
                    refine lv_sipush (v := 160) hx hb dX1_pack_316 (by decide) ?_
                    refine lv_iload_n hx hb dX1_pack_319 rfl (lv_at hl 5 rfl) ?_
                    refine lv_iadd hx hb dX1_pack_320 ?_
                    refine lv_iconst (v := 0) hx hb dX1_pack_321 (by decide) ?_
                    refine lv_lconst (v := 0) hx hb dX1_pack_322 (by decide) ?_
                    refine lv_iconst (v := -1) hx hb dX1_pack_323 (by decide) ?_
                    have hT : pk8 lo hi = ((160 + lo), 0, 0, (-1)) := by unfold pk8; rw [if_neg c_15]
                    have hr9 : n8 + 1 + 0 ≤ 4096 := by rw [hT, phL_n] at hr8; omega
                    refine gvi (As := [.int (160 + lo), .int 0, .long 0, .int (-1)]) (rest := []) ⟨hx, hb, hml, hown, hts⟩ (c_X1_packHead l dC dI tk tw h a b cI cJ _ f g zc zso znu zty zhd zpa zch zlk zlo zhi zlp zll zlv n8 (160 + lo) 0 (by decide) 0 hr9) (cwV 4 hts gX1_pack_X1_packHead rfl rfl rfl (by decide +kernel) ⟨Nat.le_of_ble_eq_true rfl, Nat.le_of_ble_eq_true rfl⟩) hK hP hD hS hA hZ (q0 := 0) (ci := 1) rfl rfl rfl rfl hl.1 rfl (Nat.le_of_ble_eq_true rfl) dX1_pack_324 ⟨Nat.le_of_ble_eq_true rfl, Nat.le_of_ble_eq_true rfl⟩ (fun r_22 u_23 H locs hw_21 hP hD hS => ?_)
                    have hP : va_P (dC, dI) vwCl (w1 h a b cI cJ (apM (upd f n8 (160 + lo)) (n8 + 1) 0 0) g 0 (nI (n8 + (1 + 0))) zc zso znu zty zhd zpa zch zlk zlo zhi zlp zll zlv) H := hP
                    have hD : va_D A (w1 h a b cI cJ (apM (upd f n8 (160 + lo)) (n8 + 1) 0 0) g 0 (nI (n8 + (1 + 0))) zc zso znu zty zhd zpa zch zlk zlo zhi zlp zll zlv) := hD
                    obtain rfl : r_22 = nI (1 + 0) := hw_21
                    refine lv_goto (tgt := 348) hx hb dX1_pack_327 (by decide) ?_
                    have hP9 : va_P (dC, dI) vwCl ((fun (_ : Unit) => w1 h a b cI cJ (phF f n8 (pk8 lo hi)) g 0 (nI (n8 + phL (pk8 lo hi))) zc zso znu zty zhd zpa zch zlk zlo zhi zlp zll zlv) (())) H := by rw [hT, phL_n, phF_n]; exact hP
                    have hD9 : va_D A ((fun (_ : Unit) => w1 h a b cI cJ (phF f n8 (pk8 lo hi)) g 0 (nI (n8 + phL (pk8 lo hi))) zc zso znu zty zhd zpa zch zlk zlo zhi zlp zll zlv) (())) := by rw [hT, phL_n, phF_n]; exact hD
                    exact W.iret (v := nI (1 + 0)) hx hb hr (fun t ht hW => ⟨⟨nI (1 + 0), (), rfl, (by rw [hT, phL_n]), by rw [ht]; exact hP9, va_K.moved hW.alike hK, hD9⟩, hS.F ht⟩) hS.2.2 dX1_pack_348
              · skip
                exact absurd (by decide) c_10
            · skip
              exact absurd c_6 (by decide)
          · skip
            exact absurd c_5 (by decide)
set_option maxHeartbeats 4000000 in
set_option maxRecDepth 100000 in
theorem c_X1_pack_8f (l : Launch) (dC : Nat → ClassId) (dI : Nat → Nat → Nat) (tk tw : Nat) (h a b : Nat) (cI cJ : ClassId) (sz : Nat) (f : Nat → Int32) (g : Nat → Int64) (zt : Int32) (zc : Int32) (zso : Int32) (znu : Int64) (zty : Int32) (zhd : Int32) (zpa : Int64) (zch : Int64) (zlk : Int32) (zlo : Int32) (zhi : Int32) (zlp : Int32) (zll : Int32) (zlv : Int32) (n8 : Nat) (hn8 : n8 ≤ 4096) (lo hi : Int32) (h8 : ¬ lo < 0) (hr8 : 4096 < n8 + phL (pk8 lo hi)) : Met l yX1_pack wsX1_pack ({ frames := 2, cells := 0, slots := 0, locals := 49 }) (va_Pc [.ref h, .int 8, .int lo, .int hi] (pr dC dI (t1 cI cJ) (w1 h a b cI cJ f g zt (nI n8) zc zso znu zty zhd zpa zch zlk zlo zhi zlp zll zlv) sz tk tw)) (va_Qi (fun (r : Int32) (_ : Unit) => True) (fun (_ : Unit) => po dC dI (t1 cI cJ) (va_A (w1 h a b cI cJ f g zt (nI n8) zc zso znu zty zhd zpa zch zlk zlo zhi zlp zll zlv) sz) (w1 h a b cI cJ f g 2 (nI n8) zc zso znu zty zhd zpa zch zlk zlo zhi zlp zll zlv)) (va_A (w1 h a b cI cJ f g zt (nI n8) zc zso znu zty zhd zpa zch zlk zlo zhi zlp zll zlv) sz)) 0 0 (va_A (w1 h a b cI cJ f g zt (nI n8) zc zso znu zty zhd zpa zch zlk zlo zhi zlp zll zlv) sz) := by
  refine Met.ofW (cc := cX1_pack) (maxL := 11) (ret := (some .int)) (by decide) rfl ?_
  intro p e s m args below meth c s₁ Bd hml hv
  obtain ⟨rfl, hsz, hP, hK, hD0, hZ⟩ := hv
  have hx := Bd.exec
  have hb := Bd.bytes
  have hr := Bd.returns
  have hts := atoms_spec (ws := wsX1_pack) Bd.pre
  have hown : s.vm.findClass RX1 = some m.cls := findClass_of_methodNamed Bd.named
  have hlocks := Bd.notSynchronized
  subst hsz
  have hD := hD0.self (sz := s.heap.size)
  generalize hAe : va_A (w1 h a b cI cJ f g zt (nI n8) zc zso znu zty zhd zpa zch zlk zlo zhi zlp zll zlv) s.heap.size = A at hD hZ ⊢
  have hA : ∀ q : Nat, s.heap.size ≤ q → A q := fun q h => by rw [← hAe]; exact Or.inr h
  have hS : va_S A s.heap s.heap [] := va_S.rf
  have hP : va_P (dC, dI) vwCl (w1 h a b cI cJ f g zt (nI n8) zc zso znu zty zhd zpa zch zlk zlo zhi zlp zll zlv) s.heap := hP
  have hin0 : ∀ w ∈ wsX10, w ∈ wsX1_pack := by decide +kernel
  have fl21 := hts (.fieldLink RX1 21 "MessageReaderModel" "thrown" "I") (by decide +kernel)
  have hl := lv_entry ([.ref h, .int 8, .int lo, .int hi]) (n := 11) (Nat.le_of_ble_eq_true rfl)
  rw [lg_entry_eq]
  generalize (lg_sl ([.ref h, .int 8, .int lo, .int hi]) ++ List.replicate (11 - (lg_sl ([.ref h, .int 8, .int lo, .int hi])).length) Slot.unset).toArray = ls at hl ⊢
  have hl : lv_has ls 11 [(0, .ref h), (1, .int 8), (2, .int lo), (3, .int hi)] := hl
  refine lv_aload_n hx hb dX1_pack_0 rfl (lv_at hl 0 rfl) ?_
  refine lv_iconst (v := 0) hx hb dX1_pack_1 (by decide) ?_
  refine va_put (D := (dC, dI)) (ci := 1) (v := .int 0) (ty := .int) (C := RX1) (T := TX1) (N := 17) hx hb hts hin0 tyX1 tyX1_ok nmX1 hown hK hP hD hS 0 rfl rfl 0 (by decide) fl21 (fun _ h9 => h9) rfl (by decide +kernel) rfl rfl (Nat.le_of_ble_eq_true rfl) dX1_pack_2 (fun H locs hP hD hS => ?_)
  have hP : va_P (dC, dI) vwCl (w1 h a b cI cJ f g 0 (nI n8) zc zso znu zty zhd zpa zch zlk zlo zhi zlp zll zlv) H := hP
  have hD : va_D A (w1 h a b cI cJ f g 0 (nI n8) zc zso znu zty zhd zpa zch zlk zlo zhi zlp zll zlv) := hD
  refine lv_iload_n hx hb dX1_pack_5 rfl (lv_at hl 1 rfl) ?_
  refine lv_if_le (tgt := 47) hx hb dX1_pack_6 (by decide) (fun c_1 => ?_) (fun c_1 => ?_)
  · skip
    exact absurd c_1 (by decide)
  · skip
    refine lv_iload_n hx hb dX1_pack_9 rfl (lv_at hl 1 rfl) ?_
    refine lv_bipush (v := 13) hx hb dX1_pack_10 (by decide) ?_
    refine lv_icmp_ge (tgt := 47) hx hb dX1_pack_12 (by decide) (fun c_2 => ?_) (fun c_2 => ?_)
    · skip
      exact absurd c_2 (by decide)
    · skip
      refine lv_iload_n hx hb dX1_pack_15 rfl (lv_at hl 1 rfl) ?_
      refine lv_bipush (v := 8) hx hb dX1_pack_16 (by decide) ?_
      refine lv_icmp_lt (tgt := 25) hx hb dX1_pack_18 (by decide) (fun c_3 => ?_) (fun c_3 => ?_)
      · skip
        exact absurd c_3 (by decide)
      · skip
        refine lv_iload_n hx hb dX1_pack_21 rfl (lv_at hl 2 rfl) ?_
        refine lv_if_lt (tgt := 47) hx hb dX1_pack_22 (by decide) (fun c_4 => ?_) (fun c_4 => ?_)
        · skip
          exact absurd c_4 h8
        · skip
          refine lv_iload_n hx hb dX1_pack_25 rfl (lv_at hl 1 rfl) ?_
          refine lv_bipush (v := 12) hx hb dX1_pack_26 (by decide) ?_
          refine lv_icmp_ne (tgt := 43) hx hb dX1_pack_28 (by decide) (fun c_5 => ?_) (fun c_5 => ?_)
          · skip
            refine lv_iconst (v := 1) hx hb dX1_pack_43 (by decide) ?_
            refine lv_goto (tgt := 48) hx hb dX1_pack_44 (by decide) ?_
            refine lv_istore (lv' := [(4, .int 1), (0, .ref h), (1, .int 8), (2, .int lo), (3, .int hi)]) hx hb dX1_pack_48 hl (by decide) rfl (fun ls hl => ?_)
            refine lv_aload_n hx hb dX1_pack_50 rfl (lv_at hl 1 rfl) ?_
            refine lv_iload hx hb dX1_pack_51 (lv_at hl 0 rfl) ?_
            refine lv_if_ne (tgt := 60) hx hb dX1_pack_53 (by decide) (fun c_6 => ?_) (fun c_6 => ?_)
            · skip
              refine lv_iconst (v := 0) hx hb dX1_pack_60 (by decide) ?_
              refine lv_iconst (v := 1) hx hb dX1_pack_61 (by decide) ?_
              refine gvi (As := [.int 0, .int 1]) (rest := []) ⟨hx, hb, hml, hown, hts⟩ (c_X1_fails l dC dI tk tw h a b cI cJ _ f g 0 (nI n8) zc zso znu zty zhd zpa zch zlk zlo zhi zlp zll zlv 0 1) (cwV 2 hts gX1_pack_X1_fails rfl rfl rfl (by decide +kernel) ⟨Nat.le_of_ble_eq_true rfl, Nat.le_of_ble_eq_true rfl⟩) hK hP hD hS hA hZ (q0 := 0) (ci := 1) rfl rfl rfl rfl hl.1 rfl (Nat.le_of_ble_eq_true rfl) dX1_pack_62 ⟨Nat.le_of_ble_eq_true rfl, Nat.le_of_ble_eq_true rfl⟩ (fun r_8 u_9 H locs hw_7 hP hD hS => ?_)
              obtain rfl : u_9 = 0 := hw_7.1.trans (by decide)
              have hP : va_P (dC, dI) vwCl (w1 h a b cI cJ f g 0 (nI n8) zc zso znu zty zhd zpa zch zlk zlo zhi zlp zll zlv) H := hP
              have hD : va_D A (w1 h a b cI cJ f g 0 (nI n8) zc zso znu zty zhd zpa zch zlk zlo zhi zlp zll zlv) := hD
              obtain rfl : r_8 = 0 := hw_7.2.trans (by decide)
              refine lv_if_eq (tgt := 70) hx hb dX1_pack_65 (by decide) (fun c_10 => ?_) (fun c_10 => ?_)
              · skip
                refine lv_iload_n hx hb dX1_pack_70 rfl (lv_at hl 4 rfl) ?_
                refine lv_i2l hx hb dX1_pack_71 rfl ?_
                refine lv_bipush (v := 32) hx hb dX1_pack_72 (by decide) ?_
                refine lv_lshl hx hb dX1_pack_74 rfl ?_
                refine lv_iload_n hx hb dX1_pack_75 rfl (lv_at hl 3 rfl) ?_
                refine lv_i2l hx hb dX1_pack_76 rfl ?_
                refine lv_ldc2 (v := 4294967295) hx hb hown (hts (.constantLong RX1 118 (4294967295)) (by decide +kernel)) dX1_pack_77 ?_
                refine lv_land hx hb dX1_pack_80 ?_
                refine lv_lor hx hb dX1_pack_81 ?_
                have e_11 : ((hi.toInt64 <<< ((32 : Int32).toInt64 &&& 63)) ||| (lo.toInt64 &&& 4294967295) : Int64) = bo lo hi := rfl
                rw [e_11]
                refine lv_lstore (lv' := [(5, .long (bo lo hi)), (4, .int 1), (0, .ref h), (1, .int 8), (2, .int lo), (3, .int hi)]) hx hb dX1_pack_82 hl (by decide) rfl (fun ls hl => ?_)
                refine lv_iload_n hx hb dX1_pack_84 rfl (lv_at hl 3 rfl) ?_
                refine lv_bipush (v := 7) hx hb dX1_pack_85 (by decide) ?_
                refine lv_icmp_le (tgt := 98) hx hb dX1_pack_87 (by decide) (fun c_12 => ?_) (fun c_12 => ?_)
                · skip
                  exact absurd c_12 (by decide)
                · skip
                  refine lv_iload_n hx hb dX1_pack_90 rfl (lv_at hl 4 rfl) ?_
                  refine lv_i2l hx hb dX1_pack_91 rfl ?_
                  refine gsi (As := [.long lo.toInt64]) (rest := []) ⟨hx, hb, hml, hown, hts⟩ (c_X1_needs l dC dI tk tw _ lo.toInt64) (va_cwS 1 hts gX1_pack_X1_needs rfl rfl rfl (by decide +kernel) ⟨Nat.le_of_ble_eq_true rfl, Nat.le_of_ble_eq_true rfl⟩) hP hS hA hZ rfl hl.1 rfl (Nat.le_of_ble_eq_true rfl) dX1_pack_92 ⟨Nat.le_of_ble_eq_true rfl, Nat.le_of_ble_eq_true rfl⟩ (fun r_14 H locs hw_13 hP hS => ?_)
                  obtain rfl : r_14 = nI (ndN lo.toInt64) := hw_13
                  refine lv_goto (tgt := 99) hx hb dX1_pack_95 (by decide) ?_
                  refine lv_istore (lv' := [(7, .int (nI (ndN lo.toInt64))), (5, .long (bo lo hi)), (4, .int 1), (0, .ref h), (1, .int 8), (2, .int lo), (3, .int hi)]) hx hb dX1_pack_99 hl (by decide) rfl (fun ls hl => ?_)
                  refine lv_iload_n hx hb dX1_pack_101 rfl (lv_at hl 4 rfl) ?_
                  refine lv_tableIn (tgt := 309) hx hb dX1_pack_102 (by decide) (by decide) rfl (by decide) ?_
                  refine lv_iload_n hx hb dX1_pack_309 rfl (lv_at hl 5 rfl) ?_
                  refine lv_bipush (v := 32) hx hb dX1_pack_310 (by decide) ?_
                  refine lv_icmp_ge (tgt := 330) hx hb dX1_pack_312 (by decide) (fun c_15 => ?_) (fun c_15 => ?_)
                  · skip
                    refine lv_aload_n hx hb dX1_pack_330 rfl (lv_at hl 3 rfl) ?_
                    refine lv_sipush (v := 217) hx hb dX1_pack_331 (by decide) ?_
                    refine lv_iload hx hb dX1_pack_334 (lv_at hl 0 rfl) ?_
                    refine gsi (As := [.int (nI (ndN lo.toInt64))]) (rest := [.int 217, .ref h]) ⟨hx, hb, hml, hown, hts⟩ (c_X1_log l dC dI tk tw _ (ndN lo.toInt64) (Nat.le_trans (ndN_le _) (by decide))) (va_cwS 1 hts gX1_pack_X1_log rfl rfl rfl (by decide +kernel) ⟨Nat.le_of_ble_eq_true rfl, Nat.le_of_ble_eq_true rfl⟩) hP hS hA hZ rfl hl.1 rfl (Nat.le_of_ble_eq_true rfl) dX1_pack_336 ⟨Nat.le_of_ble_eq_true rfl, Nat.le_of_ble_eq_true rfl⟩ (fun r_17 H locs hw_16 hP hS => ?_)
                    obtain rfl : r_17 = nI (lgN (ndN lo.toInt64)) := hw_16
                    refine lv_iadd hx hb dX1_pack_339 ?_
                    refine lv_iload hx hb dX1_pack_340 (lv_at hl 0 rfl) ?_
                    refine lv_iload_n hx hb dX1_pack_342 rfl (lv_at hl 5 rfl) ?_
                    refine lv_i2l hx hb dX1_pack_343 rfl ?_
                    refine lv_iconst (v := -1) hx hb dX1_pack_344 (by decide) ?_
                    have hT : pk8 lo hi = ((217 + (nI (lgN (ndN lo.toInt64)))), (ndN lo.toInt64), lo.toInt64, (-1)) := by unfold pk8; rw [if_pos c_15]
                    have hr9 : 4096 < n8 + 1 + (ndN lo.toInt64) := by rw [hT, phL_n] at hr8; omega
                    refine gvi (As := [.int (217 + (nI (lgN (ndN lo.toInt64)))), .int (nI (ndN lo.toInt64)), .long lo.toInt64, .int (-1)]) (rest := []) ⟨hx, hb, hml, hown, hts⟩ (c_X1_packHead_f l dC dI tk tw h a b cI cJ _ f g zc zso znu zty zhd zpa zch zlk zlo zhi zlp zll zlv n8 hn8 (217 + (nI (lgN (ndN lo.toInt64)))) (ndN lo.toInt64) (ndN_le _) lo.toInt64 hr9) (cwV 4 hts gX1_pack_X1_packHead rfl rfl rfl (by decide +kernel) ⟨Nat.le_of_ble_eq_true rfl, Nat.le_of_ble_eq_true rfl⟩) hK hP hD hS hA hZ (q0 := 0) (ci := 1) rfl rfl rfl rfl hl.1 rfl (Nat.le_of_ble_eq_true rfl) dX1_pack_345 ⟨Nat.le_of_ble_eq_true rfl, Nat.le_of_ble_eq_true rfl⟩ (fun r_19 u_20 H locs hw_18 hP hD hS => ?_)
                    have hP : va_P (dC, dI) vwCl (w1 h a b cI cJ f g 2 (nI n8) zc zso znu zty zhd zpa zch zlk zlo zhi zlp zll zlv) H := hP
                    have hD : va_D A (w1 h a b cI cJ f g 2 (nI n8) zc zso znu zty zhd zpa zch zlk zlo zhi zlp zll zlv) := hD
                    have hP9 : va_P (dC, dI) vwCl ((fun (_ : Unit) => w1 h a b cI cJ f g 2 (nI n8) zc zso znu zty zhd zpa zch zlk zlo zhi zlp zll zlv) (())) H := hP
                    have hD9 : va_D A ((fun (_ : Unit) => w1 h a b cI cJ f g 2 (nI n8) zc zso znu zty zhd zpa zch zlk zlo zhi zlp zll zlv) (())) := hD
                    exact W.iret (v := r_19) hx hb hr (fun t ht hW => ⟨⟨r_19, (), rfl, trivial, by rw [ht]; exact hP9, va_K.moved hW.alike hK, hD9⟩, hS.F ht⟩) hS.2.2 dX1_pack_348
                  · skip
                    refine lv_aload_n hx hb dX1_pack_315 rfl (lv_at hl 3 rfl) ?_
                    refine lv_sipush (v := 160) hx hb dX1_pack_316 (by decide) ?_
                    refine lv_iload_n hx hb dX1_pack_319 rfl (lv_at hl 5 rfl) ?_
                    refine lv_iadd hx hb dX1_pack_320 ?_
                    refine lv_iconst (v := 0) hx hb dX1_pack_321 (by decide) ?_
                    refine lv_lconst (v := 0) hx hb dX1_pack_322 (by decide) ?_
                    refine lv_iconst (v := -1) hx hb dX1_pack_323 (by decide) ?_
                    have hT : pk8 lo hi = ((160 + lo), 0, 0, (-1)) := by unfold pk8; rw [if_neg c_15]
                    have hr9 : 4096 < n8 + 1 + 0 := by rw [hT, phL_n] at hr8; omega
                    refine gvi (As := [.int (160 + lo), .int 0, .long 0, .int (-1)]) (rest := []) ⟨hx, hb, hml, hown, hts⟩ (c_X1_packHead_f l dC dI tk tw h a b cI cJ _ f g zc zso znu zty zhd zpa zch zlk zlo zhi zlp zll zlv n8 hn8 (160 + lo) 0 (by decide) 0 hr9) (cwV 4 hts gX1_pack_X1_packHead rfl rfl rfl (by decide +kernel) ⟨Nat.le_of_ble_eq_true rfl, Nat.le_of_ble_eq_true rfl⟩) hK hP hD hS hA hZ (q0 := 0) (ci := 1) rfl rfl rfl rfl hl.1 rfl (Nat.le_of_ble_eq_true rfl) dX1_pack_324 ⟨Nat.le_of_ble_eq_true rfl, Nat.le_of_ble_eq_true rfl⟩ (fun r_22 u_23 H locs hw_21 hP hD hS => ?_)
                    have hP : va_P (dC, dI) vwCl (w1 h a b cI cJ f g 2 (nI n8) zc zso znu zty zhd zpa zch zlk zlo zhi zlp zll zlv) H := hP
                    have hD : va_D A (w1 h a b cI cJ f g 2 (nI n8) zc zso znu zty zhd zpa zch zlk zlo zhi zlp zll zlv) := hD
                    refine lv_goto (tgt := 348) hx hb dX1_pack_327 (by decide) ?_
                    have hP9 : va_P (dC, dI) vwCl ((fun (_ : Unit) => w1 h a b cI cJ f g 2 (nI n8) zc zso znu zty zhd zpa zch zlk zlo zhi zlp zll zlv) (())) H := hP
                    have hD9 : va_D A ((fun (_ : Unit) => w1 h a b cI cJ f g 2 (nI n8) zc zso znu zty zhd zpa zch zlk zlo zhi zlp zll zlv) (())) := hD
                    exact W.iret (v := r_22) hx hb hr (fun t ht hW => ⟨⟨r_22, (), rfl, trivial, by rw [ht]; exact hP9, va_K.moved hW.alike hK, hD9⟩, hS.F ht⟩) hS.2.2 dX1_pack_348
              · skip
                exact absurd (by decide) c_10
            · skip
              exact absurd c_6 (by decide)
          · skip
            exact absurd c_5 (by decide)
