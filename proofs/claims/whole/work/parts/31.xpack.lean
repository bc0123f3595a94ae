set_option maxHeartbeats 4000000 in
set_option maxRecDepth 100000 in
theorem c_X0_pack (l : Launch) (dC : Nat → ClassId) (dI : Nat → Nat → Nat) (tk tw : Nat) (h a b : Nat) (cB cJ : ClassId) (sz : Nat) (f : Nat → Int32) (g : Nat → Int64) (zc : Int32) (zg : Int32) (zo : Int32) (n8 : Nat) (k9 lo hi : Int32) (hk1 : ¬ k9 < 1) (hk2 : k9 ≤ 12) (h8 : ¬ k9 < 8 → ¬ lo < 0) (h12 : k9 = 12 → ¬ hi < -128 ∧ ¬ 127 < hi) (b9 : Nat) (hb9 : b9 < 256) (hs9 : sF k9 (nO k9 lo hi) = nI b9) (hr9 : n8 + hd b9 ≤ 4096) : Met l yX0_pack wsX0_pack ({ frames := 3, cells := 0, slots := 0, locals := 65 }) (va_Pc [.ref h, .int k9, .int lo, .int hi] (pr dC dI (t0 cB cJ) (w0 h a b cB cJ f g (nI n8) zc zg zo) sz tk tw)) (va_Qi (fun (r : Int32) (_ : Unit) => r = nI (hd b9)) (fun (_ : Unit) => po dC dI (t0 cB cJ) (va_A (w0 h a b cB cJ f g (nI n8) zc zg zo) sz) (w0 h a b cB cJ (apR (apR (apR f n8 (nI b9).toInt64 1) (n8 + 1) (nO k9 lo hi) (wd b9)) (n8 + 1 + wd b9) hi.toInt64 (tW b9)) g (nI (n8 + hd b9)) zc zg zo)) (va_A (w0 h a b cB cJ f g (nI n8) zc zg zo) sz)) 0 0 (va_A (w0 h a b cB cJ f g (nI n8) zc zg zo) sz) := by
  refine Met.ofW (cc := cX0_pack) (maxL := 8) (ret := (some .int)) (by decide) rfl ?_
  intro p e s m args below meth c s₁ Bd hml hv
  obtain ⟨rfl, hsz, hP, hK, hD0, hZ⟩ := hv
  have hx := Bd.exec
  have hb := Bd.bytes
  have hr := Bd.returns
  have hts := atoms_spec (ws := wsX0_pack) Bd.pre
  have hown : s.vm.findClass RX0 = some m.cls := findClass_of_methodNamed Bd.named
  have hlocks := Bd.notSynchronized
  subst hsz
  have hD := hD0.self (sz := s.heap.size)
  generalize hAe : va_A (w0 h a b cB cJ f g (nI n8) zc zg zo) s.heap.size = A at hD hZ ⊢
  have hA : ∀ q : Nat, s.heap.size ≤ q → A q := fun q h => by rw [← hAe]; exact Or.inr h
  have hS : va_S A s.heap s.heap [] := va_S.rf
  have hP : va_P (dC, dI) vwCl (w0 h a b cB cJ f g (nI n8) zc zg zo) s.heap := hP
  have hl := lv_entry ([.ref h, .int k9, .int lo, .int hi]) (n := 8) (Nat.le_of_ble_eq_true rfl)
  rw [lg_entry_eq]
  generalize (lg_sl ([.ref h, .int k9, .int lo, .int hi]) ++ List.replicate (8 - (lg_sl ([.ref h, .int k9, .int lo, .int hi])).length) Slot.unset).toArray = ls at hl ⊢
  have hl : lv_has ls 8 [(0, .ref h), (1, .int k9), (2, .int lo), (3, .int hi)] := hl
  refine lv_iload_n hx hb dX0_pack_0 rfl (lv_at hl 1 rfl) ?_
  refine lv_iconst (v := 1) hx hb dX0_pack_1 (by decide) ?_
  refine lv_icmp_lt (tgt := 11) hx hb dX0_pack_2 (by decide) (fun c_1 => ?_) (fun c_1 => ?_)
  · skip
    exact absurd c_1 hk1
  · skip
    refine lv_iload_n hx hb dX0_pack_5 rfl (lv_at hl 1 rfl) ?_
    refine lv_bipush (v := 12) hx hb dX0_pack_6 (by decide) ?_
    refine lv_icmp_le (tgt := 21) hx hb dX0_pack_8 (by decide) (fun c_2 => ?_) (fun c_2 => ?_)
    · skip
      refine lv_iload_n hx hb dX0_pack_21 rfl (lv_at hl 1 rfl) ?_
      refine lv_bipush (v := 8) hx hb dX0_pack_22 (by decide) ?_
      refine lv_icmp_lt (tgt := 41) hx hb dX0_pack_24 (by decide) (fun c_3 => ?_) (fun c_3 => ?_)
      · skip
        refine lv_iload_n hx hb dX0_pack_41 rfl (lv_at hl 1 rfl) ?_
        refine lv_bipush (v := 12) hx hb dX0_pack_42 (by decide) ?_
        refine lv_icmp_ne (tgt := 69) hx hb dX0_pack_44 (by decide) (fun c_4 => ?_) (fun c_4 => ?_)
        · skip
          refine lv_iload_n hx hb dX0_pack_69 rfl (lv_at hl 1 rfl) ?_
          refine lv_iload_n hx hb dX0_pack_70 rfl (lv_at hl 2 rfl) ?_
          refine lv_iload_n hx hb dX0_pack_71 rfl (lv_at hl 3 rfl) ?_
          refine gsl (As := [.int k9, .int lo, .int hi]) (rest := []) ⟨hx, hb, hml, hown, hts⟩ (c_X0_numberOf l dC dI tk tw _ k9 lo hi) (va_cwS 3 hts gX0_pack_X0_numberOf rfl rfl rfl (by decide +kernel) ⟨Nat.le_of_ble_eq_true rfl, Nat.le_of_ble_eq_true rfl⟩) hP hS hA hZ rfl hl.1 rfl (Nat.le_of_ble_eq_true rfl) dX0_pack_72 ⟨Nat.le_of_ble_eq_true rfl, Nat.le_of_ble_eq_true rfl⟩ (fun r_6 H locs hw_5 hP hS => ?_)
          obtain rfl : r_6 = nO k9 lo hi := hw_5
          refine lv_lstore (lv' := [(4, .long (nO k9 lo hi)), (0, .ref h), (1, .int k9), (2, .int lo), (3, .int hi)]) hx hb dX0_pack_75 hl (by decide) rfl (fun ls hl => ?_)
          refine lv_iload_n hx hb dX0_pack_77 rfl (lv_at hl 2 rfl) ?_
          refine lv_lload hx hb dX0_pack_78 (lv_at hl 0 rfl) ?_
          refine gsi (As := [.int k9, .long (nO k9 lo hi)]) (rest := []) ⟨hx, hb, hml, hown, hts⟩ (c_X0_shortestForm l dC dI tk tw _ k9 (nO k9 lo hi)) (va_cwS 2 hts gX0_pack_X0_shortestForm rfl rfl rfl (by decide +kernel) ⟨Nat.le_of_ble_eq_true rfl, Nat.le_of_ble_eq_true rfl⟩) hP hS hA hZ rfl hl.1 rfl (Nat.le_of_ble_eq_true rfl) dX0_pack_80 ⟨Nat.le_of_ble_eq_true rfl, Nat.le_of_ble_eq_true rfl⟩ (fun r_8 H locs hw_7 hP hS => ?_)
          obtain rfl : r_8 = nI b9 := hw_7.trans hs9
          refine lv_istore (lv' := [(6, .int (nI b9)), (4, .long (nO k9 lo hi)), (0, .ref h), (1, .int k9), (2, .int lo), (3, .int hi)]) hx hb dX0_pack_83 hl (by decide) rfl (fun ls hl => ?_)
          refine lv_iload hx hb dX0_pack_85 (lv_at hl 0 rfl) ?_
          refine gsi (As := [.int (nI b9)]) (rest := []) ⟨hx, hb, hml, hown, hts⟩ (c_X0_headLength l dC dI tk tw _ b9 hb9) (va_cwS 1 hts gX0_pack_X0_headLength rfl rfl rfl (by decide +kernel) ⟨Nat.le_of_ble_eq_true rfl, Nat.le_of_ble_eq_true rfl⟩) hP hS hA hZ rfl hl.1 rfl (Nat.le_of_ble_eq_true rfl) dX0_pack_87 ⟨Nat.le_of_ble_eq_true rfl, Nat.le_of_ble_eq_true rfl⟩ (fun r_10 H locs hw_9 hP hS => ?_)
          obtain rfl : r_10 = nI (hd b9) := hw_9
          refine lv_istore (lv' := [(7, .int (nI (hd b9))), (6, .int (nI b9)), (4, .long (nO k9 lo hi)), (0, .ref h), (1, .int k9), (2, .int lo), (3, .int hi)]) hx hb dX0_pack_90 hl (by decide) rfl (fun ls hl => ?_)
          have q7 := hd_le b9 hb9
          have q8 : hd b9 = 1 + wd b9 + tW b9 := rfl
          refine lv_aload_n hx hb dX0_pack_92 rfl (lv_at hl 3 rfl) ?_
          refine lv_iload hx hb dX0_pack_93 (lv_at hl 0 rfl) ?_
          refine gvi (As := [.int (nI (hd b9))]) (rest := []) ⟨hx, hb, hml, hown, hts⟩ (c_X0_hasRoom l dC dI tk tw h a b cB cJ _ f g zc zg zo n8 (by omega) (hd b9) (by omega)) (cwV 1 hts gX0_pack_X0_hasRoom rfl rfl rfl (by decide +kernel) ⟨Nat.le_of_ble_eq_true rfl, Nat.le_of_ble_eq_true rfl⟩) hK hP hD hS hA hZ (q0 := 0) (ci := 0) rfl rfl rfl rfl hl.1 rfl (Nat.le_of_ble_eq_true rfl) dX0_pack_95 ⟨Nat.le_of_ble_eq_true rfl, Nat.le_of_ble_eq_true rfl⟩ (fun r_12 u_13 H locs hw_11 hP hD hS => ?_)
          obtain rfl : r_12 = 1 := hw_11.trans (if_pos hr9)
          refine lv_if_ne (tgt := 111) hx hb dX0_pack_98 (by decide) (fun c_14 => ?_) (fun c_14 => ?_)
          · skip
            refine lv_aload_n hx hb dX0_pack_111 rfl (lv_at hl 3 rfl) ?_
            refine lv_iload hx hb dX0_pack_112 (lv_at hl 1 rfl) ?_
            refine lv_i2l hx hb dX0_pack_114 rfl ?_
            refine lv_iconst (v := 1) hx hb dX0_pack_115 (by decide) ?_
            have e_17 : (1 : Int32) = nI 1 := rfl
            rw [e_17]
            refine gvv (As := [.long ((nI b9).toInt64), .int (nI 1)]) (rest := []) ⟨hx, hb, hml, hown, hts⟩ (c_X0_append l dC dI tk tw h a b cB cJ _ f g zc zg zo n8 1 (nI b9).toInt64 (by omega)) (cwV 2 hts gX0_pack_X0_append rfl rfl rfl (by decide +kernel) ⟨Nat.le_of_ble_eq_true rfl, Nat.le_of_ble_eq_true rfl⟩) hK hP hD hS hA hZ (q0 := 0) (ci := 0) rfl rfl rfl rfl hl.1 rfl (Nat.le_of_ble_eq_true rfl) dX0_pack_116 ⟨Nat.le_of_ble_eq_true rfl, Nat.le_of_ble_eq_true rfl⟩ (fun u_18 H locs hw_15 hP hD hS => ?_)
            have hP : va_P (dC, dI) vwCl (w0 h a b cB cJ (apR f n8 (nI b9).toInt64 1) g (nI (n8 + 1)) zc zg zo) H := hP
            have hD : va_D A (w0 h a b cB cJ (apR f n8 (nI b9).toInt64 1) g (nI (n8 + 1)) zc zg zo) := hD
            refine lv_aload_n hx hb dX0_pack_119 rfl (lv_at hl 3 rfl) ?_
            refine lv_lload hx hb dX0_pack_120 (lv_at hl 2 rfl) ?_
            refine lv_iload hx hb dX0_pack_122 (lv_at hl 1 rfl) ?_
            refine gsi (As := [.int (nI b9)]) (rest := [.long (nO k9 lo hi), .ref h]) ⟨hx, hb, hml, hown, hts⟩ (c_X0_width l dC dI tk tw _ b9 hb9) (va_cwS 1 hts gX0_pack_X0_width rfl rfl rfl (by decide +kernel) ⟨Nat.le_of_ble_eq_true rfl, Nat.le_of_ble_eq_true rfl⟩) hP hS hA hZ rfl hl.1 rfl (Nat.le_of_ble_eq_true rfl) dX0_pack_124 ⟨Nat.le_of_ble_eq_true rfl, Nat.le_of_ble_eq_true rfl⟩ (fun r_20 H locs hw_19 hP hS => ?_)
            obtain rfl : r_20 = nI (wd b9) := hw_19
            refine gvv (As := [.long (nO k9 lo hi), .int (nI (wd b9))]) (rest := []) ⟨hx, hb, hml, hown, hts⟩ (c_X0_append l dC dI tk tw h a b cB cJ _ (apR f n8 (nI b9).toInt64 1) g zc zg zo (n8 + 1) (wd b9) (nO k9 lo hi) (by omega)) (cwV 2 hts gX0_pack_X0_append rfl rfl rfl (by decide +kernel) ⟨Nat.le_of_ble_eq_true rfl, Nat.le_of_ble_eq_true rfl⟩) hK hP hD hS hA hZ (q0 := 0) (ci := 0) rfl rfl rfl rfl hl.1 rfl (Nat.le_of_ble_eq_true rfl) dX0_pack_127 ⟨Nat.le_of_ble_eq_true rfl, Nat.le_of_ble_eq_true rfl⟩ (fun u_23 H locs hw_21 hP hD hS => ?_)
            have hP : va_P (dC, dI) vwCl (w0 h a b cB cJ (apR (apR f n8 (nI b9).toInt64 1) (n8 + 1) (nO k9 lo hi) (wd b9)) g (nI (n8 + 1 + wd b9)) zc zg zo) H := hP
            have hD : va_D A (w0 h a b cB cJ (apR (apR f n8 (nI b9).toInt64 1) (n8 + 1) (nO k9 lo hi) (wd b9)) g (nI (n8 + 1 + wd b9)) zc zg zo) := hD
            refine lv_aload_n hx hb dX0_pack_130 rfl (lv_at hl 3 rfl) ?_
            refine lv_iload_n hx hb dX0_pack_131 rfl (lv_at hl 6 rfl) ?_
            refine lv_i2l hx hb dX0_pack_132 rfl ?_
            refine lv_iload hx hb dX0_pack_133 (lv_at hl 1 rfl) ?_
            refine gsi (As := [.int (nI b9)]) (rest := [.long hi.toInt64, .ref h]) ⟨hx, hb, hml, hown, hts⟩ (c_X0_typeWidth l dC dI tk tw _ b9 hb9) (va_cwS 1 hts gX0_pack_X0_typeWidth rfl rfl rfl (by decide +kernel) ⟨Nat.le_of_ble_eq_true rfl, Nat.le_of_ble_eq_true rfl⟩) hP hS hA hZ rfl hl.1 rfl (Nat.le_of_ble_eq_true rfl) dX0_pack_135 ⟨Nat.le_of_ble_eq_true rfl, Nat.le_of_ble_eq_true rfl⟩ (fun r_25 H locs hw_24 hP hS => ?_)
            obtain rfl : r_25 = nI (tW b9) := hw_24
            refine gvv (As := [.long hi.toInt64, .int (nI (tW b9))]) (rest := []) ⟨hx, hb, hml, hown, hts⟩ (c_X0_append l dC dI tk tw h a b cB cJ _ (apR (apR f n8 (nI b9).toInt64 1) (n8 + 1) (nO k9 lo hi) (wd b9)) g zc zg zo (n8 + 1 + wd b9) (tW b9) hi.toInt64 (by omega)) (cwV 2 hts gX0_pack_X0_append rfl rfl rfl (by decide +kernel) ⟨Nat.le_of_ble_eq_true rfl, Nat.le_of_ble_eq_true rfl⟩) hK hP hD hS hA hZ (q0 := 0) (ci := 0) rfl rfl rfl rfl hl.1 rfl (Nat.le_of_ble_eq_true rfl) dX0_pack_138 ⟨Nat.le_of_ble_eq_true rfl, Nat.le_of_ble_eq_true rfl⟩ (fun u_28 H locs hw_26 hP hD hS => ?_)
            have hP : va_P (dC, dI) vwCl (w0 h a b cB cJ (apR (apR (apR f n8 (nI b9).toInt64 1) (n8 + 1) (nO k9 lo hi) (wd b9)) (n8 + 1 + wd b9) hi.toInt64 (tW b9)) g (nI (n8 + 1 + wd b9 + tW b9)) zc zg zo) H := hP
            have hD : va_D A (w0 h a b cB cJ (apR (apR (apR f n8 (nI b9).toInt64 1) (n8 + 1) (nO k9 lo hi) (wd b9)) (n8 + 1 + wd b9) hi.toInt64 (tW b9)) g (nI (n8 + 1 + wd b9 + tW b9)) zc zg zo) := hD
            refine lv_iload hx hb dX0_pack_141 (lv_at hl 0 rfl) ?_
            have hP9 : va_P (dC, dI) vwCl ((fun (_ : Unit) => w0 h a b cB cJ (apR (apR (apR f n8 (nI b9).toInt64 1) (n8 + 1) (nO k9 lo hi) (wd b9)) (n8 + 1 + wd b9) hi.toInt64 (tW b9)) g (nI (n8 + hd b9)) zc zg zo) (())) H := by rw [show n8 + hd b9 = n8 + 1 + wd b9 + tW b9 by omega]; exact hP
            have hD9 : va_D A ((fun (_ : Unit) => w0 h a b cB cJ (apR (apR (apR f n8 (nI b9).toInt64 1) (n8 + 1) (nO k9 lo hi) (wd b9)) (n8 + 1 + wd b9) hi.toInt64 (tW b9)) g (nI (n8 + hd b9)) zc zg zo) (())) := by rw [show n8 + hd b9 = n8 + 1 + wd b9 + tW b9 by omega]; exact hD
            exact W.iret (v := nI (hd b9)) hx hb hr (fun t ht hW => ⟨⟨nI (hd b9), (), rfl, rfl, by rw [ht]; exact hP9, va_K.moved hW.alike hK, hD9⟩, hS.F ht⟩) hS.2.2 dX0_pack_143
          · skip
            exact absurd c_14 (by decide)
        · skip
          refine lv_iload_n hx hb dX0_pack_47 rfl (lv_at hl 3 rfl) ?_
          refine lv_bipush (v := -128) hx hb dX0_pack_48 (by decide) ?_
          refine lv_icmp_lt (tgt := 59) hx hb dX0_pack_50 (by decide) (fun c_29 => ?_) (fun c_29 => ?_)
          · skip
            exact absurd c_29 (h12 c_4).1
          · skip
            refine lv_iload_n hx hb dX0_pack_53 rfl (lv_at hl 3 rfl) ?_
            refine lv_bipush (v := 127) hx hb dX0_pack_54 (by decide) ?_
            refine lv_icmp_le (tgt := 69) hx hb dX0_pack_56 (by decide) (fun c_30 => ?_) (fun c_30 => ?_)
            · skip
              refine lv_iload_n hx hb dX0_pack_69 rfl (lv_at hl 1 rfl) ?_
              refine lv_iload_n hx hb dX0_pack_70 rfl (lv_at hl 2 rfl) ?_
              refine lv_iload_n hx hb dX0_pack_71 rfl (lv_at hl 3 rfl) ?_
              refine gsl (As := [.int k9, .int lo, .int hi]) (rest := []) ⟨hx, hb, hml, hown, hts⟩ (c_X0_numberOf l dC dI tk tw _ k9 lo hi) (va_cwS 3 hts gX0_pack_X0_numberOf rfl rfl rfl (by decide +kernel) ⟨Nat.le_of_ble_eq_true rfl, Nat.le_of_ble_eq_true rfl⟩) hP hS hA hZ rfl hl.1 rfl (Nat.le_of_ble_eq_true rfl) dX0_pack_72 ⟨Nat.le_of_ble_eq_true rfl, Nat.le_of_ble_eq_true rfl⟩ (fun r_32 H locs hw_31 hP hS => ?_)
              obtain rfl : r_32 = nO k9 lo hi := hw_31
              refine lv_lstore (lv' := [(4, .long (nO k9 lo hi)), (0, .ref h), (1, .int k9), (2, .int lo), (3, .int hi)]) hx hb dX0_pack_75 hl (by decide) rfl (fun ls hl => ?_)
              refine lv_iload_n hx hb dX0_pack_77 rfl (lv_at hl 2 rfl) ?_
              refine lv_lload hx hb dX0_pack_78 (lv_at hl 0 rfl) ?_
              refine gsi (As := [.int k9, .long (nO k9 lo hi)]) (rest := []) ⟨hx, hb, hml, hown, hts⟩ (c_X0_shortestForm l dC dI tk tw _ k9 (nO k9 lo hi)) (va_cwS 2 hts gX0_pack_X0_shortestForm rfl rfl rfl (by decide +kernel) ⟨Nat.le_of_ble_eq_true rfl, Nat.le_of_ble_eq_true rfl⟩) hP hS hA hZ rfl hl.1 rfl (Nat.le_of_ble_eq_true rfl) dX0_pack_80 ⟨Nat.le_of_ble_eq_true rfl, Nat.le_of_ble_eq_true rfl⟩ (fun r_34 H locs hw_33 hP hS => ?_)
              obtain rfl : r_34 = nI b9 := hw_33.trans hs9
              refine lv_istore (lv' := [(6, .int (nI b9)), (4, .long (nO k9 lo hi)), (0, .ref h), (1, .int k9), (2, .int lo), (3, .int hi)]) hx hb dX0_pack_83 hl (by decide) rfl (fun ls hl => ?_)
              refine lv_iload hx hb dX0_pack_85 (lv_at hl 0 rfl) ?_
              refine gsi (As := [.int (nI b9)]) (rest := []) ⟨hx, hb, hml, hown, hts⟩ (c_X0_headLength l dC dI tk tw _ b9 hb9) (va_cwS 1 hts gX0_pack_X0_headLength rfl rfl rfl (by decide +kernel) ⟨Nat.le_of_ble_eq_true rfl, Nat.le_of_ble_eq_true rfl⟩) hP hS hA hZ rfl hl.1 rfl (Nat.le_of_ble_eq_true rfl) dX0_pack_87 ⟨Nat.le_of_ble_eq_true rfl, Nat.le_of_ble_eq_true rfl⟩ (fun r_36 H locs hw_35 hP hS => ?_)
              obtain rfl : r_36 = nI (hd b9) := hw_35
              refine lv_istore (lv' := [(7, .int (nI (hd b9))), (6, .int (nI b9)), (4, .long (nO k9 lo hi)), (0, .ref h), (1, .int k9), (2, .int lo), (3, .int hi)]) hx hb dX0_pack_90 hl (by decide) rfl (fun ls hl => ?_)
              have q7 := hd_le b9 hb9
              have q8 : hd b9 = 1 + wd b9 + tW b9 := rfl
              refine lv_aload_n hx hb dX0_pack_92 rfl (lv_at hl 3 rfl) ?_
              refine lv_iload hx hb dX0_pack_93 (lv_at hl 0 rfl) ?_
              refine gvi (As := [.int (nI (hd b9))]) (rest := []) ⟨hx, hb, hml, hown, hts⟩ (c_X0_hasRoom l dC dI tk tw h a b cB cJ _ f g zc zg zo n8 (by omega) (hd b9) (by omega)) (cwV 1 hts gX0_pack_X0_hasRoom rfl rfl rfl (by decide +kernel) ⟨Nat.le_of_ble_eq_true rfl, Nat.le_of_ble_eq_true rfl⟩) hK hP hD hS hA hZ (q0 := 0) (ci := 0) rfl rfl rfl rfl hl.1 rfl (Nat.le_of_ble_eq_true rfl) dX0_pack_95 ⟨Nat.le_of_ble_eq_true rfl, Nat.le_of_ble_eq_true rfl⟩ (fun r_38 u_39 H locs hw_37 hP hD hS => ?_)
              obtain rfl : r_38 = 1 := hw_37.trans (if_pos hr9)
              refine lv_if_ne (tgt := 111) hx hb dX0_pack_98 (by decide) (fun c_40 => ?_) (fun c_40 => ?_)
              · skip
                refine lv_aload_n hx hb dX0_pack_111 rfl (lv_at hl 3 rfl) ?_
                refine lv_iload hx hb dX0_pack_112 (lv_at hl 1 rfl) ?_
                refine lv_i2l hx hb dX0_pack_114 rfl ?_
                refine lv_iconst (v := 1) hx hb dX0_pack_115 (by decide) ?_
                have e_43 : (1 : Int32) = nI 1 := rfl
                rw [e_43]
                refine gvv (As := [.long ((nI b9).toInt64), .int (nI 1)]) (rest := []) ⟨hx, hb, hml, hown, hts⟩ (c_X0_append l dC dI tk tw h a b cB cJ _ f g zc zg zo n8 1 (nI b9).toInt64 (by omega)) (cwV 2 hts gX0_pack_X0_append rfl rfl rfl (by decide +kernel) ⟨Nat.le_of_ble_eq_true rfl, Nat.le_of_ble_eq_true rfl⟩) hK hP hD hS hA hZ (q0 := 0) (ci := 0) rfl rfl rfl rfl hl.1 rfl (Nat.le_of_ble_eq_true rfl) dX0_pack_116 ⟨Nat.le_of_ble_eq_true rfl, Nat.le_of_ble_eq_true rfl⟩ (fun u_44 H locs hw_41 hP hD hS => ?_)
                have hP : va_P (dC, dI) vwCl (w0 h a b cB cJ (apR f n8 (nI b9).toInt64 1) g (nI (n8 + 1)) zc zg zo) H := hP
                have hD : va_D A (w0 h a b cB cJ (apR f n8 (nI b9).toInt64 1) g (nI (n8 + 1)) zc zg zo) := hD
                refine lv_aload_n hx hb dX0_pack_119 rfl (lv_at hl 3 rfl) ?_
                refine lv_lload hx hb dX0_pack_120 (lv_at hl 2 rfl) ?_
                refine lv_iload hx hb dX0_pack_122 (lv_at hl 1 rfl) ?_
                refine gsi (As := [.int (nI b9)]) (rest := [.long (nO k9 lo hi), .ref h]) ⟨hx, hb, hml, hown, hts⟩ (c_X0_width l dC dI tk tw _ b9 hb9) (va_cwS 1 hts gX0_pack_X0_width rfl rfl rfl (by decide +kernel) ⟨Nat.le_of_ble_eq_true rfl, Nat.le_of_ble_eq_true rfl⟩) hP hS hA hZ rfl hl.1 rfl (Nat.le_of_ble_eq_true rfl) dX0_pack_124 ⟨Nat.le_of_ble_eq_true rfl, Nat.le_of_ble_eq_true rfl⟩ (fun r_46 H locs hw_45 hP hS => ?_)
                obtain rfl : r_46 = nI (wd b9) := hw_45
                refine gvv (As := [.long (nO k9 lo hi), .int (nI (wd b9))]) (rest := []) ⟨hx, hb, hml, hown, hts⟩ (c_X0_append l dC dI tk tw h a b cB cJ _ (apR f n8 (nI b9).toInt64 1) g zc zg zo (n8 + 1) (wd b9) (nO k9 lo hi) (by omega)) (cwV 2 hts gX0_pack_X0_append rfl rfl rfl (by decide +kernel) ⟨Nat.le_of_ble_eq_true rfl, Nat.le_of_ble_eq_true rfl⟩) hK hP hD hS hA hZ (q0 := 0) (ci := 0) rfl rfl rfl rfl hl.1 rfl (Nat.le_of_ble_eq_true rfl) dX0_pack_127 ⟨Nat.le_of_ble_eq_true rfl, Nat.le_of_ble_eq_true rfl⟩ (fun u_49 H locs hw_47 hP hD hS => ?_)
                have hP : va_P (dC, dI) vwCl (w0 h a b cB cJ (apR (apR f n8 (nI b9).toInt64 1) (n8 + 1) (nO k9 lo hi) (wd b9)) g (nI (n8 + 1 + wd b9)) zc zg zo) H := hP
                have hD : va_D A (w0 h a b cB cJ (apR (apR f n8 (nI b9).toInt64 1) (n8 + 1) (nO k9 lo hi) (wd b9)) g (nI (n8 + 1 + wd b9)) zc zg zo) := hD
                refine lv_aload_n hx hb dX0_pack_130 rfl (lv_at hl 3 rfl) ?_
                refine lv_iload_n hx hb dX0_pack_131 rfl (lv_at hl 6 rfl) ?_
                refine lv_i2l hx hb dX0_pack_132 rfl ?_
                refine lv_iload hx hb dX0_pack_133 (lv_at hl 1 rfl) ?_
                refine gsi (As := [.int (nI b9)]) (rest := [.long hi.toInt64, .ref h]) ⟨hx, hb, hml, hown, hts⟩ (c_X0_typeWidth l dC dI tk tw _ b9 hb9) (va_cwS 1 hts gX0_pack_X0_typeWidth rfl rfl rfl (by decide +kernel) ⟨Nat.le_of_ble_eq_true rfl, Nat.le_of_ble_eq_true rfl⟩) hP hS hA hZ rfl hl.1 rfl (Nat.le_of_ble_eq_true rfl) dX0_pack_135 ⟨Nat.le_of_ble_eq_true rfl, Nat.le_of_ble_eq_true rfl⟩ (fun r_51 H locs hw_50 hP hS => ?_)
                obtain rfl : r_51 = nI (tW b9) := hw_50
                refine gvv (As := [.long hi.toInt64, .int (nI (tW b9))]) (rest := []) ⟨hx, hb, hml, hown, hts⟩ (c_X0_append l dC dI tk tw h a b cB cJ _ (apR (apR f n8 (nI b9).toInt64 1) (n8 + 1) (nO k9 lo hi) (wd b9)) g zc zg zo (n8 + 1 + wd b9) (tW b9) hi.toInt64 (by omega)) (cwV 2 hts gX0_pack_X0_append rfl rfl rfl (by decide +kernel) ⟨Nat.le_of_ble_eq_true rfl, Nat.le_of_ble_eq_true rfl⟩) hK hP hD hS hA hZ (q0 := 0) (ci := 0) rfl rfl rfl rfl hl.1 rfl (Nat.le_of_ble_eq_true rfl) dX0_pack_138 ⟨Nat.le_of_ble_eq_true rfl, Nat.le_of_ble_eq_true rfl⟩ (fun u_54 H locs hw_52 hP hD hS => ?_)
                have hP : va_P (dC, dI) vwCl (w0 h a b cB cJ (apR (apR (apR f n8 (nI b9).toInt64 1) (n8 + 1) (nO k9 lo hi) (wd b9)) (n8 + 1 + wd b9) hi.toInt64 (tW b9)) g (nI (n8 + 1 + wd b9 + tW b9)) zc zg zo) H := hP
                have hD : va_D A (w0 h a b cB cJ (apR (apR (apR f n8 (nI b9).toInt64 1) (n8 + 1) (nO k9 lo hi) (wd b9)) (n8 + 1 + wd b9) hi.toInt64 (tW b9)) g (nI (n8 + 1 + wd b9 + tW b9)) zc zg zo) := hD
                refine lv_iload hx hb dX0_pack_141 (lv_at hl 0 rfl) ?_
                have hP9 : va_P (dC, dI) vwCl ((fun (_ : Unit) => w0 h a b cB cJ (apR (apR (apR f n8 (nI b9).toInt64 1) (n8 + 1) (nO k9 lo hi) (wd b9)) (n8 + 1 + wd b9) hi.toInt64 (tW b9)) g (nI (n8 + hd b9)) zc zg zo) (())) H := by rw [show n8 + hd b9 = n8 + 1 + wd b9 + tW b9 by omega]; exact hP
                have hD9 : va_D A ((fun (_ : Unit) => w0 h a b cB cJ (apR (apR (apR f n8 (nI b9).toInt64 1) (n8 + 1) (nO k9 lo hi) (wd b9)) (n8 + 1 + wd b9) hi.toInt64 (tW b9)) g (nI (n8 + hd b9)) zc zg zo) (())) := by rw [show n8 + hd b9 = n8 + 1 + wd b9 + tW b9 by omega]; exact hD
                exact W.iret (v := nI (hd b9)) hx hb hr (fun t ht hW => ⟨⟨nI (hd b9), (), rfl, rfl, by rw [ht]; exact hP9, va_K.moved hW.alike hK, hD9⟩, hS.F ht⟩) hS.2.2 dX0_pack_143
              · skip
                exact absurd c_40 (by decide)
            · skip
              exact absurd (Int32.not_lt.mp (h12 c_4).2) c_30
      · skip
        refine lv_iload_n hx hb dX0_pack_27 rfl (lv_at hl 2 rfl) ?_
        refine lv_if_ge (tgt := 41) hx hb dX0_pack_28 (by decide) (fun c_55 => ?_) (fun c_55 => ?_)
        · skip
          refine lv_iload_n hx hb dX0_pack_41 rfl (lv_at hl 1 rfl) ?_
          refine lv_bipush (v := 12) hx hb dX0_pack_42 (by decide) ?_
          refine lv_icmp_ne (tgt := 69) hx hb dX0_pack_44 (by decide) (fun c_56 => ?_) (fun c_56 => ?_)
          · skip
            refine lv_iload_n hx hb dX0_pack_69 rfl (lv_at hl 1 rfl) ?_
            refine lv_iload_n hx hb dX0_pack_70 rfl (lv_at hl 2 rfl) ?_
            refine lv_iload_n hx hb dX0_pack_71 rfl (lv_at hl 3 rfl) ?_
            refine gsl (As := [.int k9, .int lo, .int hi]) (rest := []) ⟨hx, hb, hml, hown, hts⟩ (c_X0_numberOf l dC dI tk tw _ k9 lo hi) (va_cwS 3 hts gX0_pack_X0_numberOf rfl rfl rfl (by decide +kernel) ⟨Nat.le_of_ble_eq_true rfl, Nat.le_of_ble_eq_true rfl⟩) hP hS hA hZ rfl hl.1 rfl (Nat.le_of_ble_eq_true rfl) dX0_pack_72 ⟨Nat.le_of_ble_eq_true rfl, Nat.le_of_ble_eq_true rfl⟩ (fun r_58 H locs hw_57 hP hS => ?_)
            obtain rfl : r_58 = nO k9 lo hi := hw_57
            refine lv_lstore (lv' := [(4, .long (nO k9 lo hi)), (0, .ref h), (1, .int k9), (2, .int lo), (3, .int hi)]) hx hb dX0_pack_75 hl (by decide) rfl (fun ls hl => ?_)
            refine lv_iload_n hx hb dX0_pack_77 rfl (lv_at hl 2 rfl) ?_
            refine lv_lload hx hb dX0_pack_78 (lv_at hl 0 rfl) ?_
            refine gsi (As := [.int k9, .long (nO k9 lo hi)]) (rest := []) ⟨hx, hb, hml, hown, hts⟩ (c_X0_shortestForm l dC dI tk tw _ k9 (nO k9 lo hi)) (va_cwS 2 hts gX0_pack_X0_shortestForm rfl rfl rfl (by decide +kernel) ⟨Nat.le_of_ble_eq_true rfl, Nat.le_of_ble_eq_true rfl⟩) hP hS hA hZ rfl hl.1 rfl (Nat.le_of_ble_eq_true rfl) dX0_pack_80 ⟨Nat.le_of_ble_eq_true rfl, Nat.le_of_ble_eq_true rfl⟩ (fun r_60 H locs hw_59 hP hS => ?_)
            obtain rfl : r_60 = nI b9 := hw_59.trans hs9
            refine lv_istore (lv' := [(6, .int (nI b9)), (4, .long (nO k9 lo hi)), (0, .ref h), (1, .int k9), (2, .int lo), (3, .int hi)]) hx hb dX0_pack_83 hl (by decide) rfl (fun ls hl => ?_)
            refine lv_iload hx hb dX0_pack_85 (lv_at hl 0 rfl) ?_
            refine gsi (As := [.int (nI b9)]) (rest := []) ⟨hx, hb, hml, hown, hts⟩ (c_X0_headLength l dC dI tk tw _ b9 hb9) (va_cwS 1 hts gX0_pack_X0_headLength rfl rfl rfl (by decide +kernel) ⟨Nat.le_of_ble_eq_true rfl, Nat.le_of_ble_eq_true rfl⟩) hP hS hA hZ rfl hl.1 rfl (Nat.le_of_ble_eq_true rfl) dX0_pack_87 ⟨Nat.le_of_ble_eq_true rfl, Nat.le_of_ble_eq_true rfl⟩ (fun r_62 H locs hw_61 hP hS => ?_)
            obtain rfl : r_62 = nI (hd b9) := hw_61
            refine lv_istore (lv' := [(7, .int (nI (hd b9))), (6, .int (nI b9)), (4, .long (nO k9 lo hi)), (0, .ref h), (1, .int k9), (2, .int lo), (3, .int hi)]) hx hb dX0_pack_90 hl (by decide) rfl (fun ls hl => ?_)
            have q7 := hd_le b9 hb9
            have q8 : hd b9 = 1 + wd b9 + tW b9 := rfl
            refine lv_aload_n hx hb dX0_pack_92 rfl (lv_at hl 3 rfl) ?_
            refine lv_iload hx hb dX0_pack_93 (lv_at hl 0 rfl) ?_
            refine gvi (As := [.int (nI (hd b9))]) (rest := []) ⟨hx, hb, hml, hown, hts⟩ (c_X0_hasRoom l dC dI tk tw h a b cB cJ _ f g zc zg zo n8 (by omega) (hd b9) (by omega)) (cwV 1 hts gX0_pack_X0_hasRoom rfl rfl rfl (by decide +kernel) ⟨Nat.le_of_ble_eq_true rfl, Nat.le_of_ble_eq_true rfl⟩) hK hP hD hS hA hZ (q0 := 0) (ci := 0) rfl rfl rfl rfl hl.1 rfl (Nat.le_of_ble_eq_true rfl) dX0_pack_95 ⟨Nat.le_of_ble_eq_true rfl, Nat.le_of_ble_eq_true rfl⟩ (fun r_64 u_65 H locs hw_63 hP hD hS => ?_)
            obtain rfl : r_64 = 1 := hw_63.trans (if_pos hr9)
            refine lv_if_ne (tgt := 111) hx hb dX0_pack_98 (by decide) (fun c_66 => ?_) (fun c_66 => ?_)
            · skip
              refine lv_aload_n hx hb dX0_pack_111 rfl (lv_at hl 3 rfl) ?_
              refine lv_iload hx hb dX0_pack_112 (lv_at hl 1 rfl) ?_
              refine lv_i2l hx hb dX0_pack_114 rfl ?_
              refine lv_iconst (v := 1) hx hb dX0_pack_115 (by decide) ?_
              have e_69 : (1 : Int32) = nI 1 := rfl
              rw [e_69]
              refine gvv (As := [.long ((nI b9).toInt64), .int (nI 1)]) (rest := []) ⟨hx, hb, hml, hown, hts⟩ (c_X0_append l dC dI tk tw h a b cB cJ _ f g zc zg zo n8 1 (nI b9).toInt64 (by omega)) (cwV 2 hts gX0_pack_X0_append rfl rfl rfl (by decide +kernel) ⟨Nat.le_of_ble_eq_true rfl, Nat.le_of_ble_eq_true rfl⟩) hK hP hD hS hA hZ (q0 := 0) (ci := 0) rfl rfl rfl rfl hl.1 rfl (Nat.le_of_ble_eq_true rfl) dX0_pack_116 ⟨Nat.le_of_ble_eq_true rfl, Nat.le_of_ble_eq_true rfl⟩ (fun u_70 H locs hw_67 hP hD hS => ?_)
              have hP : va_P (dC, dI) vwCl (w0 h a b cB cJ (apR f n8 (nI b9).toInt64 1) g (nI (n8 + 1)) zc zg zo) H := hP
              have hD : va_D A (w0 h a b cB cJ (apR f n8 (nI b9).toInt64 1) g (nI (n8 + 1)) zc zg zo) := hD
              refine lv_aload_n hx hb dX0_pack_119 rfl (lv_at hl 3 rfl) ?_
              refine lv_lload hx hb dX0_pack_120 (lv_at hl 2 rfl) ?_
              refine lv_iload hx hb dX0_pack_122 (lv_at hl 1 rfl) ?_
              refine gsi (As := [.int (nI b9)]) (rest := [.long (nO k9 lo hi), .ref h]) ⟨hx, hb, hml, hown, hts⟩ (c_X0_width l dC dI tk tw _ b9 hb9) (va_cwS 1 hts gX0_pack_X0_width rfl rfl rfl (by decide +kernel) ⟨Nat.le_of_ble_eq_true rfl, Nat.le_of_ble_eq_true rfl⟩) hP hS hA hZ rfl hl.1 rfl (Nat.le_of_ble_eq_true rfl) dX0_pack_124 ⟨Nat.le_of_ble_eq_true rfl, Nat.le_of_ble_eq_true rfl⟩ (fun r_72 H locs hw_71 hP hS => ?_)
              obtain rfl : r_72 = nI (wd b9) := hw_71
              refine gvv (As := [.long (nO k9 lo hi), .int (nI (wd b9))]) (rest := []) ⟨hx, hb, hml, hown, hts⟩ (c_X0_append l dC dI tk tw h a b cB cJ _ (apR f n8 (nI b9).toInt64 1) g zc zg zo (n8 + 1) (wd b9) (nO k9 lo hi) (by omega)) (cwV 2 hts gX0_pack_X0_append rfl rfl rfl (by decide +kernel) ⟨Nat.le_of_ble_eq_true rfl, Nat.le_of_ble_eq_true rfl⟩) hK hP hD hS hA hZ (q0 := 0) (ci := 0) rfl rfl rfl rfl hl.1 rfl (Nat.le_of_ble_eq_true rfl) dX0_pack_127 ⟨Nat.le_of_ble_eq_true rfl, Nat.le_of_ble_eq_true rfl⟩ (fun u_75 H locs hw_73 hP hD hS => ?_)
              have hP : va_P (dC, dI) vwCl (w0 h a b cB cJ (apR (apR f n8 (nI b9).toInt64 1) (n8 + 1) (nO k9 lo hi) (wd b9)) g (nI (n8 + 1 + wd b9)) zc zg zo) H := hP
              have hD : va_D A (w0 h a b cB cJ (apR (apR f n8 (nI b9).toInt64 1) (n8 + 1) (nO k9 lo hi) (wd b9)) g (nI (n8 + 1 + wd b9)) zc zg zo) := hD
              refine lv_aload_n hx hb dX0_pack_130 rfl (lv_at hl 3 rfl) ?_
              refine lv_iload_n hx hb dX0_pack_131 rfl (lv_at hl 6 rfl) ?_
              refine lv_i2l hx hb dX0_pack_132 rfl ?_
              refine lv_iload hx hb dX0_pack_133 (lv_at hl 1 rfl) ?_
              refine gsi (As := [.int (nI b9)]) (rest := [.long hi.toInt64, .ref h]) ⟨hx, hb, hml, hown, hts⟩ (c_X0_typeWidth l dC dI tk tw _ b9 hb9) (va_cwS 1 hts gX0_pack_X0_typeWidth rfl rfl rfl (by decide +kernel) ⟨Nat.le_of_ble_eq_true rfl, Nat.le_of_ble_eq_true rfl⟩) hP hS hA hZ rfl hl.1 rfl (Nat.le_of_ble_eq_true rfl) dX0_pack_135 ⟨Nat.le_of_ble_eq_true rfl, Nat.le_of_ble_eq_true rfl⟩ (fun r_77 H locs hw_76 hP hS => ?_)
              obtain rfl : r_77 = nI (tW b9) := hw_76
              refine gvv (As := [.long hi.toInt64, .int (nI (tW b9))]) (rest := []) ⟨hx, hb, hml, hown, hts⟩ (c_X0_append l dC dI tk tw h a b cB cJ _ (apR (apR f n8 (nI b9).toInt64 1) (n8 + 1) (nO k9 lo hi) (wd b9)) g zc zg zo (n8 + 1 + wd b9) (tW b9) hi.toInt64 (by omega)) (cwV 2 hts gX0_pack_X0_append rfl rfl rfl (by decide +kernel) ⟨Nat.le_of_ble_eq_true rfl, Nat.le_of_ble_eq_true rfl⟩) hK hP hD hS hA hZ (q0 := 0) (ci := 0) rfl rfl rfl rfl hl.1 rfl (Nat.le_of_ble_eq_true rfl) dX0_pack_138 ⟨Nat.le_of_ble_eq_true rfl, Nat.le_of_ble_eq_true rfl⟩ (fun u_80 H locs hw_78 hP hD hS => ?_)
              have hP : va_P (dC, dI) vwCl (w0 h a b cB cJ (apR (apR (apR f n8 (nI b9).toInt64 1) (n8 + 1) (nO k9 lo hi) (wd b9)) (n8 + 1 + wd b9) hi.toInt64 (tW b9)) g (nI (n8 + 1 + wd b9 + tW b9)) zc zg zo) H := hP
              have hD : va_D A (w0 h a b cB cJ (apR (apR (apR f n8 (nI b9).toInt64 1) (n8 + 1) (nO k9 lo hi) (wd b9)) (n8 + 1 + wd b9) hi.toInt64 (tW b9)) g (nI (n8 + 1 + wd b9 + tW b9)) zc zg zo) := hD
              refine lv_iload hx hb dX0_pack_141 (lv_at hl 0 rfl) ?_
              have hP9 : va_P (dC, dI) vwCl ((fun (_ : Unit) => w0 h a b cB cJ (apR (apR (apR f n8 (nI b9).toInt64 1) (n8 + 1) (nO k9 lo hi) (wd b9)) (n8 + 1 + wd b9) hi.toInt64 (tW b9)) g (nI (n8 + hd b9)) zc zg zo) (())) H := by rw [show n8 + hd b9 = n8 + 1 + wd b9 + tW b9 by omega]; exact hP
              have hD9 : va_D A ((fun (_ : Unit) => w0 h a b cB cJ (apR (apR (apR f n8 (nI b9).toInt64 1) (n8 + 1) (nO k9 lo hi) (wd b9)) (n8 + 1 + wd b9) hi.toInt64 (tW b9)) g (nI (n8 + hd b9)) zc zg zo) (())) := by rw [show n8 + hd b9 = n8 + 1 + wd b9 + tW b9 by omega]; exact hD
              exact W.iret (v := nI (hd b9)) hx hb hr (fun t ht hW => ⟨⟨nI (hd b9), (), rfl, rfl, by rw [ht]; exact hP9, va_K.moved hW.alike hK, hD9⟩, hS.F ht⟩) hS.2.2 dX0_pack_143
            · skip
              exact absurd c_66 (by decide)
          · skip
            refine lv_iload_n hx hb dX0_pack_47 rfl (lv_at hl 3 rfl) ?_
            refine lv_bipush (v := -128) hx hb dX0_pack_48 (by decide) ?_
            refine lv_icmp_lt (tgt := 59) hx hb dX0_pack_50 (by decide) (fun c_81 => ?_) (fun c_81 => ?_)
            · skip
              exact absurd c_81 (h12 c_56).1
            · skip
              refine lv_iload_n hx hb dX0_pack_53 rfl (lv_at hl 3 rfl) ?_
              refine lv_bipush (v := 127) hx hb dX0_pack_54 (by decide) ?_
              refine lv_icmp_le (tgt := 69) hx hb dX0_pack_56 (by decide) (fun c_82 => ?_) (fun c_82 => ?_)
              · skip
                refine lv_iload_n hx hb dX0_pack_69 rfl (lv_at hl 1 rfl) ?_
                refine lv_iload_n hx hb dX0_pack_70 rfl (lv_at hl 2 rfl) ?_
                refine lv_iload_n hx hb dX0_pack_71 rfl (lv_at hl 3 rfl) ?_
                refine gsl (As := [.int k9, .int lo, .int hi]) (rest := []) ⟨hx, hb, hml, hown, hts⟩ (c_X0_numberOf l dC dI tk tw _ k9 lo hi) (va_cwS 3 hts gX0_pack_X0_numberOf rfl rfl rfl (by decide +kernel) ⟨Nat.le_of_ble_eq_true rfl, Nat.le_of_ble_eq_true rfl⟩) hP hS hA hZ rfl hl.1 rfl (Nat.le_of_ble_eq_true rfl) dX0_pack_72 ⟨Nat.le_of_ble_eq_true rfl, Nat.le_of_ble_eq_true rfl⟩ (fun r_84 H locs hw_83 hP hS => ?_)
                obtain rfl : r_84 = nO k9 lo hi := hw_83
                refine lv_lstore (lv' := [(4, .long (nO k9 lo hi)), (0, .ref h), (1, .int k9), (2, .int lo), (3, .int hi)]) hx hb dX0_pack_75 hl (by decide) rfl (fun ls hl => ?_)
                refine lv_iload_n hx hb dX0_pack_77 rfl (lv_at hl 2 rfl) ?_
                refine lv_lload hx hb dX0_pack_78 (lv_at hl 0 rfl) ?_
                refine gsi (As := [.int k9, .long (nO k9 lo hi)]) (rest := []) ⟨hx, hb, hml, hown, hts⟩ (c_X0_shortestForm l dC dI tk tw _ k9 (nO k9 lo hi)) (va_cwS 2 hts gX0_pack_X0_shortestForm rfl rfl rfl (by decide +kernel) ⟨Nat.le_of_ble_eq_true rfl, Nat.le_of_ble_eq_true rfl⟩) hP hS hA hZ rfl hl.1 rfl (Nat.le_of_ble_eq_true rfl) dX0_pack_80 ⟨Nat.le_of_ble_eq_true rfl, Nat.le_of_ble_eq_true rfl⟩ (fun r_86 H locs hw_85 hP hS => ?_)
                obtain rfl : r_86 = nI b9 := hw_85.trans hs9
                refine lv_istore (lv' := [(6, .int (nI b9)), (4, .long (nO k9 lo hi)), (0, .ref h), (1, .int k9), (2, .int lo), (3, .int hi)]) hx hb dX0_pack_83 hl (by decide) rfl (fun ls hl => ?_)
                refine lv_iload hx hb dX0_pack_85 (lv_at hl 0 rfl) ?_
                refine gsi (As := [.int (nI b9)]) (rest := []) ⟨hx, hb, hml, hown, hts⟩ (c_X0_headLength l dC dI tk tw _ b9 hb9) (va_cwS 1 hts gX0_pack_X0_headLength rfl rfl rfl (by decide +kernel) ⟨Nat.le_of_ble_eq_true rfl, Nat.le_of_ble_eq_true rfl⟩) hP hS hA hZ rfl hl.1 rfl (Nat.le_of_ble_eq_true rfl) dX0_pack_87 ⟨Nat.le_of_ble_eq_true rfl, Nat.le_of_ble_eq_true rfl⟩ (fun r_88 H locs hw_87 hP hS => ?_)
                obtain rfl : r_88 = nI (hd b9) := hw_87
                refine lv_istore (lv' := [(7, .int (nI (hd b9))), (6, .int (nI b9)), (4, .long (nO k9 lo hi)), (0, .ref h), (1, .int k9), (2, .int lo), (3, .int hi)]) hx hb dX0_pack_90 hl (by decide) rfl (fun ls hl => ?_)
                have q7 := hd_le b9 hb9
                have q8 : hd b9 = 1 + wd b9 + tW b9 := rfl
                refine lv_aload_n hx hb dX0_pack_92 rfl (lv_at hl 3 rfl) ?_
                refine lv_iload hx hb dX0_pack_93 (lv_at hl 0 rfl) ?_
                refine gvi (As := [.int (nI (hd b9))]) (rest := []) ⟨hx, hb, hml, hown, hts⟩ (c_X0_hasRoom l dC dI tk tw h a b cB cJ _ f g zc zg zo n8 (by omega) (hd b9) (by omega)) (cwV 1 hts gX0_pack_X0_hasRoom rfl rfl rfl (by decide +kernel) ⟨Nat.le_of_ble_eq_true rfl, Nat.le_of_ble_eq_true rfl⟩) hK hP hD hS hA hZ (q0 := 0) (ci := 0) rfl rfl rfl rfl hl.1 rfl (Nat.le_of_ble_eq_true rfl) dX0_pack_95 ⟨Nat.le_of_ble_eq_true rfl, Nat.le_of_ble_eq_true rfl⟩ (fun r_90 u_91 H locs hw_89 hP hD hS => ?_)
                obtain rfl : r_90 = 1 := hw_89.trans (if_pos hr9)
                refine lv_if_ne (tgt := 111) hx hb dX0_pack_98 (by decide) (fun c_92 => ?_) (fun c_92 => ?_)
                · skip
                  refine lv_aload_n hx hb dX0_pack_111 rfl (lv_at hl 3 rfl) ?_
                  refine lv_iload hx hb dX0_pack_112 (lv_at hl 1 rfl) ?_
                  refine lv_i2l hx hb dX0_pack_114 rfl ?_
                  refine lv_iconst (v := 1) hx hb dX0_pack_115 (by decide) ?_
                  have e_95 : (1 : Int32) = nI 1 := rfl
                  rw [e_95]
                  refine gvv (As := [.long ((nI b9).toInt64), .int (nI 1)]) (rest := []) ⟨hx, hb, hml, hown, hts⟩ (c_X0_append l dC dI tk tw h a b cB cJ _ f g zc zg zo n8 1 (nI b9).toInt64 (by omega)) (cwV 2 hts gX0_pack_X0_append rfl rfl rfl (by decide +kernel) ⟨Nat.le_of_ble_eq_true rfl, Nat.le_of_ble_eq_true rfl⟩) hK hP hD hS hA hZ (q0 := 0) (ci := 0) rfl rfl rfl rfl hl.1 rfl (Nat.le_of_ble_eq_true rfl) dX0_pack_116 ⟨Nat.le_of_ble_eq_true rfl, Nat.le_of_ble_eq_true rfl⟩ (fun u_96 H locs hw_93 hP hD hS => ?_)
                  have hP : va_P (dC, dI) vwCl (w0 h a b cB cJ (apR f n8 (nI b9).toInt64 1) g (nI (n8 + 1)) zc zg zo) H := hP
                  have hD : va_D A (w0 h a b cB cJ (apR f n8 (nI b9).toInt64 1) g (nI (n8 + 1)) zc zg zo) := hD
                  refine lv_aload_n hx hb dX0_pack_119 rfl (lv_at hl 3 rfl) ?_
                  refine lv_lload hx hb dX0_pack_120 (lv_at hl 2 rfl) ?_
                  refine lv_iload hx hb dX0_pack_122 (lv_at hl 1 rfl) ?_
                  refine gsi (As := [.int (nI b9)]) (rest := [.long (nO k9 lo hi), .ref h]) ⟨hx, hb, hml, hown, hts⟩ (c_X0_width l dC dI tk tw _ b9 hb9) (va_cwS 1 hts gX0_pack_X0_width rfl rfl rfl (by decide +kernel) ⟨Nat.le_of_ble_eq_true rfl, Nat.le_of_ble_eq_true rfl⟩) hP hS hA hZ rfl hl.1 rfl (Nat.le_of_ble_eq_true rfl) dX0_pack_124 ⟨Nat.le_of_ble_eq_true rfl, Nat.le_of_ble_eq_true rfl⟩ (fun r_98 H locs hw_97 hP hS => ?_)
                  obtain rfl : r_98 = nI (wd b9) := hw_97
                  refine gvv (As := [.long (nO k9 lo hi), .int (nI (wd b9))]) (rest := []) ⟨hx, hb, hml, hown, hts⟩ (c_X0_append l dC dI tk tw h a b cB cJ _ (apR f n8 (nI b9).toInt64 1) g zc zg zo (n8 + 1) (wd b9) (nO k9 lo hi) (by omega)) (cwV 2 hts gX0_pack_X0_append rfl rfl rfl (by decide +kernel) ⟨Nat.le_of_ble_eq_true rfl, Nat.le_of_ble_eq_true rfl⟩) hK hP hD hS hA hZ (q0 := 0) (ci := 0) rfl rfl rfl rfl hl.1 rfl (Nat.le_of_ble_eq_true rfl) dX0_pack_127 ⟨Nat.le_of_ble_eq_true rfl, Nat.le_of_ble_eq_true rfl⟩ (fun u_101 H locs hw_99 hP hD hS => ?_)
                  have hP : va_P (dC, dI) vwCl (w0 h a b cB cJ (apR (apR f n8 (nI b9).toInt64 1) (n8 + 1) (nO k9 lo hi) (wd b9)) g (nI (n8 + 1 + wd b9)) zc zg zo) H := hP
                  have hD : va_D A (w0 h a b cB cJ (apR (apR f n8 (nI b9).toInt64 1) (n8 + 1) (nO k9 lo hi) (wd b9)) g (nI (n8 + 1 + wd b9)) zc zg zo) := hD
                  refine lv_aload_n hx hb dX0_pack_130 rfl (lv_at hl 3 rfl) ?_
                  refine lv_iload_n hx hb dX0_pack_131 rfl (lv_at hl 6 rfl) ?_
                  refine lv_i2l hx hb dX0_pack_132 rfl ?_
                  refine lv_iload hx hb dX0_pack_133 (lv_at hl 1 rfl) ?_
                  refine gsi (As := [.int (nI b9)]) (rest := [.long hi.toInt64, .ref h]) ⟨hx, hb, hml, hown, hts⟩ (c_X0_typeWidth l dC dI tk tw _ b9 hb9) (va_cwS 1 hts gX0_pack_X0_typeWidth rfl rfl rfl (by decide +kernel) ⟨Nat.le_of_ble_eq_true rfl, Nat.le_of_ble_eq_true rfl⟩) hP hS hA hZ rfl hl.1 rfl (Nat.le_of_ble_eq_true rfl) dX0_pack_135 ⟨Nat.le_of_ble_eq_true rfl, Nat.le_of_ble_eq_true rfl⟩ (fun r_103 H locs hw_102 hP hS => ?_)
                  obtain rfl : r_103 = nI (tW b9) := hw_102
                  refine gvv (As := [.long hi.toInt64, .int (nI (tW b9))]) (rest := []) ⟨hx, hb, hml, hown, hts⟩ (c_X0_append l dC dI tk tw h a b cB cJ _ (apR (apR f n8 (nI b9).toInt64 1) (n8 + 1) (nO k9 lo hi) (wd b9)) g zc zg zo (n8 + 1 + wd b9) (tW b9) hi.toInt64 (by omega)) (cwV 2 hts gX0_pack_X0_append rfl rfl rfl (by decide +kernel) ⟨Nat.le_of_ble_eq_true rfl, Nat.le_of_ble_eq_true rfl⟩) hK hP hD hS hA hZ (q0 := 0) (ci := 0) rfl rfl rfl rfl hl.1 rfl (Nat.le_of_ble_eq_true rfl) dX0_pack_138 ⟨Nat.le_of_ble_eq_true rfl, Nat.le_of_ble_eq_true rfl⟩ (fun u_106 H locs hw_104 hP hD hS => ?_)
                  have hP : va_P (dC, dI) vwCl (w0 h a b cB cJ (apR (apR (apR f n8 (nI b9).toInt64 1) (n8 + 1) (nO k9 lo hi) (wd b9)) (n8 + 1 + wd b9) hi.toInt64 (tW b9)) g (nI (n8 + 1 + wd b9 + tW b9)) zc zg zo) H := hP
                  have hD : va_D A (w0 h a b cB cJ (apR (apR (apR f n8 (nI b9).toInt64 1) (n8 + 1) (nO k9 lo hi) (wd b9)) (n8 + 1 + wd b9) hi.toInt64 (tW b9)) g (nI (n8 + 1 + wd b9 + tW b9)) zc zg zo) := hD
                  refine lv_iload hx hb dX0_pack_141 (lv_at hl 0 rfl) ?_
                  have hP9 : va_P (dC, dI) vwCl ((fun (_ : Unit) => w0 h a b cB cJ (apR (apR (apR f n8 (nI b9).toInt64 1) (n8 + 1) (nO k9 lo hi) (wd b9)) (n8 + 1 + wd b9) hi.toInt64 (tW b9)) g (nI (n8 + hd b9)) zc zg zo) (())) H := by rw [show n8 + hd b9 = n8 + 1 + wd b9 + tW b9 by omega]; exact hP
                  have hD9 : va_D A ((fun (_ : Unit) => w0 h a b cB cJ (apR (apR (apR f n8 (nI b9).toInt64 1) (n8 + 1) (nO k9 lo hi) (wd b9)) (n8 + 1 + wd b9) hi.toInt64 (tW b9)) g (nI (n8 + hd b9)) zc zg zo) (())) := by rw [show n8 + hd b9 = n8 + 1 + wd b9 + tW b9 by omega]; exact hD
                  exact W.iret (v := nI (hd b9)) hx hb hr (fun t ht hW => ⟨⟨nI (hd b9), (), rfl, rfl, by rw [ht]; exact hP9, va_K.moved hW.alike hK, hD9⟩, hS.F ht⟩) hS.2.2 dX0_pack_143
                · skip
                  exact absurd c_92 (by decide)
              · skip
                exact absurd (Int32.not_lt.mp (h12 c_56).2) c_82
        · skip
          exact absurd (Int32.not_lt.mp (h8 c_3)) c_55
    · skip
      exact absurd hk2 c_2
