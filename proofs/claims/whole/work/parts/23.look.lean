theorem hd12 {b : Nat} (h : kd b = 12) : (1 + nI (wd b)) + 1 = nI (hd b) := by
  unfold hd; rw [if_pos h, show (1 : Int32) = nI 1 from rfl, nI_add, nI_add]
theorem hdn {b : Nat} (h : ¬ kd b = 12) : (1 + nI (wd b)) + 0 = nI (hd b) := by
  unfold hd; rw [if_neg h, show (1 : Int32) = nI 1 from rfl, show (0 : Int32) = nI 0 from rfl, nI_add, nI_add]
theorem nv_w0 {B : Nat → Nat} {a : Nat} (h : wd (B a) = 0) : nv B a = ow (B a) := if_pos h
theorem nv_w1 {B : Nat → Nat} {a : Nat} (h : ¬ wd (B a) = 0) (h2 : ¬ kd (B a) = 5) : nv B a = rd B (a + 1) (wd (B a)) := by unfold nv; rw [if_neg h, if_neg h2]
theorem nv_w5 {B : Nat → Nat} {a : Nat} (h : ¬ wd (B a) = 0) (h2 : kd (B a) = 5) : sg (rd B (a + 1) (wd (B a))) (wd (B a)) = nv B a := by unfold nv; rw [if_neg h, if_pos h2]
set_option maxHeartbeats 4000000 in
set_option maxRecDepth 100000 in
theorem c_X1_look (l : Launch) (dC : Nat → ClassId) (dI : Nat → Nat → Nat) (tk tw : Nat) (h a b : Nat) (cI cJ : ClassId) (sz : Nat) (f : Nat → Int32) (g : Nat → Int64) (zt : Int32) (zc : Int32) (zso : Int32) (znu : Int64) (zty : Int32) (zhd : Int32) (zpa : Int64) (zch : Int64) (zlk : Int32) (zlo : Int32) (zhi : Int32) (zlp : Int32) (zll : Int32) (zlv : Int32) (B : Nat → Nat) (hB : ∀ j, B j < 256) (n8 a9 : Nat) (hn8 : n8 ≤ 4096) (h9 : a9 ≤ 4096) (hf9 : ∀ j, j < n8 → f j = nI (B j)) : Met l yX1_look wsX1_look ({ frames := 1, cells := 0, slots := 0, locals := 25 }) (va_Pc [.ref h, .int (nI a9)] (pr dC dI (t1 cI cJ) (w1 h a b cI cJ f g zt (nI n8) zc zso znu zty zhd zpa zch zlk zlo zhi zlp zll zlv) sz tk tw)) (va_Qi (fun (r : Int32) (u : Int32 × Int64 × Int32 × Int32 × Int64 × Int64) => loP B n8 a9 r u) (fun (u : Int32 × Int64 × Int32 × Int32 × Int64 × Int64) => po dC dI (t1 cI cJ) (va_A (w1 h a b cI cJ f g zt (nI n8) zc zso znu zty zhd zpa zch zlk zlo zhi zlp zll zlv) sz) (w1 h a b cI cJ f g zt (nI n8) zc u.1 u.2.1 u.2.2.1 u.2.2.2.1 u.2.2.2.2.1 u.2.2.2.2.2 zlk zlo zhi zlp zll zlv)) (va_A (w1 h a b cI cJ f g zt (nI n8) zc zso znu zty zhd zpa zch zlk zlo zhi zlp zll zlv) sz)) 0 0 (va_A (w1 h a b cI cJ f g zt (nI n8) zc zso znu zty zhd zpa zch zlk zlo zhi zlp zll zlv) sz) := by
  refine Met.ofW (cc := cX1_look) (maxL := 5) (ret := (some .int)) (by decide) rfl ?_
  intro p e s m args below meth c s₁ Bd hml hv
  obtain ⟨rfl, hsz, hP, hK, hD0, hZ⟩ := hv
  have hx := Bd.exec
  have hb := Bd.bytes
  have hr := Bd.returns
  have hts := atoms_spec (ws := wsX1_look) Bd.pre
  have hown : s.vm.findClass RX1 = some m.cls := findClass_of_methodNamed Bd.named
  have hlocks := Bd.notSynchronized
  subst hsz
  have hD := hD0.self (sz := s.heap.size)
  generalize hAe : va_A (w1 h a b cI cJ f g zt (nI n8) zc zso znu zty zhd zpa zch zlk zlo zhi zlp zll zlv) s.heap.size = A at hD hZ ⊢
  have hA : ∀ q : Nat, s.heap.size ≤ q → A q := fun q h => by rw [← hAe]; exact Or.inr h
  have hS : va_S A s.heap s.heap [] := va_S.rf
  have hP : va_P (dC, dI) vwCl (w1 h a b cI cJ f g zt (nI n8) zc zso znu zty zhd zpa zch zlk zlo zhi zlp zll zlv) s.heap := hP
  have hin0 : ∀ w ∈ wsX10, w ∈ wsX1_look := by decide +kernel
  have fl7 := hts (.fieldLink RX1 7 "MessageReaderModel" "bytes" "[I") (by decide +kernel)
  have fl28 := hts (.fieldLink RX1 28 "MessageReaderModel" "size" "I") (by decide +kernel)
  have fl47 := hts (.fieldLink RX1 47 "MessageReaderModel" "sort" "I") (by decide +kernel)
  have fl50 := hts (.fieldLink RX1 50 "MessageReaderModel" "head" "I") (by decide +kernel)
  have fl61 := hts (.fieldLink RX1 61 "MessageReaderModel" "number" "J") (by decide +kernel)
  have fl65 := hts (.fieldLink RX1 65 "MessageReaderModel" "type" "I") (by decide +kernel)
  have fl68 := hts (.fieldLink RX1 68 "MessageReaderModel" "payload" "J") (by decide +kernel)
  have fl71 := hts (.fieldLink RX1 71 "MessageReaderModel" "children" "J") (by decide +kernel)
  have hl := lv_entry ([.ref h, .int (nI a9)]) (n := 5) (Nat.le_of_ble_eq_true rfl)
  rw [lg_entry_eq]
  generalize (lg_sl ([.ref h, .int (nI a9)]) ++ List.replicate (5 - (lg_sl ([.ref h, .int (nI a9)])).length) Slot.unset).toArray = ls at hl ⊢
  have hl : lv_has ls 5 [(0, .ref h), (1, .int (nI a9))] := hl
  refine lv_iload_n hx hb dX1_look_0 rfl (lv_at hl 1 rfl) ?_
  refine lv_aload_n hx hb dX1_look_1 rfl (lv_at hl 0 rfl) ?_
  refine va_get (D := (dC, dI)) (ci := 1) (v := .int (nI n8)) (C := RX1) (T := TX1) (N := 17) hx hb hts hin0 hown hK hP 0 rfl rfl 2 (by decide) fl28 (fun _ h9 => h9) rfl dX1_look_2 ?_
  refine lv_icmp_lt (tgt := 11) hx hb dX1_look_5 (by decide) (fun c_1 => ?_) (fun c_1 => ?_)
  · skip
    have q1 : a9 < n8 := (nI_ltI (by omega) (by omega)).mp c_1
    have q0 := hB a9
    refine lv_aload_n hx hb dX1_look_11 rfl (lv_at hl 0 rfl) ?_
    refine va_get (D := (dC, dI)) (ci := 1) (v := .ref a) (C := RX1) (T := TX1) (N := 17) hx hb hts hin0 hown hK hP 0 rfl rfl 1 (by decide) fl7 (fun _ h9 => h9) rfl dX1_look_12 ?_
    refine lv_iload_n hx hb dX1_look_15 rfl (lv_at hl 1 rfl) ?_
    refine va_iald hx hb hK hP 1 0 rfl rfl (vp_in_nI (by omega) (by decide)) dX1_look_16 ?_
    have e_2 : (f (nI a9).toNatClampNeg : Int32) = nI (B a9) := by rw [nI_clamp (by omega)]; exact hf9 _ q1
    rw [e_2]
    refine lv_istore_n (lv' := [(2, .int (nI (B a9))), (0, .ref h), (1, .int (nI a9))]) hx hb dX1_look_17 rfl hl (by decide) rfl (fun ls hl => ?_)
    refine lv_iload_n hx hb dX1_look_18 rfl (lv_at hl 0 rfl) ?_
    refine lv_sipush (v := 193) hx hb dX1_look_19 (by decide) ?_
    refine lv_icmp_ne (tgt := 28) hx hb dX1_look_22 (by decide) (fun c_3 => ?_) (fun c_3 => ?_)
    · skip
      have q2 : ¬ B a9 = 193 := fun z => c_3 (by rw [z]; rfl)
      rcases kd_cases _ (hB a9) q2 with hk | hk | hk | hk | hk | hk | hk | hk | hk | hk | hk | hk
      · skip
        have q2 : ¬ B a9 = 193 := fun z => c_3 (by rw [z]; rfl)
        refine lv_iload_n hx hb dX1_look_28 rfl (lv_at hl 0 rfl) ?_
        refine gsi (As := [.int (nI (B a9))]) (rest := []) ⟨hx, hb, hml, hown, hts⟩ (c_X1_widthOf l dC dI tk tw _ (B a9) (hB a9)) (va_cwS 1 hts gX1_look_X1_widthOf rfl rfl rfl (by decide +kernel) ⟨Nat.le_of_ble_eq_true rfl, Nat.le_of_ble_eq_true rfl⟩) hP hS hA hZ rfl hl.1 rfl (Nat.le_of_ble_eq_true rfl) dX1_look_29 ⟨Nat.le_of_ble_eq_true rfl, Nat.le_of_ble_eq_true rfl⟩ (fun r_5 H locs hw_4 hP hS => ?_)
        obtain rfl : r_5 = nI (wd (B a9)) := hw_4
        refine lv_istore_n (lv' := [(3, .int (nI (wd (B a9)))), (2, .int (nI (B a9))), (0, .ref h), (1, .int (nI a9))]) hx hb dX1_look_32 rfl hl (by decide) rfl (fun ls hl => ?_)
        refine lv_aload_n hx hb dX1_look_33 rfl (lv_at hl 2 rfl) ?_
        refine lv_iload_n hx hb dX1_look_34 rfl (lv_at hl 1 rfl) ?_
        refine gsi (As := [.int (nI (B a9))]) (rest := [.ref h]) ⟨hx, hb, hml, hown, hts⟩ (c_X1_kindOf l dC dI tk tw _ (B a9) (hB a9) q2) (va_cwS 1 hts gX1_look_X1_kindOf rfl rfl rfl (by decide +kernel) ⟨Nat.le_of_ble_eq_true rfl, Nat.le_of_ble_eq_true rfl⟩) hP hS hA hZ rfl hl.1 rfl (Nat.le_of_ble_eq_true rfl) dX1_look_35 ⟨Nat.le_of_ble_eq_true rfl, Nat.le_of_ble_eq_true rfl⟩ (fun r_7 H locs hw_6 hP hS => ?_)
        obtain rfl : r_7 = 1 := hw_6.trans (by rw [hk]; rfl)
        refine va_put (D := (dC, dI)) (ci := 1) (v := .int 1) (ty := .int) (C := RX1) (T := TX1) (N := 17) hx hb hts hin0 tyX1 tyX1_ok nmX1 hown hK hP hD hS 0 rfl rfl 4 (by decide) fl47 (fun _ h9 => h9) rfl (by decide +kernel) rfl rfl (Nat.le_of_ble_eq_true rfl) dX1_look_38 (fun H locs hP hD hS => ?_)
        have hP : va_P (dC, dI) vwCl (w1 h a b cI cJ f g zt (nI n8) zc 1 znu zty zhd zpa zch zlk zlo zhi zlp zll zlv) H := hP
        have hD : va_D A (w1 h a b cI cJ f g zt (nI n8) zc 1 znu zty zhd zpa zch zlk zlo zhi zlp zll zlv) := hD
        refine lv_aload_n hx hb dX1_look_41 rfl (lv_at hl 2 rfl) ?_
        refine lv_iconst (v := 1) hx hb dX1_look_42 (by decide) ?_
        refine lv_iload_n hx hb dX1_look_43 rfl (lv_at hl 0 rfl) ?_
        refine lv_iadd hx hb dX1_look_44 ?_
        refine lv_aload_n hx hb dX1_look_45 rfl (lv_at hl 2 rfl) ?_
        refine va_get (D := (dC, dI)) (ci := 1) (v := .int 1) (C := RX1) (T := TX1) (N := 17) hx hb hts hin0 hown hK hP 0 rfl rfl 4 (by decide) fl47 (fun _ h9 => h9) rfl dX1_look_46 ?_
        refine lv_bipush (v := 12) hx hb dX1_look_49 (by decide) ?_
        refine lv_icmp_ne (tgt := 58) hx hb dX1_look_51 (by decide) (fun c_8 => ?_) (fun c_8 => ?_)
        · skip
          refine lv_iconst (v := 0) hx hb dX1_look_58 (by decide) ?_
          refine lv_iadd hx hb dX1_look_59 ?_
          have e_9 : ((1 + (nI (wd (B a9)))) + 0 : Int32) = nI (hd (B a9)) := hdn (by rw [hk]; decide)
          rw [e_9]
          refine va_put (D := (dC, dI)) (ci := 1) (v := .int (nI (hd (B a9)))) (ty := .int) (C := RX1) (T := TX1) (N := 17) hx hb hts hin0 tyX1 tyX1_ok nmX1 hown hK hP hD hS 0 rfl rfl 7 (by decide) fl50 (fun _ h9 => h9) rfl (by decide +kernel) rfl rfl (Nat.le_of_ble_eq_true rfl) dX1_look_60 (fun H locs hP hD hS => ?_)
          have hP : va_P (dC, dI) vwCl (w1 h a b cI cJ f g zt (nI n8) zc 1 znu zty (nI (hd (B a9))) zpa zch zlk zlo zhi zlp zll zlv) H := hP
          have hD : va_D A (w1 h a b cI cJ f g zt (nI n8) zc 1 znu zty (nI (hd (B a9))) zpa zch zlk zlo zhi zlp zll zlv) := hD
          refine lv_iload_n hx hb dX1_look_63 rfl (lv_at hl 3 rfl) ?_
          refine lv_aload_n hx hb dX1_look_64 rfl (lv_at hl 2 rfl) ?_
          refine va_get (D := (dC, dI)) (ci := 1) (v := .int (nI (hd (B a9)))) (C := RX1) (T := TX1) (N := 17) hx hb hts hin0 hown hK hP 0 rfl rfl 7 (by decide) fl50 (fun _ h9 => h9) rfl dX1_look_65 ?_
          refine lv_iadd hx hb dX1_look_68 ?_
          have e_10 : ((nI a9) + (nI (hd (B a9))) : Int32) = nI (a9 + hd (B a9)) := nI_add _ _
          rw [e_10]
          refine lv_aload_n hx hb dX1_look_69 rfl (lv_at hl 2 rfl) ?_
          refine va_get (D := (dC, dI)) (ci := 1) (v := .int (nI n8)) (C := RX1) (T := TX1) (N := 17) hx hb hts hin0 hown hK hP 0 rfl rfl 2 (by decide) fl28 (fun _ h9 => h9) rfl dX1_look_70 ?_
          refine lv_icmp_le (tgt := 79) hx hb dX1_look_73 (by decide) (fun c_11 => ?_) (fun c_11 => ?_)
          · skip
            have q4 := hd_le _ (hB a9)
            have q3 : a9 + hd (B a9) ≤ n8 := (nI_leI (by omega) (by omega)).mp c_11
            refine lv_aload_n hx hb dX1_look_79 rfl (lv_at hl 2 rfl) ?_
            refine lv_iload_n hx hb dX1_look_80 rfl (lv_at hl 0 rfl) ?_
            refine lv_if_ne (tgt := 91) hx hb dX1_look_81 (by decide) (fun c_12 => ?_) (fun c_12 => ?_)
            · skip
              have q5 : ¬ wd (B a9) = 0 := fun z => c_12 (by rw [z]; rfl)
              refine lv_aload_n hx hb dX1_look_91 rfl (lv_at hl 2 rfl) ?_
              refine lv_iload_n hx hb dX1_look_92 rfl (lv_at hl 3 rfl) ?_
              refine lv_iconst (v := 1) hx hb dX1_look_93 (by decide) ?_
              refine lv_iadd hx hb dX1_look_94 ?_
              refine lv_iload_n hx hb dX1_look_95 rfl (lv_at hl 0 rfl) ?_
              have e_15 : ((nI a9) + 1 : Int32) = nI (a9 + 1) := nI_1 a9
              rw [e_15]
              refine gvl (As := [.int (nI (a9 + 1)), .int (nI (wd (B a9)))]) (rest := [.ref h]) ⟨hx, hb, hml, hown, hts⟩ (c_X1_numberAt l dC dI tk tw h a b cI cJ _ f g zt (nI n8) zc 1 znu zty (nI (hd (B a9))) zpa zch zlk zlo zhi zlp zll zlv B (a9 + 1) (wd (B a9)) (by omega) (fun j hj => hf9 j (by omega))) (cwV 2 hts gX1_look_X1_numberAt rfl rfl rfl (by decide +kernel) ⟨Nat.le_of_ble_eq_true rfl, Nat.le_of_ble_eq_true rfl⟩) hK hP hD hS hA hZ (q0 := 0) (ci := 1) rfl rfl rfl rfl hl.1 rfl (Nat.le_of_ble_eq_true rfl) dX1_look_96 ⟨Nat.le_of_ble_eq_true rfl, Nat.le_of_ble_eq_true rfl⟩ (fun r_14 u_16 H locs hw_13 hP hD hS => ?_)
              obtain rfl : r_14 = nv B a9 := hw_13.trans (nv_w1 q5 (by rw [hk]; decide)).symm
              refine va_put (D := (dC, dI)) (ci := 1) (v := .long (nv B a9)) (ty := .long) (C := RX1) (T := TX1) (N := 17) hx hb hts hin0 tyX1 tyX1_ok nmX1 hown hK hP hD hS 0 rfl rfl 5 (by decide) fl61 (fun _ h9 => h9) rfl (by decide +kernel) rfl rfl (Nat.le_of_ble_eq_true rfl) dX1_look_99 (fun H locs hP hD hS => ?_)
              have hP : va_P (dC, dI) vwCl (w1 h a b cI cJ f g zt (nI n8) zc 1 (nv B a9) zty (nI (hd (B a9))) zpa zch zlk zlo zhi zlp zll zlv) H := hP
              have hD : va_D A (w1 h a b cI cJ f g zt (nI n8) zc 1 (nv B a9) zty (nI (hd (B a9))) zpa zch zlk zlo zhi zlp zll zlv) := hD
              refine lv_aload_n hx hb dX1_look_102 rfl (lv_at hl 2 rfl) ?_
              refine va_get (D := (dC, dI)) (ci := 1) (v := .int 1) (C := RX1) (T := TX1) (N := 17) hx hb hts hin0 hown hK hP 0 rfl rfl 4 (by decide) fl47 (fun _ h9 => h9) rfl dX1_look_103 ?_
              refine lv_iconst (v := 5) hx hb dX1_look_106 (by decide) ?_
              refine lv_icmp_ne (tgt := 138) hx hb dX1_look_107 (by decide) (fun c_17 => ?_) (fun c_17 => ?_)
              · skip
                refine lv_aload_n hx hb dX1_look_138 rfl (lv_at hl 2 rfl) ?_
                refine va_get (D := (dC, dI)) (ci := 1) (v := .int 1) (C := RX1) (T := TX1) (N := 17) hx hb hts hin0 hown hK hP 0 rfl rfl 4 (by decide) fl47 (fun _ h9 => h9) rfl dX1_look_139 ?_
                refine lv_bipush (v := 12) hx hb dX1_look_142 (by decide) ?_
                refine lv_icmp_ne (tgt := 163) hx hb dX1_look_144 (by decide) (fun c_18 => ?_) (fun c_18 => ?_)
                · skip
                  refine lv_iconst (v := 0) hx hb dX1_look_163 (by decide) ?_
                  refine lv_istore (lv' := [(4, .int 0), (3, .int (nI (wd (B a9)))), (2, .int (nI (B a9))), (0, .ref h), (1, .int (nI a9))]) hx hb dX1_look_164 hl (by decide) rfl (fun ls hl => ?_)
                  refine lv_aload_n hx hb dX1_look_166 rfl (lv_at hl 3 rfl) ?_
                  refine lv_iload hx hb dX1_look_167 (lv_at hl 0 rfl) ?_
                  refine lv_bipush (v := 127) hx hb dX1_look_169 (by decide) ?_
                  refine lv_icmp_le (tgt := 183) hx hb dX1_look_171 (by decide) (fun c_19 => ?_) (fun c_19 => ?_)
                  · skip
                    refine lv_iload hx hb dX1_look_183 (lv_at hl 0 rfl) ?_
                    refine va_put (D := (dC, dI)) (ci := 1) (v := .int 0) (ty := .int) (C := RX1) (T := TX1) (N := 17) hx hb hts hin0 tyX1 tyX1_ok nmX1 hown hK hP hD hS 0 rfl rfl 6 (by decide) fl65 (fun _ h9 => h9) rfl (by decide +kernel) rfl rfl (Nat.le_of_ble_eq_true rfl) dX1_look_185 (fun H locs hP hD hS => ?_)
                    have hP : va_P (dC, dI) vwCl (w1 h a b cI cJ f g zt (nI n8) zc 1 (nv B a9) 0 (nI (hd (B a9))) zpa zch zlk zlo zhi zlp zll zlv) H := hP
                    have hD : va_D A (w1 h a b cI cJ f g zt (nI n8) zc 1 (nv B a9) 0 (nI (hd (B a9))) zpa zch zlk zlo zhi zlp zll zlv) := hD
                    refine lv_aload_n hx hb dX1_look_188 rfl (lv_at hl 3 rfl) ?_
                    refine lv_lconst (v := 0) hx hb dX1_look_189 (by decide) ?_
                    refine va_put (D := (dC, dI)) (ci := 1) (v := .long 0) (ty := .long) (C := RX1) (T := TX1) (N := 17) hx hb hts hin0 tyX1 tyX1_ok nmX1 hown hK hP hD hS 0 rfl rfl 8 (by decide) fl68 (fun _ h9 => h9) rfl (by decide +kernel) rfl rfl (Nat.le_of_ble_eq_true rfl) dX1_look_190 (fun H locs hP hD hS => ?_)
                    have hP : va_P (dC, dI) vwCl (w1 h a b cI cJ f g zt (nI n8) zc 1 (nv B a9) 0 (nI (hd (B a9))) 0 zch zlk zlo zhi zlp zll zlv) H := hP
                    have hD : va_D A (w1 h a b cI cJ f g zt (nI n8) zc 1 (nv B a9) 0 (nI (hd (B a9))) 0 zch zlk zlo zhi zlp zll zlv) := hD
                    refine lv_aload_n hx hb dX1_look_193 rfl (lv_at hl 3 rfl) ?_
                    refine lv_lconst (v := 0) hx hb dX1_look_194 (by decide) ?_
                    refine va_put (D := (dC, dI)) (ci := 1) (v := .long 0) (ty := .long) (C := RX1) (T := TX1) (N := 17) hx hb hts hin0 tyX1 tyX1_ok nmX1 hown hK hP hD hS 0 rfl rfl 9 (by decide) fl71 (fun _ h9 => h9) rfl (by decide +kernel) rfl rfl (Nat.le_of_ble_eq_true rfl) dX1_look_195 (fun H locs hP hD hS => ?_)
                    have hP : va_P (dC, dI) vwCl (w1 h a b cI cJ f g zt (nI n8) zc 1 (nv B a9) 0 (nI (hd (B a9))) 0 0 zlk zlo zhi zlp zll zlv) H := hP
                    have hD : va_D A (w1 h a b cI cJ f g zt (nI n8) zc 1 (nv B a9) 0 (nI (hd (B a9))) 0 0 zlk zlo zhi zlp zll zlv) := hD
                    refine lv_aload_n hx hb dX1_look_198 rfl (lv_at hl 3 rfl) ?_
                    refine va_get (D := (dC, dI)) (ci := 1) (v := .int 1) (C := RX1) (T := TX1) (N := 17) hx hb hts hin0 hown hK hP 0 rfl rfl 4 (by decide) fl47 (fun _ h9 => h9) rfl dX1_look_199 ?_
                    refine lv_bipush (v := 7) hx hb dX1_look_202 (by decide) ?_
                    refine lv_icmp_le (tgt := 221) hx hb dX1_look_204 (by decide) (fun c_20 => ?_) (fun c_20 => ?_)
                    · skip
                      have q6 : 8 ≤ kd (B a9) → nv B a9 ≤ 2147483647 := fun z => absurd z (by rw [hk]; decide)
                      refine lv_aload_n hx hb dX1_look_221 rfl (lv_at hl 3 rfl) ?_
                      refine va_get (D := (dC, dI)) (ci := 1) (v := .int 1) (C := RX1) (T := TX1) (N := 17) hx hb hts hin0 hown hK hP 0 rfl rfl 4 (by decide) fl47 (fun _ h9 => h9) rfl dX1_look_222 ?_
                      refine lv_bipush (v := 8) hx hb dX1_look_225 (by decide) ?_
                      refine lv_icmp_eq (tgt := 248) hx hb dX1_look_227 (by decide) (fun c_21 => ?_) (fun c_21 => ?_)
                      · skip
                        exact absurd c_21 (by decide)
                      · skip
                        refine lv_aload_n hx hb dX1_look_230 rfl (lv_at hl 3 rfl) ?_
                        refine va_get (D := (dC, dI)) (ci := 1) (v := .int 1) (C := RX1) (T := TX1) (N := 17) hx hb hts hin0 hown hK hP 0 rfl rfl 4 (by decide) fl47 (fun _ h9 => h9) rfl dX1_look_231 ?_
                        refine lv_bipush (v := 9) hx hb dX1_look_234 (by decide) ?_
                        refine lv_icmp_eq (tgt := 248) hx hb dX1_look_236 (by decide) (fun c_22 => ?_) (fun c_22 => ?_)
                        · skip
                          exact absurd c_22 (by decide)
                        · skip
                          refine lv_aload_n hx hb dX1_look_239 rfl (lv_at hl 3 rfl) ?_
                          refine va_get (D := (dC, dI)) (ci := 1) (v := .int 1) (C := RX1) (T := TX1) (N := 17) hx hb hts hin0 hown hK hP 0 rfl rfl 4 (by decide) fl47 (fun _ h9 => h9) rfl dX1_look_240 ?_
                          refine lv_bipush (v := 12) hx hb dX1_look_243 (by decide) ?_
                          refine lv_icmp_ne (tgt := 256) hx hb dX1_look_245 (by decide) (fun c_23 => ?_) (fun c_23 => ?_)
                          · skip
                            refine lv_aload_n hx hb dX1_look_256 rfl (lv_at hl 3 rfl) ?_
                            refine va_get (D := (dC, dI)) (ci := 1) (v := .int 1) (C := RX1) (T := TX1) (N := 17) hx hb hts hin0 hown hK hP 0 rfl rfl 4 (by decide) fl47 (fun _ h9 => h9) rfl dX1_look_257 ?_
                            refine lv_bipush (v := 10) hx hb dX1_look_260 (by decide) ?_
                            refine lv_icmp_ne (tgt := 273) hx hb dX1_look_262 (by decide) (fun c_24 => ?_) (fun c_24 => ?_)
                            · skip
                              refine lv_aload_n hx hb dX1_look_273 rfl (lv_at hl 3 rfl) ?_
                              refine va_get (D := (dC, dI)) (ci := 1) (v := .int 1) (C := RX1) (T := TX1) (N := 17) hx hb hts hin0 hown hK hP 0 rfl rfl 4 (by decide) fl47 (fun _ h9 => h9) rfl dX1_look_274 ?_
                              refine lv_bipush (v := 11) hx hb dX1_look_277 (by decide) ?_
                              refine lv_icmp_ne (tgt := 294) hx hb dX1_look_279 (by decide) (fun c_25 => ?_) (fun c_25 => ?_)
                              · skip
                                have q7 : paL B a9 = 0 := by simp [paL, hp, hk]
                                refine lv_iload_n hx hb dX1_look_294 rfl (lv_at hl 4 rfl) ?_
                                refine lv_aload_n hx hb dX1_look_295 rfl (lv_at hl 3 rfl) ?_
                                refine va_get (D := (dC, dI)) (ci := 1) (v := .int (nI (hd (B a9)))) (C := RX1) (T := TX1) (N := 17) hx hb hts hin0 hown hK hP 0 rfl rfl 7 (by decide) fl50 (fun _ h9 => h9) rfl dX1_look_296 ?_
                                refine lv_iadd hx hb dX1_look_299 ?_
                                refine lv_i2l hx hb dX1_look_300 rfl ?_
                                refine lv_aload_n hx hb dX1_look_301 rfl (lv_at hl 3 rfl) ?_
                                refine va_get (D := (dC, dI)) (ci := 1) (v := .long 0) (C := RX1) (T := TX1) (N := 17) hx hb hts hin0 hown hK hP 0 rfl rfl 8 (by decide) fl68 (fun _ h9 => h9) rfl dX1_look_302 ?_
                                refine lv_ladd hx hb dX1_look_305 ?_
                                refine lv_aload_n hx hb dX1_look_306 rfl (lv_at hl 3 rfl) ?_
                                refine va_get (D := (dC, dI)) (ci := 1) (v := .int (nI n8)) (C := RX1) (T := TX1) (N := 17) hx hb hts hin0 hown hK hP 0 rfl rfl 2 (by decide) fl28 (fun _ h9 => h9) rfl dX1_look_307 ?_
                                refine lv_i2l hx hb dX1_look_310 rfl ?_
                                refine W.lcmp hx hb dX1_look_311 ?_
                                refine lv_if_le (tgt := 320) hx hb dX1_look_312 (by decide) (fun c_26 => ?_) (fun c_26 => ?_)
                                · skip
                                  have c_26 := (lg_cmp_le ((((nI a9) + (nI (hd (B a9)))).toInt64) + 0) ((nI n8).toInt64)).mp c_26
                                  refine lv_iconst (v := 0) hx hb dX1_look_320 (by decide) ?_
                                  have hP9 : va_P (dC, dI) vwCl ((fun (u : Int32 × Int64 × Int32 × Int32 × Int64 × Int64) => w1 h a b cI cJ f g zt (nI n8) zc u.1 u.2.1 u.2.2.1 u.2.2.2.1 u.2.2.2.2.1 u.2.2.2.2.2 zlk zlo zhi zlp zll zlv) ((1, nv B a9, 0, nI (hd (B a9)), 0, 0))) H := hP
                                  have hD9 : va_D A ((fun (u : Int32 × Int64 × Int32 × Int32 × Int64 × Int64) => w1 h a b cI cJ f g zt (nI n8) zc u.1 u.2.1 u.2.2.1 u.2.2.2.1 u.2.2.2.2.1 u.2.2.2.2.2 zlk zlo zhi zlp zll zlv) ((1, nv B a9, 0, nI (hd (B a9)), 0, 0))) := hD
                                  exact W.iret (v := 0) hx hb hr (fun t ht hW => ⟨⟨0, (1, nv B a9, 0, nI (hd (B a9)), 0, 0), rfl, (by have q8 := (lk_end hB hn8 q1 q2 q3 q6).1 (by rw [q7]; exact c_26); exact Or.inr ⟨by rw [q8]; exact nI_pos (by have := kd_le _ (hB a9); omega), rfl, by rw [hk]; rfl, rfl, fun z => absurd (hk.symm.trans z) (by decide), rfl, q7.symm, by simp [ch, hk]⟩), by rw [ht]; exact hP9, va_K.moved hW.alike hK, hD9⟩, hS.F ht⟩) hS.2.2 dX1_look_321
                                · skip
                                  have c_26 := (not_congr (lg_cmp_le ((((nI a9) + (nI (hd (B a9)))).toInt64) + 0) ((nI n8).toInt64))).mp c_26
                                  refine lv_bipush (v := -2) hx hb dX1_look_315 (by decide) ?_
                                  refine lv_goto (tgt := 321) hx hb dX1_look_317 (by decide) ?_
                                  have hP9 : va_P (dC, dI) vwCl ((fun (u : Int32 × Int64 × Int32 × Int32 × Int64 × Int64) => w1 h a b cI cJ f g zt (nI n8) zc u.1 u.2.1 u.2.2.1 u.2.2.2.1 u.2.2.2.2.1 u.2.2.2.2.2 zlk zlo zhi zlp zll zlv) ((1, nv B a9, 0, nI (hd (B a9)), 0, 0))) H := hP
                                  have hD9 : va_D A ((fun (u : Int32 × Int64 × Int32 × Int32 × Int64 × Int64) => w1 h a b cI cJ f g zt (nI n8) zc u.1 u.2.1 u.2.2.1 u.2.2.2.1 u.2.2.2.2.1 u.2.2.2.2.2 zlk zlo zhi zlp zll zlv) ((1, nv B a9, 0, nI (hd (B a9)), 0, 0))) := hD
                                  exact W.iret (v := -2) hx hb hr (fun t ht hW => ⟨⟨-2, (1, nv B a9, 0, nI (hd (B a9)), 0, 0), rfl, (lkneg ((lk_end hB hn8 q1 q2 q3 q6).2 (by rw [q7]; exact c_26)) (by decide)), by rw [ht]; exact hP9, va_K.moved hW.alike hK, hD9⟩, hS.F ht⟩) hS.2.2 dX1_look_321
                              · skip
                                exact absurd c_25 (by decide)
                            · skip
                              exact absurd c_24 (by decide)
                          · skip
                            exact absurd c_23 (by decide)
                    · skip
                      exact absurd (by decide) c_20
                  · skip
                    exact absurd (by decide) c_19
                · skip
                  exact absurd c_18 (by decide)
              · skip
                exact absurd c_17 (by decide)
            · skip
              have q5 : wd (B a9) = 0 := (nI_z (by omega)).mp c_12
              refine lv_iload_n hx hb dX1_look_84 rfl (lv_at hl 1 rfl) ?_
              refine gsl (As := [.int (nI (B a9))]) (rest := [.ref h]) ⟨hx, hb, hml, hown, hts⟩ (c_X1_ownNumber l dC dI tk tw _ (B a9) (hB a9)) (va_cwS 1 hts gX1_look_X1_ownNumber rfl rfl rfl (by decide +kernel) ⟨Nat.le_of_ble_eq_true rfl, Nat.le_of_ble_eq_true rfl⟩) hP hS hA hZ rfl hl.1 rfl (Nat.le_of_ble_eq_true rfl) dX1_look_85 ⟨Nat.le_of_ble_eq_true rfl, Nat.le_of_ble_eq_true rfl⟩ (fun r_28 H locs hw_27 hP hS => ?_)
              obtain rfl : r_28 = nv B a9 := hw_27.trans (nv_w0 q5).symm
              refine lv_goto (tgt := 99) hx hb dX1_look_88 (by decide) ?_
              refine va_put (D := (dC, dI)) (ci := 1) (v := .long (nv B a9)) (ty := .long) (C := RX1) (T := TX1) (N := 17) hx hb hts hin0 tyX1 tyX1_ok nmX1 hown hK hP hD hS 0 rfl rfl 5 (by decide) fl61 (fun _ h9 => h9) rfl (by decide +kernel) rfl rfl (Nat.le_of_ble_eq_true rfl) dX1_look_99 (fun H locs hP hD hS => ?_)
              have hP : va_P (dC, dI) vwCl (w1 h a b cI cJ f g zt (nI n8) zc 1 (nv B a9) zty (nI (hd (B a9))) zpa zch zlk zlo zhi zlp zll zlv) H := hP
              have hD : va_D A (w1 h a b cI cJ f g zt (nI n8) zc 1 (nv B a9) zty (nI (hd (B a9))) zpa zch zlk zlo zhi zlp zll zlv) := hD
              refine lv_aload_n hx hb dX1_look_102 rfl (lv_at hl 2 rfl) ?_
              refine va_get (D := (dC, dI)) (ci := 1) (v := .int 1) (C := RX1) (T := TX1) (N := 17) hx hb hts hin0 hown hK hP 0 rfl rfl 4 (by decide) fl47 (fun _ h9 => h9) rfl dX1_look_103 ?_
              refine lv_iconst (v := 5) hx hb dX1_look_106 (by decide) ?_
              refine lv_icmp_ne (tgt := 138) hx hb dX1_look_107 (by decide) (fun c_29 => ?_) (fun c_29 => ?_)
              · skip
                refine lv_aload_n hx hb dX1_look_138 rfl (lv_at hl 2 rfl) ?_
                refine va_get (D := (dC, dI)) (ci := 1) (v := .int 1) (C := RX1) (T := TX1) (N := 17) hx hb hts hin0 hown hK hP 0 rfl rfl 4 (by decide) fl47 (fun _ h9 => h9) rfl dX1_look_139 ?_
                refine lv_bipush (v := 12) hx hb dX1_look_142 (by decide) ?_
                refine lv_icmp_ne (tgt := 163) hx hb dX1_look_144 (by decide) (fun c_30 => ?_) (fun c_30 => ?_)
                · skip
                  refine lv_iconst (v := 0) hx hb dX1_look_163 (by decide) ?_
                  refine lv_istore (lv' := [(4, .int 0), (3, .int (nI (wd (B a9)))), (2, .int (nI (B a9))), (0, .ref h), (1, .int (nI a9))]) hx hb dX1_look_164 hl (by decide) rfl (fun ls hl => ?_)
                  refine lv_aload_n hx hb dX1_look_166 rfl (lv_at hl 3 rfl) ?_
                  refine lv_iload hx hb dX1_look_167 (lv_at hl 0 rfl) ?_
                  refine lv_bipush (v := 127) hx hb dX1_look_169 (by decide) ?_
                  refine lv_icmp_le (tgt := 183) hx hb dX1_look_171 (by decide) (fun c_31 => ?_) (fun c_31 => ?_)
                  · skip
                    refine lv_iload hx hb dX1_look_183 (lv_at hl 0 rfl) ?_
                    refine va_put (D := (dC, dI)) (ci := 1) (v := .int 0) (ty := .int) (C := RX1) (T := TX1) (N := 17) hx hb hts hin0 tyX1 tyX1_ok nmX1 hown hK hP hD hS 0 rfl rfl 6 (by decide) fl65 (fun _ h9 => h9) rfl (by decide +kernel) rfl rfl (Nat.le_of_ble_eq_true rfl) dX1_look_185 (fun H locs hP hD hS => ?_)
                    have hP : va_P (dC, dI) vwCl (w1 h a b cI cJ f g zt (nI n8) zc 1 (nv B a9) 0 (nI (hd (B a9))) zpa zch zlk zlo zhi zlp zll zlv) H := hP
                    have hD : va_D A (w1 h a b cI cJ f g zt (nI n8) zc 1 (nv B a9) 0 (nI (hd (B a9))) zpa zch zlk zlo zhi zlp zll zlv) := hD
                    refine lv_aload_n hx hb dX1_look_188 rfl (lv_at hl 3 rfl) ?_
                    refine lv_lconst (v := 0) hx hb dX1_look_189 (by decide) ?_
                    refine va_put (D := (dC, dI)) (ci := 1) (v := .long 0) (ty := .long) (C := RX1) (T := TX1) (N := 17) hx hb hts hin0 tyX1 tyX1_ok nmX1 hown hK hP hD hS 0 rfl rfl 8 (by decide) fl68 (fun _ h9 => h9) rfl (by decide +kernel) rfl rfl (Nat.le_of_ble_eq_true rfl) dX1_look_190 (fun H locs hP hD hS => ?_)
                    have hP : va_P (dC, dI) vwCl (w1 h a b cI cJ f g zt (nI n8) zc 1 (nv B a9) 0 (nI (hd (B a9))) 0 zch zlk zlo zhi zlp zll zlv) H := hP
                    have hD : va_D A (w1 h a b cI cJ f g zt (nI n8) zc 1 (nv B a9) 0 (nI (hd (B a9))) 0 zch zlk zlo zhi zlp zll zlv) := hD
                    refine lv_aload_n hx hb dX1_look_193 rfl (lv_at hl 3 rfl) ?_
                    refine lv_lconst (v := 0) hx hb dX1_look_194 (by decide) ?_
                    refine va_put (D := (dC, dI)) (ci := 1) (v := .long 0) (ty := .long) (C := RX1) (T := TX1) (N := 17) hx hb hts hin0 tyX1 tyX1_ok nmX1 hown hK hP hD hS 0 rfl rfl 9 (by decide) fl71 (fun _ h9 => h9) rfl (by decide +kernel) rfl rfl (Nat.le_of_ble_eq_true rfl) dX1_look_195 (fun H locs hP hD hS => ?_)
                    have hP : va_P (dC, dI) vwCl (w1 h a b cI cJ f g zt (nI n8) zc 1 (nv B a9) 0 (nI (hd (B a9))) 0 0 zlk zlo zhi zlp zll zlv) H := hP
                    have hD : va_D A (w1 h a b cI cJ f g zt (nI n8) zc 1 (nv B a9) 0 (nI (hd (B a9))) 0 0 zlk zlo zhi zlp zll zlv) := hD
                    refine lv_aload_n hx hb dX1_look_198 rfl (lv_at hl 3 rfl) ?_
                    refine va_get (D := (dC, dI)) (ci := 1) (v := .int 1) (C := RX1) (T := TX1) (N := 17) hx hb hts hin0 hown hK hP 0 rfl rfl 4 (by decide) fl47 (fun _ h9 => h9) rfl dX1_look_199 ?_
                    refine lv_bipush (v := 7) hx hb dX1_look_202 (by decide) ?_
                    refine lv_icmp_le (tgt := 221) hx hb dX1_look_204 (by decide) (fun c_32 => ?_) (fun c_32 => ?_)
                    · skip
                      have q6 : 8 ≤ kd (B a9) → nv B a9 ≤ 2147483647 := fun z => absurd z (by rw [hk]; decide)
                      refine lv_aload_n hx hb dX1_look_221 rfl (lv_at hl 3 rfl) ?_
                      refine va_get (D := (dC, dI)) (ci := 1) (v := .int 1) (C := RX1) (T := TX1) (N := 17) hx hb hts hin0 hown hK hP 0 rfl rfl 4 (by decide) fl47 (fun _ h9 => h9) rfl dX1_look_222 ?_
                      refine lv_bipush (v := 8) hx hb dX1_look_225 (by decide) ?_
                      refine lv_icmp_eq (tgt := 248) hx hb dX1_look_227 (by decide) (fun c_33 => ?_) (fun c_33 => ?_)
                      · skip
                        exact absurd c_33 (by decide)
                      · skip
                        refine lv_aload_n hx hb dX1_look_230 rfl (lv_at hl 3 rfl) ?_
                        refine va_get (D := (dC, dI)) (ci := 1) (v := .int 1) (C := RX1) (T := TX1) (N := 17) hx hb hts hin0 hown hK hP 0 rfl rfl 4 (by decide) fl47 (fun _ h9 => h9) rfl dX1_look_231 ?_
                        refine lv_bipush (v := 9) hx hb dX1_look_234 (by decide) ?_
                        refine lv_icmp_eq (tgt := 248) hx hb dX1_look_236 (by decide) (fun c_34 => ?_) (fun c_34 => ?_)
                        · skip
                          exact absurd c_34 (by decide)
                        · skip
                          refine lv_aload_n hx hb dX1_look_239 rfl (lv_at hl 3 rfl) ?_
                          refine va_get (D := (dC, dI)) (ci := 1) (v := .int 1) (C := RX1) (T := TX1) (N := 17) hx hb hts hin0 hown hK hP 0 rfl rfl 4 (by decide) fl47 (fun _ h9 => h9) rfl dX1_look_240 ?_
                          refine lv_bipush (v := 12) hx hb dX1_look_243 (by decide) ?_
                          refine lv_icmp_ne (tgt := 256) hx hb dX1_look_245 (by decide) (fun c_35 => ?_) (fun c_35 => ?_)
                          · skip
                            refine lv_aload_n hx hb dX1_look_256 rfl (lv_at hl 3 rfl) ?_
                            refine va_get (D := (dC, dI)) (ci := 1) (v := .int 1) (C := RX1) (T := TX1) (N := 17) hx hb hts hin0 hown hK hP 0 rfl rfl 4 (by decide) fl47 (fun _ h9 => h9) rfl dX1_look_257 ?_
                            refine lv_bipush (v := 10) hx hb dX1_look_260 (by decide) ?_
                            refine lv_icmp_ne (tgt := 273) hx hb dX1_look_262 (by decide) (fun c_36 => ?_) (fun c_36 => ?_)
                            · skip
                              refine lv_aload_n hx hb dX1_look_273 rfl (lv_at hl 3 rfl) ?_
                              refine va_get (D := (dC, dI)) (ci := 1) (v := .int 1) (C := RX1) (T := TX1) (N := 17) hx hb hts hin0 hown hK hP 0 rfl rfl 4 (by decide) fl47 (fun _ h9 => h9) rfl dX1_look_274 ?_
                              refine lv_bipush (v := 11) hx hb dX1_look_277 (by decide) ?_
                              refine lv_icmp_ne (tgt := 294) hx hb dX1_look_279 (by decide) (fun c_37 => ?_) (fun c_37 => ?_)
                              · skip
                                have q7 : paL B a9 = 0 := by simp [paL, hp, hk]
                                refine lv_iload_n hx hb dX1_look_294 rfl (lv_at hl 4 rfl) ?_
                                refine lv_aload_n hx hb dX1_look_295 rfl (lv_at hl 3 rfl) ?_
                                refine va_get (D := (dC, dI)) (ci := 1) (v := .int (nI (hd (B a9)))) (C := RX1) (T := TX1) (N := 17) hx hb hts hin0 hown hK hP 0 rfl rfl 7 (by decide) fl50 (fun _ h9 => h9) rfl dX1_look_296 ?_
                                refine lv_iadd hx hb dX1_look_299 ?_
                                refine lv_i2l hx hb dX1_look_300 rfl ?_
                                refine lv_aload_n hx hb dX1_look_301 rfl (lv_at hl 3 rfl) ?_
                                refine va_get (D := (dC, dI)) (ci := 1) (v := .long 0) (C := RX1) (T := TX1) (N := 17) hx hb hts hin0 hown hK hP 0 rfl rfl 8 (by decide) fl68 (fun _ h9 => h9) rfl dX1_look_302 ?_
                                refine lv_ladd hx hb dX1_look_305 ?_
                                refine lv_aload_n hx hb dX1_look_306 rfl (lv_at hl 3 rfl) ?_
                                refine va_get (D := (dC, dI)) (ci := 1) (v := .int (nI n8)) (C := RX1) (T := TX1) (N := 17) hx hb hts hin0 hown hK hP 0 rfl rfl 2 (by decide) fl28 (fun _ h9 => h9) rfl dX1_look_307 ?_
                                refine lv_i2l hx hb dX1_look_310 rfl ?_
                                refine W.lcmp hx hb dX1_look_311 ?_
                                refine lv_if_le (tgt := 320) hx hb dX1_look_312 (by decide) (fun c_38 => ?_) (fun c_38 => ?_)
                                · skip
                                  have c_38 := (lg_cmp_le ((((nI a9) + (nI (hd (B a9)))).toInt64) + 0) ((nI n8).toInt64)).mp c_38
                                  refine lv_iconst (v := 0) hx hb dX1_look_320 (by decide) ?_
                                  have hP9 : va_P (dC, dI) vwCl ((fun (u : Int32 × Int64 × Int32 × Int32 × Int64 × Int64) => w1 h a b cI cJ f g zt (nI n8) zc u.1 u.2.1 u.2.2.1 u.2.2.2.1 u.2.2.2.2.1 u.2.2.2.2.2 zlk zlo zhi zlp zll zlv) ((1, nv B a9, 0, nI (hd (B a9)), 0, 0))) H := hP
                                  have hD9 : va_D A ((fun (u : Int32 × Int64 × Int32 × Int32 × Int64 × Int64) => w1 h a b cI cJ f g zt (nI n8) zc u.1 u.2.1 u.2.2.1 u.2.2.2.1 u.2.2.2.2.1 u.2.2.2.2.2 zlk zlo zhi zlp zll zlv) ((1, nv B a9, 0, nI (hd (B a9)), 0, 0))) := hD
                                  exact W.iret (v := 0) hx hb hr (fun t ht hW => ⟨⟨0, (1, nv B a9, 0, nI (hd (B a9)), 0, 0), rfl, (by have q8 := (lk_end hB hn8 q1 q2 q3 q6).1 (by rw [q7]; exact c_38); exact Or.inr ⟨by rw [q8]; exact nI_pos (by have := kd_le _ (hB a9); omega), rfl, by rw [hk]; rfl, rfl, fun z => absurd (hk.symm.trans z) (by decide), rfl, q7.symm, by simp [ch, hk]⟩), by rw [ht]; exact hP9, va_K.moved hW.alike hK, hD9⟩, hS.F ht⟩) hS.2.2 dX1_look_321
                                · skip
                                  have c_38 := (not_congr (lg_cmp_le ((((nI a9) + (nI (hd (B a9)))).toInt64) + 0) ((nI n8).toInt64))).mp c_38
                                  refine lv_bipush (v := -2) hx hb dX1_look_315 (by decide) ?_
                                  refine lv_goto (tgt := 321) hx hb dX1_look_317 (by decide) ?_
                                  have hP9 : va_P (dC, dI) vwCl ((fun (u : Int32 × Int64 × Int32 × Int32 × Int64 × Int64) => w1 h a b cI cJ f g zt (nI n8) zc u.1 u.2.1 u.2.2.1 u.2.2.2.1 u.2.2.2.2.1 u.2.2.2.2.2 zlk zlo zhi zlp zll zlv) ((1, nv B a9, 0, nI (hd (B a9)), 0, 0))) H := hP
                                  have hD9 : va_D A ((fun (u : Int32 × Int64 × Int32 × Int32 × Int64 × Int64) => w1 h a b cI cJ f g zt (nI n8) zc u.1 u.2.1 u.2.2.1 u.2.2.2.1 u.2.2.2.2.1 u.2.2.2.2.2 zlk zlo zhi zlp zll zlv) ((1, nv B a9, 0, nI (hd (B a9)), 0, 0))) := hD
                                  exact W.iret (v := -2) hx hb hr (fun t ht hW => ⟨⟨-2, (1, nv B a9, 0, nI (hd (B a9)), 0, 0), rfl, (lkneg ((lk_end hB hn8 q1 q2 q3 q6).2 (by rw [q7]; exact c_38)) (by decide)), by rw [ht]; exact hP9, va_K.moved hW.alike hK, hD9⟩, hS.F ht⟩) hS.2.2 dX1_look_321
                              · skip
                                exact absurd c_37 (by decide)
                            · skip
                              exact absurd c_36 (by decide)
                          · skip
                            exact absurd c_35 (by decide)
                    · skip
                      exact absurd (by decide) c_32
                  · skip
                    exact absurd (by decide) c_31
                · skip
                  exact absurd c_30 (by decide)
              · skip
                exact absurd c_29 (by decide)
          · skip
            refine lv_bipush (v := -2) hx hb dX1_look_76 (by decide) ?_
            have hP9 : va_P (dC, dI) vwCl ((fun (u : Int32 × Int64 × Int32 × Int32 × Int64 × Int64) => w1 h a b cI cJ f g zt (nI n8) zc u.1 u.2.1 u.2.2.1 u.2.2.2.1 u.2.2.2.2.1 u.2.2.2.2.2 zlk zlo zhi zlp zll zlv) ((1, znu, zty, nI (hd (B a9)), zpa, zch))) H := hP
            have hD9 : va_D A ((fun (u : Int32 × Int64 × Int32 × Int32 × Int64 × Int64) => w1 h a b cI cJ f g zt (nI n8) zc u.1 u.2.1 u.2.2.1 u.2.2.2.1 u.2.2.2.2.1 u.2.2.2.2.2 zlk zlo zhi zlp zll zlv) ((1, znu, zty, nI (hd (B a9)), zpa, zch))) := hD
            exact W.iret (v := -2) hx hb hr (fun t ht hW => ⟨⟨-2, (1, znu, zty, nI (hd (B a9)), zpa, zch), rfl, (lkneg (lk3 hB hn8 q1 q2 (by have q4 := hd_le _ (hB a9); have z := (not_congr (nI_leI (a := a9 + hd (B a9)) (b := n8) (by omega) (by omega))).mp c_11; omega)) (by decide)), by rw [ht]; exact hP9, va_K.moved hW.alike hK, hD9⟩, hS.F ht⟩) hS.2.2 dX1_look_78
        · skip
          exact absurd c_8 (by decide)
      · skip
        have q2 : ¬ B a9 = 193 := fun z => c_3 (by rw [z]; rfl)
        refine lv_iload_n hx hb dX1_look_28 rfl (lv_at hl 0 rfl) ?_
        refine gsi (As := [.int (nI (B a9))]) (rest := []) ⟨hx, hb, hml, hown, hts⟩ (c_X1_widthOf l dC dI tk tw _ (B a9) (hB a9)) (va_cwS 1 hts gX1_look_X1_widthOf rfl rfl rfl (by decide +kernel) ⟨Nat.le_of_ble_eq_true rfl, Nat.le_of_ble_eq_true rfl⟩) hP hS hA hZ rfl hl.1 rfl (Nat.le_of_ble_eq_true rfl) dX1_look_29 ⟨Nat.le_of_ble_eq_true rfl, Nat.le_of_ble_eq_true rfl⟩ (fun r_40 H locs hw_39 hP hS => ?_)
        obtain rfl : r_40 = nI (wd (B a9)) := hw_39
        refine lv_istore_n (lv' := [(3, .int (nI (wd (B a9)))), (2, .int (nI (B a9))), (0, .ref h), (1, .int (nI a9))]) hx hb dX1_look_32 rfl hl (by decide) rfl (fun ls hl => ?_)
        refine lv_aload_n hx hb dX1_look_33 rfl (lv_at hl 2 rfl) ?_
        refine lv_iload_n hx hb dX1_look_34 rfl (lv_at hl 1 rfl) ?_
        refine gsi (As := [.int (nI (B a9))]) (rest := [.ref h]) ⟨hx, hb, hml, hown, hts⟩ (c_X1_kindOf l dC dI tk tw _ (B a9) (hB a9) q2) (va_cwS 1 hts gX1_look_X1_kindOf rfl rfl rfl (by decide +kernel) ⟨Nat.le_of_ble_eq_true rfl, Nat.le_of_ble_eq_true rfl⟩) hP hS hA hZ rfl hl.1 rfl (Nat.le_of_ble_eq_true rfl) dX1_look_35 ⟨Nat.le_of_ble_eq_true rfl, Nat.le_of_ble_eq_true rfl⟩ (fun r_42 H locs hw_41 hP hS => ?_)
        obtain rfl : r_42 = 2 := hw_41.trans (by rw [hk]; rfl)
        refine va_put (D := (dC, dI)) (ci := 1) (v := .int 2) (ty := .int) (C := RX1) (T := TX1) (N := 17) hx hb hts hin0 tyX1 tyX1_ok nmX1 hown hK hP hD hS 0 rfl rfl 4 (by decide) fl47 (fun _ h9 => h9) rfl (by decide +kernel) rfl rfl (Nat.le_of_ble_eq_true rfl) dX1_look_38 (fun H locs hP hD hS => ?_)
        have hP : va_P (dC, dI) vwCl (w1 h a b cI cJ f g zt (nI n8) zc 2 znu zty zhd zpa zch zlk zlo zhi zlp zll zlv) H := hP
        have hD : va_D A (w1 h a b cI cJ f g zt (nI n8) zc 2 znu zty zhd zpa zch zlk zlo zhi zlp zll zlv) := hD
        refine lv_aload_n hx hb dX1_look_41 rfl (lv_at hl 2 rfl) ?_
        refine lv_iconst (v := 1) hx hb dX1_look_42 (by decide) ?_
        refine lv_iload_n hx hb dX1_look_43 rfl (lv_at hl 0 rfl) ?_
        refine lv_iadd hx hb dX1_look_44 ?_
        refine lv_aload_n hx hb dX1_look_45 rfl (lv_at hl 2 rfl) ?_
        refine va_get (D := (dC, dI)) (ci := 1) (v := .int 2) (C := RX1) (T := TX1) (N := 17) hx hb hts hin0 hown hK hP 0 rfl rfl 4 (by decide) fl47 (fun _ h9 => h9) rfl dX1_look_46 ?_
        refine lv_bipush (v := 12) hx hb dX1_look_49 (by decide) ?_
        refine lv_icmp_ne (tgt := 58) hx hb dX1_look_51 (by decide) (fun c_43 => ?_) (fun c_43 => ?_)
        · skip
          refine lv_iconst (v := 0) hx hb dX1_look_58 (by decide) ?_
          refine lv_iadd hx hb dX1_look_59 ?_
          have e_44 : ((1 + (nI (wd (B a9)))) + 0 : Int32) = nI (hd (B a9)) := hdn (by rw [hk]; decide)
          rw [e_44]
          refine va_put (D := (dC, dI)) (ci := 1) (v := .int (nI (hd (B a9)))) (ty := .int) (C := RX1) (T := TX1) (N := 17) hx hb hts hin0 tyX1 tyX1_ok nmX1 hown hK hP hD hS 0 rfl rfl 7 (by decide) fl50 (fun _ h9 => h9) rfl (by decide +kernel) rfl rfl (Nat.le_of_ble_eq_true rfl) dX1_look_60 (fun H locs hP hD hS => ?_)
          have hP : va_P (dC, dI) vwCl (w1 h a b cI cJ f g zt (nI n8) zc 2 znu zty (nI (hd (B a9))) zpa zch zlk zlo zhi zlp zll zlv) H := hP
          have hD : va_D A (w1 h a b cI cJ f g zt (nI n8) zc 2 znu zty (nI (hd (B a9))) zpa zch zlk zlo zhi zlp zll zlv) := hD
          refine lv_iload_n hx hb dX1_look_63 rfl (lv_at hl 3 rfl) ?_
          refine lv_aload_n hx hb dX1_look_64 rfl (lv_at hl 2 rfl) ?_
          refine va_get (D := (dC, dI)) (ci := 1) (v := .int (nI (hd (B a9)))) (C := RX1) (T := TX1) (N := 17) hx hb hts hin0 hown hK hP 0 rfl rfl 7 (by decide) fl50 (fun _ h9 => h9) rfl dX1_look_65 ?_
          refine lv_iadd hx hb dX1_look_68 ?_
          have e_45 : ((nI a9) + (nI (hd (B a9))) : Int32) = nI (a9 + hd (B a9)) := nI_add _ _
          rw [e_45]
          refine lv_aload_n hx hb dX1_look_69 rfl (lv_at hl 2 rfl) ?_
          refine va_get (D := (dC, dI)) (ci := 1) (v := .int (nI n8)) (C := RX1) (T := TX1) (N := 17) hx hb hts hin0 hown hK hP 0 rfl rfl 2 (by decide) fl28 (fun _ h9 => h9) rfl dX1_look_70 ?_
          refine lv_icmp_le (tgt := 79) hx hb dX1_look_73 (by decide) (fun c_46 => ?_) (fun c_46 => ?_)
          · skip
            have q4 := hd_le _ (hB a9)
            have q3 : a9 + hd (B a9) ≤ n8 := (nI_leI (by omega) (by omega)).mp c_46
            refine lv_aload_n hx hb dX1_look_79 rfl (lv_at hl 2 rfl) ?_
            refine lv_iload_n hx hb dX1_look_80 rfl (lv_at hl 0 rfl) ?_
            refine lv_if_ne (tgt := 91) hx hb dX1_look_81 (by decide) (fun c_47 => ?_) (fun c_47 => ?_)
            · skip
              have q5 : ¬ wd (B a9) = 0 := fun z => c_47 (by rw [z]; rfl)
              refine lv_aload_n hx hb dX1_look_91 rfl (lv_at hl 2 rfl) ?_
              refine lv_iload_n hx hb dX1_look_92 rfl (lv_at hl 3 rfl) ?_
              refine lv_iconst (v := 1) hx hb dX1_look_93 (by decide) ?_
              refine lv_iadd hx hb dX1_look_94 ?_
              refine lv_iload_n hx hb dX1_look_95 rfl (lv_at hl 0 rfl) ?_
              have e_50 : ((nI a9) + 1 : Int32) = nI (a9 + 1) := nI_1 a9
              rw [e_50]
              refine gvl (As := [.int (nI (a9 + 1)), .int (nI (wd (B a9)))]) (rest := [.ref h]) ⟨hx, hb, hml, hown, hts⟩ (c_X1_numberAt l dC dI tk tw h a b cI cJ _ f g zt (nI n8) zc 2 znu zty (nI (hd (B a9))) zpa zch zlk zlo zhi zlp zll zlv B (a9 + 1) (wd (B a9)) (by omega) (fun j hj => hf9 j (by omega))) (cwV 2 hts gX1_look_X1_numberAt rfl rfl rfl (by decide +kernel) ⟨Nat.le_of_ble_eq_true rfl, Nat.le_of_ble_eq_true rfl⟩) hK hP hD hS hA hZ (q0 := 0) (ci := 1) rfl rfl rfl rfl hl.1 rfl (Nat.le_of_ble_eq_true rfl) dX1_look_96 ⟨Nat.le_of_ble_eq_true rfl, Nat.le_of_ble_eq_true rfl⟩ (fun r_49 u_51 H locs hw_48 hP hD hS => ?_)
              obtain rfl : r_49 = nv B a9 := hw_48.trans (nv_w1 q5 (by rw [hk]; decide)).symm
              refine va_put (D := (dC, dI)) (ci := 1) (v := .long (nv B a9)) (ty := .long) (C := RX1) (T := TX1) (N := 17) hx hb hts hin0 tyX1 tyX1_ok nmX1 hown hK hP hD hS 0 rfl rfl 5 (by decide) fl61 (fun _ h9 => h9) rfl (by decide +kernel) rfl rfl (Nat.le_of_ble_eq_true rfl) dX1_look_99 (fun H locs hP hD hS => ?_)
              have hP : va_P (dC, dI) vwCl (w1 h a b cI cJ f g zt (nI n8) zc 2 (nv B a9) zty (nI (hd (B a9))) zpa zch zlk zlo zhi zlp zll zlv) H := hP
              have hD : va_D A (w1 h a b cI cJ f g zt (nI n8) zc 2 (nv B a9) zty (nI (hd (B a9))) zpa zch zlk zlo zhi zlp zll zlv) := hD
              refine lv_aload_n hx hb dX1_look_102 rfl (lv_at hl 2 rfl) ?_
              refine va_get (D := (dC, dI)) (ci := 1) (v := .int 2) (C := RX1) (T := TX1) (N := 17) hx hb hts hin0 hown hK hP 0 rfl rfl 4 (by decide) fl47 (fun _ h9 => h9) rfl dX1_look_103 ?_
              refine lv_iconst (v := 5) hx hb dX1_look_106 (by decide) ?_
              refine lv_icmp_ne (tgt := 138) hx hb dX1_look_107 (by decide) (fun c_52 => ?_) (fun c_52 => ?_)
              · skip
                refine lv_aload_n hx hb dX1_look_138 rfl (lv_at hl 2 rfl) ?_
                refine va_get (D := (dC, dI)) (ci := 1) (v := .int 2) (C := RX1) (T := TX1) (N := 17) hx hb hts hin0 hown hK hP 0 rfl rfl 4 (by decide) fl47 (fun _ h9 => h9) rfl dX1_look_139 ?_
                refine lv_bipush (v := 12) hx hb dX1_look_142 (by decide) ?_
                refine lv_icmp_ne (tgt := 163) hx hb dX1_look_144 (by decide) (fun c_53 => ?_) (fun c_53 => ?_)
                · skip
                  refine lv_iconst (v := 0) hx hb dX1_look_163 (by decide) ?_
                  refine lv_istore (lv' := [(4, .int 0), (3, .int (nI (wd (B a9)))), (2, .int (nI (B a9))), (0, .ref h), (1, .int (nI a9))]) hx hb dX1_look_164 hl (by decide) rfl (fun ls hl => ?_)
                  refine lv_aload_n hx hb dX1_look_166 rfl (lv_at hl 3 rfl) ?_
                  refine lv_iload hx hb dX1_look_167 (lv_at hl 0 rfl) ?_
                  refine lv_bipush (v := 127) hx hb dX1_look_169 (by decide) ?_
                  refine lv_icmp_le (tgt := 183) hx hb dX1_look_171 (by decide) (fun c_54 => ?_) (fun c_54 => ?_)
                  · skip
                    refine lv_iload hx hb dX1_look_183 (lv_at hl 0 rfl) ?_
                    refine va_put (D := (dC, dI)) (ci := 1) (v := .int 0) (ty := .int) (C := RX1) (T := TX1) (N := 17) hx hb hts hin0 tyX1 tyX1_ok nmX1 hown hK hP hD hS 0 rfl rfl 6 (by decide) fl65 (fun _ h9 => h9) rfl (by decide +kernel) rfl rfl (Nat.le_of_ble_eq_true rfl) dX1_look_185 (fun H locs hP hD hS => ?_)
                    have hP : va_P (dC, dI) vwCl (w1 h a b cI cJ f g zt (nI n8) zc 2 (nv B a9) 0 (nI (hd (B a9))) zpa zch zlk zlo zhi zlp zll zlv) H := hP
                    have hD : va_D A (w1 h a b cI cJ f g zt (nI n8) zc 2 (nv B a9) 0 (nI (hd (B a9))) zpa zch zlk zlo zhi zlp zll zlv) := hD
                    refine lv_aload_n hx hb dX1_look_188 rfl (lv_at hl 3 rfl) ?_
                    refine lv_lconst (v := 0) hx hb dX1_look_189 (by decide) ?_
                    refine va_put (D := (dC, dI)) (ci := 1) (v := .long 0) (ty := .long) (C := RX1) (T := TX1) (N := 17) hx hb hts hin0 tyX1 tyX1_ok nmX1 hown hK hP hD hS 0 rfl rfl 8 (by decide) fl68 (fun _ h9 => h9) rfl (by decide +kernel) rfl rfl (Nat.le_of_ble_eq_true rfl) dX1_look_190 (fun H locs hP hD hS => ?_)
                    have hP : va_P (dC, dI) vwCl (w1 h a b cI cJ f g zt (nI n8) zc 2 (nv B a9) 0 (nI (hd (B a9))) 0 zch zlk zlo zhi zlp zll zlv) H := hP
                    have hD : va_D A (w1 h a b cI cJ f g zt (nI n8) zc 2 (nv B a9) 0 (nI (hd (B a9))) 0 zch zlk zlo zhi zlp zll zlv) := hD
                    refine lv_aload_n hx hb dX1_look_193 rfl (lv_at hl 3 rfl) ?_
                    refine lv_lconst (v := 0) hx hb dX1_look_194 (by decide) ?_
                    refine va_put (D := (dC, dI)) (ci := 1) (v := .long 0) (ty := .long) (C := RX1) (T := TX1) (N := 17) hx hb hts hin0 tyX1 tyX1_ok nmX1 hown hK hP hD hS 0 rfl rfl 9 (by decide) fl71 (fun _ h9 => h9) rfl (by decide +kernel) rfl rfl (Nat.le_of_ble_eq_true rfl) dX1_look_195 (fun H locs hP hD hS => ?_)
                    have hP : va_P (dC, dI) vwCl (w1 h a b cI cJ f g zt (nI n8) zc 2 (nv B a9) 0 (nI (hd (B a9))) 0 0 zlk zlo zhi zlp zll zlv) H := hP
                    have hD : va_D A (w1 h a b cI cJ f g zt (nI n8) zc 2 (nv B a9) 0 (nI (hd (B a9))) 0 0 zlk zlo zhi zlp zll zlv) := hD
                    refine lv_aload_n hx hb dX1_look_198 rfl (lv_at hl 3 rfl) ?_
                    refine va_get (D := (dC, dI)) (ci := 1) (v := .int 2) (C := RX1) (T := TX1) (N := 17) hx hb hts hin0 hown hK hP 0 rfl rfl 4 (by decide) fl47 (fun _ h9 => h9) rfl dX1_look_199 ?_
                    refine lv_bipush (v := 7) hx hb dX1_look_202 (by decide) ?_
                    refine lv_icmp_le (tgt := 221) hx hb dX1_look_204 (by decide) (fun c_55 => ?_) (fun c_55 => ?_)
                    · skip
                      have q6 : 8 ≤ kd (B a9) → nv B a9 ≤ 2147483647 := fun z => absurd z (by rw [hk]; decide)
                      refine lv_aload_n hx hb dX1_look_221 rfl (lv_at hl 3 rfl) ?_
                      refine va_get (D := (dC, dI)) (ci := 1) (v := .int 2) (C := RX1) (T := TX1) (N := 17) hx hb hts hin0 hown hK hP 0 rfl rfl 4 (by decide) fl47 (fun _ h9 => h9) rfl dX1_look_222 ?_
                      refine lv_bipush (v := 8) hx hb dX1_look_225 (by decide) ?_
                      refine lv_icmp_eq (tgt := 248) hx hb dX1_look_227 (by decide) (fun c_56 => ?_) (fun c_56 => ?_)
                      · skip
                        exact absurd c_56 (by decide)
                      · skip
                        refine lv_aload_n hx hb dX1_look_230 rfl (lv_at hl 3 rfl) ?_
                        refine va_get (D := (dC, dI)) (ci := 1) (v := .int 2) (C := RX1) (T := TX1) (N := 17) hx hb hts hin0 hown hK hP 0 rfl rfl 4 (by decide) fl47 (fun _ h9 => h9) rfl dX1_look_231 ?_
                        refine lv_bipush (v := 9) hx hb dX1_look_234 (by decide) ?_
                        refine lv_icmp_eq (tgt := 248) hx hb dX1_look_236 (by decide) (fun c_57 => ?_) (fun c_57 => ?_)
                        · skip
                          exact absurd c_57 (by decide)
                        · skip
                          refine lv_aload_n hx hb dX1_look_239 rfl (lv_at hl 3 rfl) ?_
                          refine va_get (D := (dC, dI)) (ci := 1) (v := .int 2) (C := RX1) (T := TX1) (N := 17) hx hb hts hin0 hown hK hP 0 rfl rfl 4 (by decide) fl47 (fun _ h9 => h9) rfl dX1_look_240 ?_
                          refine lv_bipush (v := 12) hx hb dX1_look_243 (by decide) ?_
                          refine lv_icmp_ne (tgt := 256) hx hb dX1_look_245 (by decide) (fun c_58 => ?_) (fun c_58 => ?_)
                          · skip
                            refine lv_aload_n hx hb dX1_look_256 rfl (lv_at hl 3 rfl) ?_
                            refine va_get (D := (dC, dI)) (ci := 1) (v := .int 2) (C := RX1) (T := TX1) (N := 17) hx hb hts hin0 hown hK hP 0 rfl rfl 4 (by decide) fl47 (fun _ h9 => h9) rfl dX1_look_257 ?_
                            refine lv_bipush (v := 10) hx hb dX1_look_260 (by decide) ?_
                            refine lv_icmp_ne (tgt := 273) hx hb dX1_look_262 (by decide) (fun c_59 => ?_) (fun c_59 => ?_)
                            · skip
                              refine lv_aload_n hx hb dX1_look_273 rfl (lv_at hl 3 rfl) ?_
                              refine va_get (D := (dC, dI)) (ci := 1) (v := .int 2) (C := RX1) (T := TX1) (N := 17) hx hb hts hin0 hown hK hP 0 rfl rfl 4 (by decide) fl47 (fun _ h9 => h9) rfl dX1_look_274 ?_
                              refine lv_bipush (v := 11) hx hb dX1_look_277 (by decide) ?_
                              refine lv_icmp_ne (tgt := 294) hx hb dX1_look_279 (by decide) (fun c_60 => ?_) (fun c_60 => ?_)
                              · skip
                                have q7 : paL B a9 = 0 := by simp [paL, hp, hk]
                                refine lv_iload_n hx hb dX1_look_294 rfl (lv_at hl 4 rfl) ?_
                                refine lv_aload_n hx hb dX1_look_295 rfl (lv_at hl 3 rfl) ?_
                                refine va_get (D := (dC, dI)) (ci := 1) (v := .int (nI (hd (B a9)))) (C := RX1) (T := TX1) (N := 17) hx hb hts hin0 hown hK hP 0 rfl rfl 7 (by decide) fl50 (fun _ h9 => h9) rfl dX1_look_296 ?_
                                refine lv_iadd hx hb dX1_look_299 ?_
                                refine lv_i2l hx hb dX1_look_300 rfl ?_
                                refine lv_aload_n hx hb dX1_look_301 rfl (lv_at hl 3 rfl) ?_
                                refine va_get (D := (dC, dI)) (ci := 1) (v := .long 0) (C := RX1) (T := TX1) (N := 17) hx hb hts hin0 hown hK hP 0 rfl rfl 8 (by decide) fl68 (fun _ h9 => h9) rfl dX1_look_302 ?_
                                refine lv_ladd hx hb dX1_look_305 ?_
                                refine lv_aload_n hx hb dX1_look_306 rfl (lv_at hl 3 rfl) ?_
                                refine va_get (D := (dC, dI)) (ci := 1) (v := .int (nI n8)) (C := RX1) (T := TX1) (N := 17) hx hb hts hin0 hown hK hP 0 rfl rfl 2 (by decide) fl28 (fun _ h9 => h9) rfl dX1_look_307 ?_
                                refine lv_i2l hx hb dX1_look_310 rfl ?_
                                refine W.lcmp hx hb dX1_look_311 ?_
                                refine lv_if_le (tgt := 320) hx hb dX1_look_312 (by decide) (fun c_61 => ?_) (fun c_61 => ?_)
                                · skip
                                  have c_61 := (lg_cmp_le ((((nI a9) + (nI (hd (B a9)))).toInt64) + 0) ((nI n8).toInt64)).mp c_61
                                  refine lv_iconst (v := 0) hx hb dX1_look_320 (by decide) ?_
                                  have hP9 : va_P (dC, dI) vwCl ((fun (u : Int32 × Int64 × Int32 × Int32 × Int64 × Int64) => w1 h a b cI cJ f g zt (nI n8) zc u.1 u.2.1 u.2.2.1 u.2.2.2.1 u.2.2.2.2.1 u.2.2.2.2.2 zlk zlo zhi zlp zll zlv) ((2, nv B a9, 0, nI (hd (B a9)), 0, 0))) H := hP
                                  have hD9 : va_D A ((fun (u : Int32 × Int64 × Int32 × Int32 × Int64 × Int64) => w1 h a b cI cJ f g zt (nI n8) zc u.1 u.2.1 u.2.2.1 u.2.2.2.1 u.2.2.2.2.1 u.2.2.2.2.2 zlk zlo zhi zlp zll zlv) ((2, nv B a9, 0, nI (hd (B a9)), 0, 0))) := hD
                                  exact W.iret (v := 0) hx hb hr (fun t ht hW => ⟨⟨0, (2, nv B a9, 0, nI (hd (B a9)), 0, 0), rfl, (by have q8 := (lk_end hB hn8 q1 q2 q3 q6).1 (by rw [q7]; exact c_61); exact Or.inr ⟨by rw [q8]; exact nI_pos (by have := kd_le _ (hB a9); omega), rfl, by rw [hk]; rfl, rfl, fun z => absurd (hk.symm.trans z) (by decide), rfl, q7.symm, by simp [ch, hk]⟩), by rw [ht]; exact hP9, va_K.moved hW.alike hK, hD9⟩, hS.F ht⟩) hS.2.2 dX1_look_321
                                · skip
                                  have c_61 := (not_congr (lg_cmp_le ((((nI a9) + (nI (hd (B a9)))).toInt64) + 0) ((nI n8).toInt64))).mp c_61
                                  refine lv_bipush (v := -2) hx hb dX1_look_315 (by decide) ?_
                                  refine lv_goto (tgt := 321) hx hb dX1_look_317 (by decide) ?_
                                  have hP9 : va_P (dC, dI) vwCl ((fun (u : Int32 × Int64 × Int32 × Int32 × Int64 × Int64) => w1 h a b cI cJ f g zt (nI n8) zc u.1 u.2.1 u.2.2.1 u.2.2.2.1 u.2.2.2.2.1 u.2.2.2.2.2 zlk zlo zhi zlp zll zlv) ((2, nv B a9, 0, nI (hd (B a9)), 0, 0))) H := hP
                                  have hD9 : va_D A ((fun (u : Int32 × Int64 × Int32 × Int32 × Int64 × Int64) => w1 h a b cI cJ f g zt (nI n8) zc u.1 u.2.1 u.2.2.1 u.2.2.2.1 u.2.2.2.2.1 u.2.2.2.2.2 zlk zlo zhi zlp zll zlv) ((2, nv B a9, 0, nI (hd (B a9)), 0, 0))) := hD
                                  exact W.iret (v := -2) hx hb hr (fun t ht hW => ⟨⟨-2, (2, nv B a9, 0, nI (hd (B a9)), 0, 0), rfl, (lkneg ((lk_end hB hn8 q1 q2 q3 q6).2 (by rw [q7]; exact c_61)) (by decide)), by rw [ht]; exact hP9, va_K.moved hW.alike hK, hD9⟩, hS.F ht⟩) hS.2.2 dX1_look_321
                              · skip
                                exact absurd c_60 (by decide)
                            · skip
                              exact absurd c_59 (by decide)
                          · skip
                            exact absurd c_58 (by decide)
                    · skip
                      exact absurd (by decide) c_55
                  · skip
                    exact absurd (by decide) c_54
                · skip
                  exact absurd c_53 (by decide)
              · skip
                exact absurd c_52 (by decide)
            · skip
              have q5 : wd (B a9) = 0 := (nI_z (by omega)).mp c_47
              refine lv_iload_n hx hb dX1_look_84 rfl (lv_at hl 1 rfl) ?_
              refine gsl (As := [.int (nI (B a9))]) (rest := [.ref h]) ⟨hx, hb, hml, hown, hts⟩ (c_X1_ownNumber l dC dI tk tw _ (B a9) (hB a9)) (va_cwS 1 hts gX1_look_X1_ownNumber rfl rfl rfl (by decide +kernel) ⟨Nat.le_of_ble_eq_true rfl, Nat.le_of_ble_eq_true rfl⟩) hP hS hA hZ rfl hl.1 rfl (Nat.le_of_ble_eq_true rfl) dX1_look_85 ⟨Nat.le_of_ble_eq_true rfl, Nat.le_of_ble_eq_true rfl⟩ (fun r_63 H locs hw_62 hP hS => ?_)
              obtain rfl : r_63 = nv B a9 := hw_62.trans (nv_w0 q5).symm
              refine lv_goto (tgt := 99) hx hb dX1_look_88 (by decide) ?_
              refine va_put (D := (dC, dI)) (ci := 1) (v := .long (nv B a9)) (ty := .long) (C := RX1) (T := TX1) (N := 17) hx hb hts hin0 tyX1 tyX1_ok nmX1 hown hK hP hD hS 0 rfl rfl 5 (by decide) fl61 (fun _ h9 => h9) rfl (by decide +kernel) rfl rfl (Nat.le_of_ble_eq_true rfl) dX1_look_99 (fun H locs hP hD hS => ?_)
              have hP : va_P (dC, dI) vwCl (w1 h a b cI cJ f g zt (nI n8) zc 2 (nv B a9) zty (nI (hd (B a9))) zpa zch zlk zlo zhi zlp zll zlv) H := hP
              have hD : va_D A (w1 h a b cI cJ f g zt (nI n8) zc 2 (nv B a9) zty (nI (hd (B a9))) zpa zch zlk zlo zhi zlp zll zlv) := hD
              refine lv_aload_n hx hb dX1_look_102 rfl (lv_at hl 2 rfl) ?_
              refine va_get (D := (dC, dI)) (ci := 1) (v := .int 2) (C := RX1) (T := TX1) (N := 17) hx hb hts hin0 hown hK hP 0 rfl rfl 4 (by decide) fl47 (fun _ h9 => h9) rfl dX1_look_103 ?_
              refine lv_iconst (v := 5) hx hb dX1_look_106 (by decide) ?_
              refine lv_icmp_ne (tgt := 138) hx hb dX1_look_107 (by decide) (fun c_64 => ?_) (fun c_64 => ?_)
              · skip
                refine lv_aload_n hx hb dX1_look_138 rfl (lv_at hl 2 rfl) ?_
                refine va_get (D := (dC, dI)) (ci := 1) (v := .int 2) (C := RX1) (T := TX1) (N := 17) hx hb hts hin0 hown hK hP 0 rfl rfl 4 (by decide) fl47 (fun _ h9 => h9) rfl dX1_look_139 ?_
                refine lv_bipush (v := 12) hx hb dX1_look_142 (by decide) ?_
                refine lv_icmp_ne (tgt := 163) hx hb dX1_look_144 (by decide) (fun c_65 => ?_) (fun c_65 => ?_)
                · skip
                  refine lv_iconst (v := 0) hx hb dX1_look_163 (by decide) ?_
                  refine lv_istore (lv' := [(4, .int 0), (3, .int (nI (wd (B a9)))), (2, .int (nI (B a9))), (0, .ref h), (1, .int (nI a9))]) hx hb dX1_look_164 hl (by decide) rfl (fun ls hl => ?_)
                  refine lv_aload_n hx hb dX1_look_166 rfl (lv_at hl 3 rfl) ?_
                  refine lv_iload hx hb dX1_look_167 (lv_at hl 0 rfl) ?_
                  refine lv_bipush (v := 127) hx hb dX1_look_169 (by decide) ?_
                  refine lv_icmp_le (tgt := 183) hx hb dX1_look_171 (by decide) (fun c_66 => ?_) (fun c_66 => ?_)
                  · skip
                    refine lv_iload hx hb dX1_look_183 (lv_at hl 0 rfl) ?_
                    refine va_put (D := (dC, dI)) (ci := 1) (v := .int 0) (ty := .int) (C := RX1) (T := TX1) (N := 17) hx hb hts hin0 tyX1 tyX1_ok nmX1 hown hK hP hD hS 0 rfl rfl 6 (by decide) fl65 (fun _ h9 => h9) rfl (by decide +kernel) rfl rfl (Nat.le_of_ble_eq_true rfl) dX1_look_185 (fun H locs hP hD hS => ?_)
                    have hP : va_P (dC, dI) vwCl (w1 h a b cI cJ f g zt (nI n8) zc 2 (nv B a9) 0 (nI (hd (B a9))) zpa zch zlk zlo zhi zlp zll zlv) H := hP
                    have hD : va_D A (w1 h a b cI cJ f g zt (nI n8) zc 2 (nv B a9) 0 (nI (hd (B a9))) zpa zch zlk zlo zhi zlp zll zlv) := hD
                    refine lv_aload_n hx hb dX1_look_188 rfl (lv_at hl 3 rfl) ?_
                    refine lv_lconst (v := 0) hx hb dX1_look_189 (by decide) ?_
                    refine va_put (D := (dC, dI)) (ci := 1) (v := .long 0) (ty := .long) (C := RX1) (T := TX1) (N := 17) hx hb hts hin0 tyX1 tyX1_ok nmX1 hown hK hP hD hS 0 rfl rfl 8 (by decide) fl68 (fun _ h9 => h9) rfl (by decide +kernel) rfl rfl (Nat.le_of_ble_eq_true rfl) dX1_look_190 (fun H locs hP hD hS => ?_)
                    have hP : va_P (dC, dI) vwCl (w1 h a b cI cJ f g zt (nI n8) zc 2 (nv B a9) 0 (nI (hd (B a9))) 0 zch zlk zlo zhi zlp zll zlv) H := hP
                    have hD : va_D A (w1 h a b cI cJ f g zt (nI n8) zc 2 (nv B a9) 0 (nI (hd (B a9))) 0 zch zlk zlo zhi zlp zll zlv) := hD
                    refine lv_aload_n hx hb dX1_look_193 rfl (lv_at hl 3 rfl) ?_
                    refine lv_lconst (v := 0) hx hb dX1_look_194 (by decide) ?_
                    refine va_put (D := (dC, dI)) (ci := 1) (v := .long 0) (ty := .long) (C := RX1) (T := TX1) (N := 17) hx hb hts hin0 tyX1 tyX1_ok nmX1 hown hK hP hD hS 0 rfl rfl 9 (by decide) fl71 (fun _ h9 => h9) rfl (by decide +kernel) rfl rfl (Nat.le_of_ble_eq_true rfl) dX1_look_195 (fun H locs hP hD hS => ?_)
                    have hP : va_P (dC, dI) vwCl (w1 h a b cI cJ f g zt (nI n8) zc 2 (nv B a9) 0 (nI (hd (B a9))) 0 0 zlk zlo zhi zlp zll zlv) H := hP
                    have hD : va_D A (w1 h a b cI cJ f g zt (nI n8) zc 2 (nv B a9) 0 (nI (hd (B a9))) 0 0 zlk zlo zhi zlp zll zlv) := hD
                    refine lv_aload_n hx hb dX1_look_198 rfl (lv_at hl 3 rfl) ?_
                    refine va_get (D := (dC, dI)) (ci := 1) (v := .int 2) (C := RX1) (T := TX1) (N := 17) hx hb hts hin0 hown hK hP 0 rfl rfl 4 (by decide) fl47 (fun _ h9 => h9) rfl dX1_look_199 ?_
                    refine lv_bipush (v := 7) hx hb dX1_look_202 (by decide) ?_
                    refine lv_icmp_le (tgt := 221) hx hb dX1_look_204 (by decide) (fun c_67 => ?_) (fun c_67 => ?_)
                    · skip
                      have q6 : 8 ≤ kd (B a9) → nv B a9 ≤ 2147483647 := fun z => absurd z (by rw [hk]; decide)
                      refine lv_aload_n hx hb dX1_look_221 rfl (lv_at hl 3 rfl) ?_
                      refine va_get (D := (dC, dI)) (ci := 1) (v := .int 2) (C := RX1) (T := TX1) (N := 17) hx hb hts hin0 hown hK hP 0 rfl rfl 4 (by decide) fl47 (fun _ h9 => h9) rfl dX1_look_222 ?_
                      refine lv_bipush (v := 8) hx hb dX1_look_225 (by decide) ?_
                      refine lv_icmp_eq (tgt := 248) hx hb dX1_look_227 (by decide) (fun c_68 => ?_) (fun c_68 => ?_)
                      · skip
                        exact absurd c_68 (by decide)
                      · skip
                        refine lv_aload_n hx hb dX1_look_230 rfl (lv_at hl 3 rfl) ?_
                        refine va_get (D := (dC, dI)) (ci := 1) (v := .int 2) (C := RX1) (T := TX1) (N := 17) hx hb hts hin0 hown hK hP 0 rfl rfl 4 (by decide) fl47 (fun _ h9 => h9) rfl dX1_look_231 ?_
                        refine lv_bipush (v := 9) hx hb dX1_look_234 (by decide) ?_
                        refine lv_icmp_eq (tgt := 248) hx hb dX1_look_236 (by decide) (fun c_69 => ?_) (fun c_69 => ?_)
                        · skip
                          exact absurd c_69 (by decide)
                        · skip
                          refine lv_aload_n hx hb dX1_look_239 rfl (lv_at hl 3 rfl) ?_
                          refine va_get (D := (dC, dI)) (ci := 1) (v := .int 2) (C := RX1) (T := TX1) (N := 17) hx hb hts hin0 hown hK hP 0 rfl rfl 4 (by decide) fl47 (fun _ h9 => h9) rfl dX1_look_240 ?_
                          refine lv_bipush (v := 12) hx hb dX1_look_243 (by decide) ?_
                          refine lv_icmp_ne (tgt := 256) hx hb dX1_look_245 (by decide) (fun c_70 => ?_) (fun c_70 => ?_)
                          · skip
                            refine lv_aload_n hx hb dX1_look_256 rfl (lv_at hl 3 rfl) ?_
                            refine va_get (D := (dC, dI)) (ci := 1) (v := .int 2) (C := RX1) (T := TX1) (N := 17) hx hb hts hin0 hown hK hP 0 rfl rfl 4 (by decide) fl47 (fun _ h9 => h9) rfl dX1_look_257 ?_
                            refine lv_bipush (v := 10) hx hb dX1_look_260 (by decide) ?_
                            refine lv_icmp_ne (tgt := 273) hx hb dX1_look_262 (by decide) (fun c_71 => ?_) (fun c_71 => ?_)
                            · skip
                              refine lv_aload_n hx hb dX1_look_273 rfl (lv_at hl 3 rfl) ?_
                              refine va_get (D := (dC, dI)) (ci := 1) (v := .int 2) (C := RX1) (T := TX1) (N := 17) hx hb hts hin0 hown hK hP 0 rfl rfl 4 (by decide) fl47 (fun _ h9 => h9) rfl dX1_look_274 ?_
                              refine lv_bipush (v := 11) hx hb dX1_look_277 (by decide) ?_
                              refine lv_icmp_ne (tgt := 294) hx hb dX1_look_279 (by decide) (fun c_72 => ?_) (fun c_72 => ?_)
                              · skip
                                have q7 : paL B a9 = 0 := by simp [paL, hp, hk]
                                refine lv_iload_n hx hb dX1_look_294 rfl (lv_at hl 4 rfl) ?_
                                refine lv_aload_n hx hb dX1_look_295 rfl (lv_at hl 3 rfl) ?_
                                refine va_get (D := (dC, dI)) (ci := 1) (v := .int (nI (hd (B a9)))) (C := RX1) (T := TX1) (N := 17) hx hb hts hin0 hown hK hP 0 rfl rfl 7 (by decide) fl50 (fun _ h9 => h9) rfl dX1_look_296 ?_
                                refine lv_iadd hx hb dX1_look_299 ?_
                                refine lv_i2l hx hb dX1_look_300 rfl ?_
                                refine lv_aload_n hx hb dX1_look_301 rfl (lv_at hl 3 rfl) ?_
                                refine va_get (D := (dC, dI)) (ci := 1) (v := .long 0) (C := RX1) (T := TX1) (N := 17) hx hb hts hin0 hown hK hP 0 rfl rfl 8 (by decide) fl68 (fun _ h9 => h9) rfl dX1_look_302 ?_
                                refine lv_ladd hx hb dX1_look_305 ?_
                                refine lv_aload_n hx hb dX1_look_306 rfl (lv_at hl 3 rfl) ?_
                                refine va_get (D := (dC, dI)) (ci := 1) (v := .int (nI n8)) (C := RX1) (T := TX1) (N := 17) hx hb hts hin0 hown hK hP 0 rfl rfl 2 (by decide) fl28 (fun _ h9 => h9) rfl dX1_look_307 ?_
                                refine lv_i2l hx hb dX1_look_310 rfl ?_
                                refine W.lcmp hx hb dX1_look_311 ?_
                                refine lv_if_le (tgt := 320) hx hb dX1_look_312 (by decide) (fun c_73 => ?_) (fun c_73 => ?_)
                                · skip
                                  have c_73 := (lg_cmp_le ((((nI a9) + (nI (hd (B a9)))).toInt64) + 0) ((nI n8).toInt64)).mp c_73
                                  refine lv_iconst (v := 0) hx hb dX1_look_320 (by decide) ?_
                                  have hP9 : va_P (dC, dI) vwCl ((fun (u : Int32 × Int64 × Int32 × Int32 × Int64 × Int64) => w1 h a b cI cJ f g zt (nI n8) zc u.1 u.2.1 u.2.2.1 u.2.2.2.1 u.2.2.2.2.1 u.2.2.2.2.2 zlk zlo zhi zlp zll zlv) ((2, nv B a9, 0, nI (hd (B a9)), 0, 0))) H := hP
                                  have hD9 : va_D A ((fun (u : Int32 × Int64 × Int32 × Int32 × Int64 × Int64) => w1 h a b cI cJ f g zt (nI n8) zc u.1 u.2.1 u.2.2.1 u.2.2.2.1 u.2.2.2.2.1 u.2.2.2.2.2 zlk zlo zhi zlp zll zlv) ((2, nv B a9, 0, nI (hd (B a9)), 0, 0))) := hD
                                  exact W.iret (v := 0) hx hb hr (fun t ht hW => ⟨⟨0, (2, nv B a9, 0, nI (hd (B a9)), 0, 0), rfl, (by have q8 := (lk_end hB hn8 q1 q2 q3 q6).1 (by rw [q7]; exact c_73); exact Or.inr ⟨by rw [q8]; exact nI_pos (by have := kd_le _ (hB a9); omega), rfl, by rw [hk]; rfl, rfl, fun z => absurd (hk.symm.trans z) (by decide), rfl, q7.symm, by simp [ch, hk]⟩), by rw [ht]; exact hP9, va_K.moved hW.alike hK, hD9⟩, hS.F ht⟩) hS.2.2 dX1_look_321
                                · skip
                                  have c_73 := (not_congr (lg_cmp_le ((((nI a9) + (nI (hd (B a9)))).toInt64) + 0) ((nI n8).toInt64))).mp c_73
                                  refine lv_bipush (v := -2) hx hb dX1_look_315 (by decide) ?_
                                  refine lv_goto (tgt := 321) hx hb dX1_look_317 (by decide) ?_
                                  have hP9 : va_P (dC, dI) vwCl ((fun (u : Int32 × Int64 × Int32 × Int32 × Int64 × Int64) => w1 h a b cI cJ f g zt (nI n8) zc u.1 u.2.1 u.2.2.1 u.2.2.2.1 u.2.2.2.2.1 u.2.2.2.2.2 zlk zlo zhi zlp zll zlv) ((2, nv B a9, 0, nI (hd (B a9)), 0, 0))) H := hP
                                  have hD9 : va_D A ((fun (u : Int32 × Int64 × Int32 × Int32 × Int64 × Int64) => w1 h a b cI cJ f g zt (nI n8) zc u.1 u.2.1 u.2.2.1 u.2.2.2.1 u.2.2.2.2.1 u.2.2.2.2.2 zlk zlo zhi zlp zll zlv) ((2, nv B a9, 0, nI (hd (B a9)), 0, 0))) := hD
                                  exact W.iret (v := -2) hx hb hr (fun t ht hW => ⟨⟨-2, (2, nv B a9, 0, nI (hd (B a9)), 0, 0), rfl, (lkneg ((lk_end hB hn8 q1 q2 q3 q6).2 (by rw [q7]; exact c_73)) (by decide)), by rw [ht]; exact hP9, va_K.moved hW.alike hK, hD9⟩, hS.F ht⟩) hS.2.2 dX1_look_321
                              · skip
                                exact absurd c_72 (by decide)
                            · skip
                              exact absurd c_71 (by decide)
                          · skip
                            exact absurd c_70 (by decide)
                    · skip
                      exact absurd (by decide) c_67
                  · skip
                    exact absurd (by decide) c_66
                · skip
                  exact absurd c_65 (by decide)
              · skip
                exact absurd c_64 (by decide)
          · skip
            refine lv_bipush (v := -2) hx hb dX1_look_76 (by decide) ?_
            have hP9 : va_P (dC, dI) vwCl ((fun (u : Int32 × Int64 × Int32 × Int32 × Int64 × Int64) => w1 h a b cI cJ f g zt (nI n8) zc u.1 u.2.1 u.2.2.1 u.2.2.2.1 u.2.2.2.2.1 u.2.2.2.2.2 zlk zlo zhi zlp zll zlv) ((2, znu, zty, nI (hd (B a9)), zpa, zch))) H := hP
            have hD9 : va_D A ((fun (u : Int32 × Int64 × Int32 × Int32 × Int64 × Int64) => w1 h a b cI cJ f g zt (nI n8) zc u.1 u.2.1 u.2.2.1 u.2.2.2.1 u.2.2.2.2.1 u.2.2.2.2.2 zlk zlo zhi zlp zll zlv) ((2, znu, zty, nI (hd (B a9)), zpa, zch))) := hD
            exact W.iret (v := -2) hx hb hr (fun t ht hW => ⟨⟨-2, (2, znu, zty, nI (hd (B a9)), zpa, zch), rfl, (lkneg (lk3 hB hn8 q1 q2 (by have q4 := hd_le _ (hB a9); have z := (not_congr (nI_leI (a := a9 + hd (B a9)) (b := n8) (by omega) (by omega))).mp c_46; omega)) (by decide)), by rw [ht]; exact hP9, va_K.moved hW.alike hK, hD9⟩, hS.F ht⟩) hS.2.2 dX1_look_78
        · skip
          exact absurd c_43 (by decide)
      · skip
        have q2 : ¬ B a9 = 193 := fun z => c_3 (by rw [z]; rfl)
        refine lv_iload_n hx hb dX1_look_28 rfl (lv_at hl 0 rfl) ?_
        refine gsi (As := [.int (nI (B a9))]) (rest := []) ⟨hx, hb, hml, hown, hts⟩ (c_X1_widthOf l dC dI tk tw _ (B a9) (hB a9)) (va_cwS 1 hts gX1_look_X1_widthOf rfl rfl rfl (by decide +kernel) ⟨Nat.le_of_ble_eq_true rfl, Nat.le_of_ble_eq_true rfl⟩) hP hS hA hZ rfl hl.1 rfl (Nat.le_of_ble_eq_true rfl) dX1_look_29 ⟨Nat.le_of_ble_eq_true rfl, Nat.le_of_ble_eq_true rfl⟩ (fun r_75 H locs hw_74 hP hS => ?_)
        obtain rfl : r_75 = nI (wd (B a9)) := hw_74
        refine lv_istore_n (lv' := [(3, .int (nI (wd (B a9)))), (2, .int (nI (B a9))), (0, .ref h), (1, .int (nI a9))]) hx hb dX1_look_32 rfl hl (by decide) rfl (fun ls hl => ?_)
        refine lv_aload_n hx hb dX1_look_33 rfl (lv_at hl 2 rfl) ?_
        refine lv_iload_n hx hb dX1_look_34 rfl (lv_at hl 1 rfl) ?_
        refine gsi (As := [.int (nI (B a9))]) (rest := [.ref h]) ⟨hx, hb, hml, hown, hts⟩ (c_X1_kindOf l dC dI tk tw _ (B a9) (hB a9) q2) (va_cwS 1 hts gX1_look_X1_kindOf rfl rfl rfl (by decide +kernel) ⟨Nat.le_of_ble_eq_true rfl, Nat.le_of_ble_eq_true rfl⟩) hP hS hA hZ rfl hl.1 rfl (Nat.le_of_ble_eq_true rfl) dX1_look_35 ⟨Nat.le_of_ble_eq_true rfl, Nat.le_of_ble_eq_true rfl⟩ (fun r_77 H locs hw_76 hP hS => ?_)
        obtain rfl : r_77 = 3 := hw_76.trans (by rw [hk]; rfl)
        refine va_put (D := (dC, dI)) (ci := 1) (v := .int 3) (ty := .int) (C := RX1) (T := TX1) (N := 17) hx hb hts hin0 tyX1 tyX1_ok nmX1 hown hK hP hD hS 0 rfl rfl 4 (by decide) fl47 (fun _ h9 => h9) rfl (by decide +kernel) rfl rfl (Nat.le_of_ble_eq_true rfl) dX1_look_38 (fun H locs hP hD hS => ?_)
        have hP : va_P (dC, dI) vwCl (w1 h a b cI cJ f g zt (nI n8) zc 3 znu zty zhd zpa zch zlk zlo zhi zlp zll zlv) H := hP
        have hD : va_D A (w1 h a b cI cJ f g zt (nI n8) zc 3 znu zty zhd zpa zch zlk zlo zhi zlp zll zlv) := hD
        refine lv_aload_n hx hb dX1_look_41 rfl (lv_at hl 2 rfl) ?_
        refine lv_iconst (v := 1) hx hb dX1_look_42 (by decide) ?_
        refine lv_iload_n hx hb dX1_look_43 rfl (lv_at hl 0 rfl) ?_
        refine lv_iadd hx hb dX1_look_44 ?_
        refine lv_aload_n hx hb dX1_look_45 rfl (lv_at hl 2 rfl) ?_
        refine va_get (D := (dC, dI)) (ci := 1) (v := .int 3) (C := RX1) (T := TX1) (N := 17) hx hb hts hin0 hown hK hP 0 rfl rfl 4 (by decide) fl47 (fun _ h9 => h9) rfl dX1_look_46 ?_
        refine lv_bipush (v := 12) hx hb dX1_look_49 (by decide) ?_
        refine lv_icmp_ne (tgt := 58) hx hb dX1_look_51 (by decide) (fun c_78 => ?_) (fun c_78 => ?_)
        · skip
          refine lv_iconst (v := 0) hx hb dX1_look_58 (by decide) ?_
          refine lv_iadd hx hb dX1_look_59 ?_
          have e_79 : ((1 + (nI (wd (B a9)))) + 0 : Int32) = nI (hd (B a9)) := hdn (by rw [hk]; decide)
          rw [e_79]
          refine va_put (D := (dC, dI)) (ci := 1) (v := .int (nI (hd (B a9)))) (ty := .int) (C := RX1) (T := TX1) (N := 17) hx hb hts hin0 tyX1 tyX1_ok nmX1 hown hK hP hD hS 0 rfl rfl 7 (by decide) fl50 (fun _ h9 => h9) rfl (by decide +kernel) rfl rfl (Nat.le_of_ble_eq_true rfl) dX1_look_60 (fun H locs hP hD hS => ?_)
          have hP : va_P (dC, dI) vwCl (w1 h a b cI cJ f g zt (nI n8) zc 3 znu zty (nI (hd (B a9))) zpa zch zlk zlo zhi zlp zll zlv) H := hP
          have hD : va_D A (w1 h a b cI cJ f g zt (nI n8) zc 3 znu zty (nI (hd (B a9))) zpa zch zlk zlo zhi zlp zll zlv) := hD
          refine lv_iload_n hx hb dX1_look_63 rfl (lv_at hl 3 rfl) ?_
          refine lv_aload_n hx hb dX1_look_64 rfl (lv_at hl 2 rfl) ?_
          refine va_get (D := (dC, dI)) (ci := 1) (v := .int (nI (hd (B a9)))) (C := RX1) (T := TX1) (N := 17) hx hb hts hin0 hown hK hP 0 rfl rfl 7 (by decide) fl50 (fun _ h9 => h9) rfl dX1_look_65 ?_
          refine lv_iadd hx hb dX1_look_68 ?_
          have e_80 : ((nI a9) + (nI (hd (B a9))) : Int32) = nI (a9 + hd (B a9)) := nI_add _ _
          rw [e_80]
          refine lv_aload_n hx hb dX1_look_69 rfl (lv_at hl 2 rfl) ?_
          refine va_get (D := (dC, dI)) (ci := 1) (v := .int (nI n8)) (C := RX1) (T := TX1) (N := 17) hx hb hts hin0 hown hK hP 0 rfl rfl 2 (by decide) fl28 (fun _ h9 => h9) rfl dX1_look_70 ?_
          refine lv_icmp_le (tgt := 79) hx hb dX1_look_73 (by decide) (fun c_81 => ?_) (fun c_81 => ?_)
          · skip
            have q4 := hd_le _ (hB a9)
            have q3 : a9 + hd (B a9) ≤ n8 := (nI_leI (by omega) (by omega)).mp c_81
            refine lv_aload_n hx hb dX1_look_79 rfl (lv_at hl 2 rfl) ?_
            refine lv_iload_n hx hb dX1_look_80 rfl (lv_at hl 0 rfl) ?_
            refine lv_if_ne (tgt := 91) hx hb dX1_look_81 (by decide) (fun c_82 => ?_) (fun c_82 => ?_)
            · skip
              have q5 : ¬ wd (B a9) = 0 := fun z => c_82 (by rw [z]; rfl)
              refine lv_aload_n hx hb dX1_look_91 rfl (lv_at hl 2 rfl) ?_
              refine lv_iload_n hx hb dX1_look_92 rfl (lv_at hl 3 rfl) ?_
              refine lv_iconst (v := 1) hx hb dX1_look_93 (by decide) ?_
              refine lv_iadd hx hb dX1_look_94 ?_
              refine lv_iload_n hx hb dX1_look_95 rfl (lv_at hl 0 rfl) ?_
              have e_85 : ((nI a9) + 1 : Int32) = nI (a9 + 1) := nI_1 a9
              rw [e_85]
              refine gvl (As := [.int (nI (a9 + 1)), .int (nI (wd (B a9)))]) (rest := [.ref h]) ⟨hx, hb, hml, hown, hts⟩ (c_X1_numberAt l dC dI tk tw h a b cI cJ _ f g zt (nI n8) zc 3 znu zty (nI (hd (B a9))) zpa zch zlk zlo zhi zlp zll zlv B (a9 + 1) (wd (B a9)) (by omega) (fun j hj => hf9 j (by omega))) (cwV 2 hts gX1_look_X1_numberAt rfl rfl rfl (by decide +kernel) ⟨Nat.le_of_ble_eq_true rfl, Nat.le_of_ble_eq_true rfl⟩) hK hP hD hS hA hZ (q0 := 0) (ci := 1) rfl rfl rfl rfl hl.1 rfl (Nat.le_of_ble_eq_true rfl) dX1_look_96 ⟨Nat.le_of_ble_eq_true rfl, Nat.le_of_ble_eq_true rfl⟩ (fun r_84 u_86 H locs hw_83 hP hD hS => ?_)
              obtain rfl : r_84 = nv B a9 := hw_83.trans (nv_w1 q5 (by rw [hk]; decide)).symm
              refine va_put (D := (dC, dI)) (ci := 1) (v := .long (nv B a9)) (ty := .long) (C := RX1) (T := TX1) (N := 17) hx hb hts hin0 tyX1 tyX1_ok nmX1 hown hK hP hD hS 0 rfl rfl 5 (by decide) fl61 (fun _ h9 => h9) rfl (by decide +kernel) rfl rfl (Nat.le_of_ble_eq_true rfl) dX1_look_99 (fun H locs hP hD hS => ?_)
              have hP : va_P (dC, dI) vwCl (w1 h a b cI cJ f g zt (nI n8) zc 3 (nv B a9) zty (nI (hd (B a9))) zpa zch zlk zlo zhi zlp zll zlv) H := hP
              have hD : va_D A (w1 h a b cI cJ f g zt (nI n8) zc 3 (nv B a9) zty (nI (hd (B a9))) zpa zch zlk zlo zhi zlp zll zlv) := hD
              refine lv_aload_n hx hb dX1_look_102 rfl (lv_at hl 2 rfl) ?_
              refine va_get (D := (dC, dI)) (ci := 1) (v := .int 3) (C := RX1) (T := TX1) (N := 17) hx hb hts hin0 hown hK hP 0 rfl rfl 4 (by decide) fl47 (fun _ h9 => h9) rfl dX1_look_103 ?_
              refine lv_iconst (v := 5) hx hb dX1_look_106 (by decide) ?_
              refine lv_icmp_ne (tgt := 138) hx hb dX1_look_107 (by decide) (fun c_87 => ?_) (fun c_87 => ?_)
              · skip
                refine lv_aload_n hx hb dX1_look_138 rfl (lv_at hl 2 rfl) ?_
                refine va_get (D := (dC, dI)) (ci := 1) (v := .int 3) (C := RX1) (T := TX1) (N := 17) hx hb hts hin0 hown hK hP 0 rfl rfl 4 (by decide) fl47 (fun _ h9 => h9) rfl dX1_look_139 ?_
                refine lv_bipush (v := 12) hx hb dX1_look_142 (by decide) ?_
                refine lv_icmp_ne (tgt := 163) hx hb dX1_look_144 (by decide) (fun c_88 => ?_) (fun c_88 => ?_)
                · skip
                  refine lv_iconst (v := 0) hx hb dX1_look_163 (by decide) ?_
                  refine lv_istore (lv' := [(4, .int 0), (3, .int (nI (wd (B a9)))), (2, .int (nI (B a9))), (0, .ref h), (1, .int (nI a9))]) hx hb dX1_look_164 hl (by decide) rfl (fun ls hl => ?_)
                  refine lv_aload_n hx hb dX1_look_166 rfl (lv_at hl 3 rfl) ?_
                  refine lv_iload hx hb dX1_look_167 (lv_at hl 0 rfl) ?_
                  refine lv_bipush (v := 127) hx hb dX1_look_169 (by decide) ?_
                  refine lv_icmp_le (tgt := 183) hx hb dX1_look_171 (by decide) (fun c_89 => ?_) (fun c_89 => ?_)
                  · skip
                    refine lv_iload hx hb dX1_look_183 (lv_at hl 0 rfl) ?_
                    refine va_put (D := (dC, dI)) (ci := 1) (v := .int 0) (ty := .int) (C := RX1) (T := TX1) (N := 17) hx hb hts hin0 tyX1 tyX1_ok nmX1 hown hK hP hD hS 0 rfl rfl 6 (by decide) fl65 (fun _ h9 => h9) rfl (by decide +kernel) rfl rfl (Nat.le_of_ble_eq_true rfl) dX1_look_185 (fun H locs hP hD hS => ?_)
                    have hP : va_P (dC, dI) vwCl (w1 h a b cI cJ f g zt (nI n8) zc 3 (nv B a9) 0 (nI (hd (B a9))) zpa zch zlk zlo zhi zlp zll zlv) H := hP
                    have hD : va_D A (w1 h a b cI cJ f g zt (nI n8) zc 3 (nv B a9) 0 (nI (hd (B a9))) zpa zch zlk zlo zhi zlp zll zlv) := hD
                    refine lv_aload_n hx hb dX1_look_188 rfl (lv_at hl 3 rfl) ?_
                    refine lv_lconst (v := 0) hx hb dX1_look_189 (by decide) ?_
                    refine va_put (D := (dC, dI)) (ci := 1) (v := .long 0) (ty := .long) (C := RX1) (T := TX1) (N := 17) hx hb hts hin0 tyX1 tyX1_ok nmX1 hown hK hP hD hS 0 rfl rfl 8 (by decide) fl68 (fun _ h9 => h9) rfl (by decide +kernel) rfl rfl (Nat.le_of_ble_eq_true rfl) dX1_look_190 (fun H locs hP hD hS => ?_)
                    have hP : va_P (dC, dI) vwCl (w1 h a b cI cJ f g zt (nI n8) zc 3 (nv B a9) 0 (nI (hd (B a9))) 0 zch zlk zlo zhi zlp zll zlv) H := hP
                    have hD : va_D A (w1 h a b cI cJ f g zt (nI n8) zc 3 (nv B a9) 0 (nI (hd (B a9))) 0 zch zlk zlo zhi zlp zll zlv) := hD
                    refine lv_aload_n hx hb dX1_look_193 rfl (lv_at hl 3 rfl) ?_
                    refine lv_lconst (v := 0) hx hb dX1_look_194 (by decide) ?_
                    refine va_put (D := (dC, dI)) (ci := 1) (v := .long 0) (ty := .long) (C := RX1) (T := TX1) (N := 17) hx hb hts hin0 tyX1 tyX1_ok nmX1 hown hK hP hD hS 0 rfl rfl 9 (by decide) fl71 (fun _ h9 => h9) rfl (by decide +kernel) rfl rfl (Nat.le_of_ble_eq_true rfl) dX1_look_195 (fun H locs hP hD hS => ?_)
                    have hP : va_P (dC, dI) vwCl (w1 h a b cI cJ f g zt (nI n8) zc 3 (nv B a9) 0 (nI (hd (B a9))) 0 0 zlk zlo zhi zlp zll zlv) H := hP
                    have hD : va_D A (w1 h a b cI cJ f g zt (nI n8) zc 3 (nv B a9) 0 (nI (hd (B a9))) 0 0 zlk zlo zhi zlp zll zlv) := hD
                    refine lv_aload_n hx hb dX1_look_198 rfl (lv_at hl 3 rfl) ?_
                    refine va_get (D := (dC, dI)) (ci := 1) (v := .int 3) (C := RX1) (T := TX1) (N := 17) hx hb hts hin0 hown hK hP 0 rfl rfl 4 (by decide) fl47 (fun _ h9 => h9) rfl dX1_look_199 ?_
                    refine lv_bipush (v := 7) hx hb dX1_look_202 (by decide) ?_
                    refine lv_icmp_le (tgt := 221) hx hb dX1_look_204 (by decide) (fun c_90 => ?_) (fun c_90 => ?_)
                    · skip
                      have q6 : 8 ≤ kd (B a9) → nv B a9 ≤ 2147483647 := fun z => absurd z (by rw [hk]; decide)
                      refine lv_aload_n hx hb dX1_look_221 rfl (lv_at hl 3 rfl) ?_
                      refine va_get (D := (dC, dI)) (ci := 1) (v := .int 3) (C := RX1) (T := TX1) (N := 17) hx hb hts hin0 hown hK hP 0 rfl rfl 4 (by decide) fl47 (fun _ h9 => h9) rfl dX1_look_222 ?_
                      refine lv_bipush (v := 8) hx hb dX1_look_225 (by decide) ?_
                      refine lv_icmp_eq (tgt := 248) hx hb dX1_look_227 (by decide) (fun c_91 => ?_) (fun c_91 => ?_)
                      · skip
                        exact absurd c_91 (by decide)
                      · skip
                        refine lv_aload_n hx hb dX1_look_230 rfl (lv_at hl 3 rfl) ?_
                        refine va_get (D := (dC, dI)) (ci := 1) (v := .int 3) (C := RX1) (T := TX1) (N := 17) hx hb hts hin0 hown hK hP 0 rfl rfl 4 (by decide) fl47 (fun _ h9 => h9) rfl dX1_look_231 ?_
                        refine lv_bipush (v := 9) hx hb dX1_look_234 (by decide) ?_
                        refine lv_icmp_eq (tgt := 248) hx hb dX1_look_236 (by decide) (fun c_92 => ?_) (fun c_92 => ?_)
                        · skip
                          exact absurd c_92 (by decide)
                        · skip
                          refine lv_aload_n hx hb dX1_look_239 rfl (lv_at hl 3 rfl) ?_
                          refine va_get (D := (dC, dI)) (ci := 1) (v := .int 3) (C := RX1) (T := TX1) (N := 17) hx hb hts hin0 hown hK hP 0 rfl rfl 4 (by decide) fl47 (fun _ h9 => h9) rfl dX1_look_240 ?_
                          refine lv_bipush (v := 12) hx hb dX1_look_243 (by decide) ?_
                          refine lv_icmp_ne (tgt := 256) hx hb dX1_look_245 (by decide) (fun c_93 => ?_) (fun c_93 => ?_)
                          · skip
                            refine lv_aload_n hx hb dX1_look_256 rfl (lv_at hl 3 rfl) ?_
                            refine va_get (D := (dC, dI)) (ci := 1) (v := .int 3) (C := RX1) (T := TX1) (N := 17) hx hb hts hin0 hown hK hP 0 rfl rfl 4 (by decide) fl47 (fun _ h9 => h9) rfl dX1_look_257 ?_
                            refine lv_bipush (v := 10) hx hb dX1_look_260 (by decide) ?_
                            refine lv_icmp_ne (tgt := 273) hx hb dX1_look_262 (by decide) (fun c_94 => ?_) (fun c_94 => ?_)
                            · skip
                              refine lv_aload_n hx hb dX1_look_273 rfl (lv_at hl 3 rfl) ?_
                              refine va_get (D := (dC, dI)) (ci := 1) (v := .int 3) (C := RX1) (T := TX1) (N := 17) hx hb hts hin0 hown hK hP 0 rfl rfl 4 (by decide) fl47 (fun _ h9 => h9) rfl dX1_look_274 ?_
                              refine lv_bipush (v := 11) hx hb dX1_look_277 (by decide) ?_
                              refine lv_icmp_ne (tgt := 294) hx hb dX1_look_279 (by decide) (fun c_95 => ?_) (fun c_95 => ?_)
                              · skip
                                have q7 : paL B a9 = 0 := by simp [paL, hp, hk]
                                refine lv_iload_n hx hb dX1_look_294 rfl (lv_at hl 4 rfl) ?_
                                refine lv_aload_n hx hb dX1_look_295 rfl (lv_at hl 3 rfl) ?_
                                refine va_get (D := (dC, dI)) (ci := 1) (v := .int (nI (hd (B a9)))) (C := RX1) (T := TX1) (N := 17) hx hb hts hin0 hown hK hP 0 rfl rfl 7 (by decide) fl50 (fun _ h9 => h9) rfl dX1_look_296 ?_
                                refine lv_iadd hx hb dX1_look_299 ?_
                                refine lv_i2l hx hb dX1_look_300 rfl ?_
                                refine lv_aload_n hx hb dX1_look_301 rfl (lv_at hl 3 rfl) ?_
                                refine va_get (D := (dC, dI)) (ci := 1) (v := .long 0) (C := RX1) (T := TX1) (N := 17) hx hb hts hin0 hown hK hP 0 rfl rfl 8 (by decide) fl68 (fun _ h9 => h9) rfl dX1_look_302 ?_
                                refine lv_ladd hx hb dX1_look_305 ?_
                                refine lv_aload_n hx hb dX1_look_306 rfl (lv_at hl 3 rfl) ?_
                                refine va_get (D := (dC, dI)) (ci := 1) (v := .int (nI n8)) (C := RX1) (T := TX1) (N := 17) hx hb hts hin0 hown hK hP 0 rfl rfl 2 (by decide) fl28 (fun _ h9 => h9) rfl dX1_look_307 ?_
                                refine lv_i2l hx hb dX1_look_310 rfl ?_
                                refine W.lcmp hx hb dX1_look_311 ?_
                                refine lv_if_le (tgt := 320) hx hb dX1_look_312 (by decide) (fun c_96 => ?_) (fun c_96 => ?_)
                                · skip
                                  have c_96 := (lg_cmp_le ((((nI a9) + (nI (hd (B a9)))).toInt64) + 0) ((nI n8).toInt64)).mp c_96
                                  refine lv_iconst (v := 0) hx hb dX1_look_320 (by decide) ?_
                                  have hP9 : va_P (dC, dI) vwCl ((fun (u : Int32 × Int64 × Int32 × Int32 × Int64 × Int64) => w1 h a b cI cJ f g zt (nI n8) zc u.1 u.2.1 u.2.2.1 u.2.2.2.1 u.2.2.2.2.1 u.2.2.2.2.2 zlk zlo zhi zlp zll zlv) ((3, nv B a9, 0, nI (hd (B a9)), 0, 0))) H := hP
                                  have hD9 : va_D A ((fun (u : Int32 × Int64 × Int32 × Int32 × Int64 × Int64) => w1 h a b cI cJ f g zt (nI n8) zc u.1 u.2.1 u.2.2.1 u.2.2.2.1 u.2.2.2.2.1 u.2.2.2.2.2 zlk zlo zhi zlp zll zlv) ((3, nv B a9, 0, nI (hd (B a9)), 0, 0))) := hD
                                  exact W.iret (v := 0) hx hb hr (fun t ht hW => ⟨⟨0, (3, nv B a9, 0, nI (hd (B a9)), 0, 0), rfl, (by have q8 := (lk_end hB hn8 q1 q2 q3 q6).1 (by rw [q7]; exact c_96); exact Or.inr ⟨by rw [q8]; exact nI_pos (by have := kd_le _ (hB a9); omega), rfl, by rw [hk]; rfl, rfl, fun z => absurd (hk.symm.trans z) (by decide), rfl, q7.symm, by simp [ch, hk]⟩), by rw [ht]; exact hP9, va_K.moved hW.alike hK, hD9⟩, hS.F ht⟩) hS.2.2 dX1_look_321
                                · skip
                                  have c_96 := (not_congr (lg_cmp_le ((((nI a9) + (nI (hd (B a9)))).toInt64) + 0) ((nI n8).toInt64))).mp c_96
                                  refine lv_bipush (v := -2) hx hb dX1_look_315 (by decide) ?_
                                  refine lv_goto (tgt := 321) hx hb dX1_look_317 (by decide) ?_
                                  have hP9 : va_P (dC, dI) vwCl ((fun (u : Int32 × Int64 × Int32 × Int32 × Int64 × Int64) => w1 h a b cI cJ f g zt (nI n8) zc u.1 u.2.1 u.2.2.1 u.2.2.2.1 u.2.2.2.2.1 u.2.2.2.2.2 zlk zlo zhi zlp zll zlv) ((3, nv B a9, 0, nI (hd (B a9)), 0, 0))) H := hP
                                  have hD9 : va_D A ((fun (u : Int32 × Int64 × Int32 × Int32 × Int64 × Int64) => w1 h a b cI cJ f g zt (nI n8) zc u.1 u.2.1 u.2.2.1 u.2.2.2.1 u.2.2.2.2.1 u.2.2.2.2.2 zlk zlo zhi zlp zll zlv) ((3, nv B a9, 0, nI (hd (B a9)), 0, 0))) := hD
                                  exact W.iret (v := -2) hx hb hr (fun t ht hW => ⟨⟨-2, (3, nv B a9, 0, nI (hd (B a9)), 0, 0), rfl, (lkneg ((lk_end hB hn8 q1 q2 q3 q6).2 (by rw [q7]; exact c_96)) (by decide)), by rw [ht]; exact hP9, va_K.moved hW.alike hK, hD9⟩, hS.F ht⟩) hS.2.2 dX1_look_321
                              · skip
                                exact absurd c_95 (by decide)
                            · skip
                              exact absurd c_94 (by decide)
                          · skip
                            exact absurd c_93 (by decide)
                    · skip
                      exact absurd (by decide) c_90
                  · skip
                    exact absurd (by decide) c_89
                · skip
                  exact absurd c_88 (by decide)
              · skip
                exact absurd c_87 (by decide)
            · skip
              have q5 : wd (B a9) = 0 := (nI_z (by omega)).mp c_82
              refine lv_iload_n hx hb dX1_look_84 rfl (lv_at hl 1 rfl) ?_
              refine gsl (As := [.int (nI (B a9))]) (rest := [.ref h]) ⟨hx, hb, hml, hown, hts⟩ (c_X1_ownNumber l dC dI tk tw _ (B a9) (hB a9)) (va_cwS 1 hts gX1_look_X1_ownNumber rfl rfl rfl (by decide +kernel) ⟨Nat.le_of_ble_eq_true rfl, Nat.le_of_ble_eq_true rfl⟩) hP hS hA hZ rfl hl.1 rfl (Nat.le_of_ble_eq_true rfl) dX1_look_85 ⟨Nat.le_of_ble_eq_true rfl, Nat.le_of_ble_eq_true rfl⟩ (fun r_98 H locs hw_97 hP hS => ?_)
              obtain rfl : r_98 = nv B a9 := hw_97.trans (nv_w0 q5).symm
              refine lv_goto (tgt := 99) hx hb dX1_look_88 (by decide) ?_
              refine va_put (D := (dC, dI)) (ci := 1) (v := .long (nv B a9)) (ty := .long) (C := RX1) (T := TX1) (N := 17) hx hb hts hin0 tyX1 tyX1_ok nmX1 hown hK hP hD hS 0 rfl rfl 5 (by decide) fl61 (fun _ h9 => h9) rfl (by decide +kernel) rfl rfl (Nat.le_of_ble_eq_true rfl) dX1_look_99 (fun H locs hP hD hS => ?_)
              have hP : va_P (dC, dI) vwCl (w1 h a b cI cJ f g zt (nI n8) zc 3 (nv B a9) zty (nI (hd (B a9))) zpa zch zlk zlo zhi zlp zll zlv) H := hP
              have hD : va_D A (w1 h a b cI cJ f g zt (nI n8) zc 3 (nv B a9) zty (nI (hd (B a9))) zpa zch zlk zlo zhi zlp zll zlv) := hD
              refine lv_aload_n hx hb dX1_look_102 rfl (lv_at hl 2 rfl) ?_
              refine va_get (D := (dC, dI)) (ci := 1) (v := .int 3) (C := RX1) (T := TX1) (N := 17) hx hb hts hin0 hown hK hP 0 rfl rfl 4 (by decide) fl47 (fun _ h9 => h9) rfl dX1_look_103 ?_
              refine lv_iconst (v := 5) hx hb dX1_look_106 (by decide) ?_
              refine lv_icmp_ne (tgt := 138) hx hb dX1_look_107 (by decide) (fun c_99 => ?_) (fun c_99 => ?_)
              · skip
                refine lv_aload_n hx hb dX1_look_138 rfl (lv_at hl 2 rfl) ?_
                refine va_get (D := (dC, dI)) (ci := 1) (v := .int 3) (C := RX1) (T := TX1) (N := 17) hx hb hts hin0 hown hK hP 0 rfl rfl 4 (by decide) fl47 (fun _ h9 => h9) rfl dX1_look_139 ?_
                refine lv_bipush (v := 12) hx hb dX1_look_142 (by decide) ?_
                refine lv_icmp_ne (tgt := 163) hx hb dX1_look_144 (by decide) (fun c_100 => ?_) (fun c_100 => ?_)
                · skip
                  refine lv_iconst (v := 0) hx hb dX1_look_163 (by decide) ?_
                  refine lv_istore (lv' := [(4, .int 0), (3, .int (nI (wd (B a9)))), (2, .int (nI (B a9))), (0, .ref h), (1, .int (nI a9))]) hx hb dX1_look_164 hl (by decide) rfl (fun ls hl => ?_)
                  refine lv_aload_n hx hb dX1_look_166 rfl (lv_at hl 3 rfl) ?_
                  refine lv_iload hx hb dX1_look_167 (lv_at hl 0 rfl) ?_
                  refine lv_bipush (v := 127) hx hb dX1_look_169 (by decide) ?_
                  refine lv_icmp_le (tgt := 183) hx hb dX1_look_171 (by decide) (fun c_101 => ?_) (fun c_101 => ?_)
                  · skip
                    refine lv_iload hx hb dX1_look_183 (lv_at hl 0 rfl) ?_
                    refine va_put (D := (dC, dI)) (ci := 1) (v := .int 0) (ty := .int) (C := RX1) (T := TX1) (N := 17) hx hb hts hin0 tyX1 tyX1_ok nmX1 hown hK hP hD hS 0 rfl rfl 6 (by decide) fl65 (fun _ h9 => h9) rfl (by decide +kernel) rfl rfl (Nat.le_of_ble_eq_true rfl) dX1_look_185 (fun H locs hP hD hS => ?_)
                    have hP : va_P (dC, dI) vwCl (w1 h a b cI cJ f g zt (nI n8) zc 3 (nv B a9) 0 (nI (hd (B a9))) zpa zch zlk zlo zhi zlp zll zlv) H := hP
                    have hD : va_D A (w1 h a b cI cJ f g zt (nI n8) zc 3 (nv B a9) 0 (nI (hd (B a9))) zpa zch zlk zlo zhi zlp zll zlv) := hD
                    refine lv_aload_n hx hb dX1_look_188 rfl (lv_at hl 3 rfl) ?_
                    refine lv_lconst (v := 0) hx hb dX1_look_189 (by decide) ?_
                    refine va_put (D := (dC, dI)) (ci := 1) (v := .long 0) (ty := .long) (C := RX1) (T := TX1) (N := 17) hx hb hts hin0 tyX1 tyX1_ok nmX1 hown hK hP hD hS 0 rfl rfl 8 (by decide) fl68 (fun _ h9 => h9) rfl (by decide +kernel) rfl rfl (Nat.le_of_ble_eq_true rfl) dX1_look_190 (fun H locs hP hD hS => ?_)
                    have hP : va_P (dC, dI) vwCl (w1 h a b cI cJ f g zt (nI n8) zc 3 (nv B a9) 0 (nI (hd (B a9))) 0 zch zlk zlo zhi zlp zll zlv) H := hP
                    have hD : va_D A (w1 h a b cI cJ f g zt (nI n8) zc 3 (nv B a9) 0 (nI (hd (B a9))) 0 zch zlk zlo zhi zlp zll zlv) := hD
                    refine lv_aload_n hx hb dX1_look_193 rfl (lv_at hl 3 rfl) ?_
                    refine lv_lconst (v := 0) hx hb dX1_look_194 (by decide) ?_
                    refine va_put (D := (dC, dI)) (ci := 1) (v := .long 0) (ty := .long) (C := RX1) (T := TX1) (N := 17) hx hb hts hin0 tyX1 tyX1_ok nmX1 hown hK hP hD hS 0 rfl rfl 9 (by decide) fl71 (fun _ h9 => h9) rfl (by decide +kernel) rfl rfl (Nat.le_of_ble_eq_true rfl) dX1_look_195 (fun H locs hP hD hS => ?_)
                    have hP : va_P (dC, dI) vwCl (w1 h a b cI cJ f g zt (nI n8) zc 3 (nv B a9) 0 (nI (hd (B a9))) 0 0 zlk zlo zhi zlp zll zlv) H := hP
                    have hD : va_D A (w1 h a b cI cJ f g zt (nI n8) zc 3 (nv B a9) 0 (nI (hd (B a9))) 0 0 zlk zlo zhi zlp zll zlv) := hD
                    refine lv_aload_n hx hb dX1_look_198 rfl (lv_at hl 3 rfl) ?_
                    refine va_get (D := (dC, dI)) (ci := 1) (v := .int 3) (C := RX1) (T := TX1) (N := 17) hx hb hts hin0 hown hK hP 0 rfl rfl 4 (by decide) fl47 (fun _ h9 => h9) rfl dX1_look_199 ?_
                    refine lv_bipush (v := 7) hx hb dX1_look_202 (by decide) ?_
                    refine lv_icmp_le (tgt := 221) hx hb dX1_look_204 (by decide) (fun c_102 => ?_) (fun c_102 => ?_)
                    · skip
                      have q6 : 8 ≤ kd (B a9) → nv B a9 ≤ 2147483647 := fun z => absurd z (by rw [hk]; decide)
                      refine lv_aload_n hx hb dX1_look_221 rfl (lv_at hl 3 rfl) ?_
                      refine va_get (D := (dC, dI)) (ci := 1) (v := .int 3) (C := RX1) (T := TX1) (N := 17) hx hb hts hin0 hown hK hP 0 rfl rfl 4 (by decide) fl47 (fun _ h9 => h9) rfl dX1_look_222 ?_
                      refine lv_bipush (v := 8) hx hb dX1_look_225 (by decide) ?_
                      refine lv_icmp_eq (tgt := 248) hx hb dX1_look_227 (by decide) (fun c_103 => ?_) (fun c_103 => ?_)
                      · skip
                        exact absurd c_103 (by decide)
                      · skip
                        refine lv_aload_n hx hb dX1_look_230 rfl (lv_at hl 3 rfl) ?_
                        refine va_get (D := (dC, dI)) (ci := 1) (v := .int 3) (C := RX1) (T := TX1) (N := 17) hx hb hts hin0 hown hK hP 0 rfl rfl 4 (by decide) fl47 (fun _ h9 => h9) rfl dX1_look_231 ?_
                        refine lv_bipush (v := 9) hx hb dX1_look_234 (by decide) ?_
                        refine lv_icmp_eq (tgt := 248) hx hb dX1_look_236 (by decide) (fun c_104 => ?_) (fun c_104 => ?_)
                        · skip
                          exact absurd c_104 (by decide)
                        · skip
                          refine lv_aload_n hx hb dX1_look_239 rfl (lv_at hl 3 rfl) ?_
                          refine va_get (D := (dC, dI)) (ci := 1) (v := .int 3) (C := RX1) (T := TX1) (N := 17) hx hb hts hin0 hown hK hP 0 rfl rfl 4 (by decide) fl47 (fun _ h9 => h9) rfl dX1_look_240 ?_
                          refine lv_bipush (v := 12) hx hb dX1_look_243 (by decide) ?_
                          refine lv_icmp_ne (tgt := 256) hx hb dX1_look_245 (by decide) (fun c_105 => ?_) (fun c_105 => ?_)
                          · skip
                            refine lv_aload_n hx hb dX1_look_256 rfl (lv_at hl 3 rfl) ?_
                            refine va_get (D := (dC, dI)) (ci := 1) (v := .int 3) (C := RX1) (T := TX1) (N := 17) hx hb hts hin0 hown hK hP 0 rfl rfl 4 (by decide) fl47 (fun _ h9 => h9) rfl dX1_look_257 ?_
                            refine lv_bipush (v := 10) hx hb dX1_look_260 (by decide) ?_
                            refine lv_icmp_ne (tgt := 273) hx hb dX1_look_262 (by decide) (fun c_106 => ?_) (fun c_106 => ?_)
                            · skip
                              refine lv_aload_n hx hb dX1_look_273 rfl (lv_at hl 3 rfl) ?_
                              refine va_get (D := (dC, dI)) (ci := 1) (v := .int 3) (C := RX1) (T := TX1) (N := 17) hx hb hts hin0 hown hK hP 0 rfl rfl 4 (by decide) fl47 (fun _ h9 => h9) rfl dX1_look_274 ?_
                              refine lv_bipush (v := 11) hx hb dX1_look_277 (by decide) ?_
                              refine lv_icmp_ne (tgt := 294) hx hb dX1_look_279 (by decide) (fun c_107 => ?_) (fun c_107 => ?_)
                              · skip
                                have q7 : paL B a9 = 0 := by simp [paL, hp, hk]
                                refine lv_iload_n hx hb dX1_look_294 rfl (lv_at hl 4 rfl) ?_
                                refine lv_aload_n hx hb dX1_look_295 rfl (lv_at hl 3 rfl) ?_
                                refine va_get (D := (dC, dI)) (ci := 1) (v := .int (nI (hd (B a9)))) (C := RX1) (T := TX1) (N := 17) hx hb hts hin0 hown hK hP 0 rfl rfl 7 (by decide) fl50 (fun _ h9 => h9) rfl dX1_look_296 ?_
                                refine lv_iadd hx hb dX1_look_299 ?_
                                refine lv_i2l hx hb dX1_look_300 rfl ?_
                                refine lv_aload_n hx hb dX1_look_301 rfl (lv_at hl 3 rfl) ?_
                                refine va_get (D := (dC, dI)) (ci := 1) (v := .long 0) (C := RX1) (T := TX1) (N := 17) hx hb hts hin0 hown hK hP 0 rfl rfl 8 (by decide) fl68 (fun _ h9 => h9) rfl dX1_look_302 ?_
                                refine lv_ladd hx hb dX1_look_305 ?_
                                refine lv_aload_n hx hb dX1_look_306 rfl (lv_at hl 3 rfl) ?_
                                refine va_get (D := (dC, dI)) (ci := 1) (v := .int (nI n8)) (C := RX1) (T := TX1) (N := 17) hx hb hts hin0 hown hK hP 0 rfl rfl 2 (by decide) fl28 (fun _ h9 => h9) rfl dX1_look_307 ?_
                                refine lv_i2l hx hb dX1_look_310 rfl ?_
                                refine W.lcmp hx hb dX1_look_311 ?_
                                refine lv_if_le (tgt := 320) hx hb dX1_look_312 (by decide) (fun c_108 => ?_) (fun c_108 => ?_)
                                · skip
                                  have c_108 := (lg_cmp_le ((((nI a9) + (nI (hd (B a9)))).toInt64) + 0) ((nI n8).toInt64)).mp c_108
                                  refine lv_iconst (v := 0) hx hb dX1_look_320 (by decide) ?_
                                  have hP9 : va_P (dC, dI) vwCl ((fun (u : Int32 × Int64 × Int32 × Int32 × Int64 × Int64) => w1 h a b cI cJ f g zt (nI n8) zc u.1 u.2.1 u.2.2.1 u.2.2.2.1 u.2.2.2.2.1 u.2.2.2.2.2 zlk zlo zhi zlp zll zlv) ((3, nv B a9, 0, nI (hd (B a9)), 0, 0))) H := hP
                                  have hD9 : va_D A ((fun (u : Int32 × Int64 × Int32 × Int32 × Int64 × Int64) => w1 h a b cI cJ f g zt (nI n8) zc u.1 u.2.1 u.2.2.1 u.2.2.2.1 u.2.2.2.2.1 u.2.2.2.2.2 zlk zlo zhi zlp zll zlv) ((3, nv B a9, 0, nI (hd (B a9)), 0, 0))) := hD
                                  exact W.iret (v := 0) hx hb hr (fun t ht hW => ⟨⟨0, (3, nv B a9, 0, nI (hd (B a9)), 0, 0), rfl, (by have q8 := (lk_end hB hn8 q1 q2 q3 q6).1 (by rw [q7]; exact c_108); exact Or.inr ⟨by rw [q8]; exact nI_pos (by have := kd_le _ (hB a9); omega), rfl, by rw [hk]; rfl, rfl, fun z => absurd (hk.symm.trans z) (by decide), rfl, q7.symm, by simp [ch, hk]⟩), by rw [ht]; exact hP9, va_K.moved hW.alike hK, hD9⟩, hS.F ht⟩) hS.2.2 dX1_look_321
                                · skip
                                  have c_108 := (not_congr (lg_cmp_le ((((nI a9) + (nI (hd (B a9)))).toInt64) + 0) ((nI n8).toInt64))).mp c_108
                                  refine lv_bipush (v := -2) hx hb dX1_look_315 (by decide) ?_
                                  refine lv_goto (tgt := 321) hx hb dX1_look_317 (by decide) ?_
                                  have hP9 : va_P (dC, dI) vwCl ((fun (u : Int32 × Int64 × Int32 × Int32 × Int64 × Int64) => w1 h a b cI cJ f g zt (nI n8) zc u.1 u.2.1 u.2.2.1 u.2.2.2.1 u.2.2.2.2.1 u.2.2.2.2.2 zlk zlo zhi zlp zll zlv) ((3, nv B a9, 0, nI (hd (B a9)), 0, 0))) H := hP
                                  have hD9 : va_D A ((fun (u : Int32 × Int64 × Int32 × Int32 × Int64 × Int64) => w1 h a b cI cJ f g zt (nI n8) zc u.1 u.2.1 u.2.2.1 u.2.2.2.1 u.2.2.2.2.1 u.2.2.2.2.2 zlk zlo zhi zlp zll zlv) ((3, nv B a9, 0, nI (hd (B a9)), 0, 0))) := hD
                                  exact W.iret (v := -2) hx hb hr (fun t ht hW => ⟨⟨-2, (3, nv B a9, 0, nI (hd (B a9)), 0, 0), rfl, (lkneg ((lk_end hB hn8 q1 q2 q3 q6).2 (by rw [q7]; exact c_108)) (by decide)), by rw [ht]; exact hP9, va_K.moved hW.alike hK, hD9⟩, hS.F ht⟩) hS.2.2 dX1_look_321
                              · skip
                                exact absurd c_107 (by decide)
                            · skip
                              exact absurd c_106 (by decide)
                          · skip
                            exact absurd c_105 (by decide)
                    · skip
                      exact absurd (by decide) c_102
                  · skip
                    exact absurd (by decide) c_101
                · skip
                  exact absurd c_100 (by decide)
              · skip
                exact absurd c_99 (by decide)
          · skip
            refine lv_bipush (v := -2) hx hb dX1_look_76 (by decide) ?_
            have hP9 : va_P (dC, dI) vwCl ((fun (u : Int32 × Int64 × Int32 × Int32 × Int64 × Int64) => w1 h a b cI cJ f g zt (nI n8) zc u.1 u.2.1 u.2.2.1 u.2.2.2.1 u.2.2.2.2.1 u.2.2.2.2.2 zlk zlo zhi zlp zll zlv) ((3, znu, zty, nI (hd (B a9)), zpa, zch))) H := hP
            have hD9 : va_D A ((fun (u : Int32 × Int64 × Int32 × Int32 × Int64 × Int64) => w1 h a b cI cJ f g zt (nI n8) zc u.1 u.2.1 u.2.2.1 u.2.2.2.1 u.2.2.2.2.1 u.2.2.2.2.2 zlk zlo zhi zlp zll zlv) ((3, znu, zty, nI (hd (B a9)), zpa, zch))) := hD
            exact W.iret (v := -2) hx hb hr (fun t ht hW => ⟨⟨-2, (3, znu, zty, nI (hd (B a9)), zpa, zch), rfl, (lkneg (lk3 hB hn8 q1 q2 (by have q4 := hd_le _ (hB a9); have z := (not_congr (nI_leI (a := a9 + hd (B a9)) (b := n8) (by omega) (by omega))).mp c_81; omega)) (by decide)), by rw [ht]; exact hP9, va_K.moved hW.alike hK, hD9⟩, hS.F ht⟩) hS.2.2 dX1_look_78
        · skip
          exact absurd c_78 (by decide)
      · skip
        have q2 : ¬ B a9 = 193 := fun z => c_3 (by rw [z]; rfl)
        refine lv_iload_n hx hb dX1_look_28 rfl (lv_at hl 0 rfl) ?_
        refine gsi (As := [.int (nI (B a9))]) (rest := []) ⟨hx, hb, hml, hown, hts⟩ (c_X1_widthOf l dC dI tk tw _ (B a9) (hB a9)) (va_cwS 1 hts gX1_look_X1_widthOf rfl rfl rfl (by decide +kernel) ⟨Nat.le_of_ble_eq_true rfl, Nat.le_of_ble_eq_true rfl⟩) hP hS hA hZ rfl hl.1 rfl (Nat.le_of_ble_eq_true rfl) dX1_look_29 ⟨Nat.le_of_ble_eq_true rfl, Nat.le_of_ble_eq_true rfl⟩ (fun r_110 H locs hw_109 hP hS => ?_)
        obtain rfl : r_110 = nI (wd (B a9)) := hw_109
        refine lv_istore_n (lv' := [(3, .int (nI (wd (B a9)))), (2, .int (nI (B a9))), (0, .ref h), (1, .int (nI a9))]) hx hb dX1_look_32 rfl hl (by decide) rfl (fun ls hl => ?_)
        refine lv_aload_n hx hb dX1_look_33 rfl (lv_at hl 2 rfl) ?_
        refine lv_iload_n hx hb dX1_look_34 rfl (lv_at hl 1 rfl) ?_
        refine gsi (As := [.int (nI (B a9))]) (rest := [.ref h]) ⟨hx, hb, hml, hown, hts⟩ (c_X1_kindOf l dC dI tk tw _ (B a9) (hB a9) q2) (va_cwS 1 hts gX1_look_X1_kindOf rfl rfl rfl (by decide +kernel) ⟨Nat.le_of_ble_eq_true rfl, Nat.le_of_ble_eq_true rfl⟩) hP hS hA hZ rfl hl.1 rfl (Nat.le_of_ble_eq_true rfl) dX1_look_35 ⟨Nat.le_of_ble_eq_true rfl, Nat.le_of_ble_eq_true rfl⟩ (fun r_112 H locs hw_111 hP hS => ?_)
        obtain rfl : r_112 = 4 := hw_111.trans (by rw [hk]; rfl)
        refine va_put (D := (dC, dI)) (ci := 1) (v := .int 4) (ty := .int) (C := RX1) (T := TX1) (N := 17) hx hb hts hin0 tyX1 tyX1_ok nmX1 hown hK hP hD hS 0 rfl rfl 4 (by decide) fl47 (fun _ h9 => h9) rfl (by decide +kernel) rfl rfl (Nat.le_of_ble_eq_true rfl) dX1_look_38 (fun H locs hP hD hS => ?_)
        have hP : va_P (dC, dI) vwCl (w1 h a b cI cJ f g zt (nI n8) zc 4 znu zty zhd zpa zch zlk zlo zhi zlp zll zlv) H := hP
        have hD : va_D A (w1 h a b cI cJ f g zt (nI n8) zc 4 znu zty zhd zpa zch zlk zlo zhi zlp zll zlv) := hD
        refine lv_aload_n hx hb dX1_look_41 rfl (lv_at hl 2 rfl) ?_
        refine lv_iconst (v := 1) hx hb dX1_look_42 (by decide) ?_
        refine lv_iload_n hx hb dX1_look_43 rfl (lv_at hl 0 rfl) ?_
        refine lv_iadd hx hb dX1_look_44 ?_
        refine lv_aload_n hx hb dX1_look_45 rfl (lv_at hl 2 rfl) ?_
        refine va_get (D := (dC, dI)) (ci := 1) (v := .int 4) (C := RX1) (T := TX1) (N := 17) hx hb hts hin0 hown hK hP 0 rfl rfl 4 (by decide) fl47 (fun _ h9 => h9) rfl dX1_look_46 ?_
        refine lv_bipush (v := 12) hx hb dX1_look_49 (by decide) ?_
        refine lv_icmp_ne (tgt := 58) hx hb dX1_look_51 (by decide) (fun c_113 => ?_) (fun c_113 => ?_)
        · skip
          refine lv_iconst (v := 0) hx hb dX1_look_58 (by decide) ?_
          refine lv_iadd hx hb dX1_look_59 ?_
          have e_114 : ((1 + (nI (wd (B a9)))) + 0 : Int32) = nI (hd (B a9)) := hdn (by rw [hk]; decide)
          rw [e_114]
          refine va_put (D := (dC, dI)) (ci := 1) (v := .int (nI (hd (B a9)))) (ty := .int) (C := RX1) (T := TX1) (N := 17) hx hb hts hin0 tyX1 tyX1_ok nmX1 hown hK hP hD hS 0 rfl rfl 7 (by decide) fl50 (fun _ h9 => h9) rfl (by decide +kernel) rfl rfl (Nat.le_of_ble_eq_true rfl) dX1_look_60 (fun H locs hP hD hS => ?_)
          have hP : va_P (dC, dI) vwCl (w1 h a b cI cJ f g zt (nI n8) zc 4 znu zty (nI (hd (B a9))) zpa zch zlk zlo zhi zlp zll zlv) H := hP
          have hD : va_D A (w1 h a b cI cJ f g zt (nI n8) zc 4 znu zty (nI (hd (B a9))) zpa zch zlk zlo zhi zlp zll zlv) := hD
          refine lv_iload_n hx hb dX1_look_63 rfl (lv_at hl 3 rfl) ?_
          refine lv_aload_n hx hb dX1_look_64 rfl (lv_at hl 2 rfl) ?_
          refine va_get (D := (dC, dI)) (ci := 1) (v := .int (nI (hd (B a9)))) (C := RX1) (T := TX1) (N := 17) hx hb hts hin0 hown hK hP 0 rfl rfl 7 (by decide) fl50 (fun _ h9 => h9) rfl dX1_look_65 ?_
          refine lv_iadd hx hb dX1_look_68 ?_
          have e_115 : ((nI a9) + (nI (hd (B a9))) : Int32) = nI (a9 + hd (B a9)) := nI_add _ _
          rw [e_115]
          refine lv_aload_n hx hb dX1_look_69 rfl (lv_at hl 2 rfl) ?_
          refine va_get (D := (dC, dI)) (ci := 1) (v := .int (nI n8)) (C := RX1) (T := TX1) (N := 17) hx hb hts hin0 hown hK hP 0 rfl rfl 2 (by decide) fl28 (fun _ h9 => h9) rfl dX1_look_70 ?_
          refine lv_icmp_le (tgt := 79) hx hb dX1_look_73 (by decide) (fun c_116 => ?_) (fun c_116 => ?_)
          · skip
            have q4 := hd_le _ (hB a9)
            have q3 : a9 + hd (B a9) ≤ n8 := (nI_leI (by omega) (by omega)).mp c_116
            refine lv_aload_n hx hb dX1_look_79 rfl (lv_at hl 2 rfl) ?_
            refine lv_iload_n hx hb dX1_look_80 rfl (lv_at hl 0 rfl) ?_
            refine lv_if_ne (tgt := 91) hx hb dX1_look_81 (by decide) (fun c_117 => ?_) (fun c_117 => ?_)
            · skip
              have q5 : ¬ wd (B a9) = 0 := fun z => c_117 (by rw [z]; rfl)
              refine lv_aload_n hx hb dX1_look_91 rfl (lv_at hl 2 rfl) ?_
              refine lv_iload_n hx hb dX1_look_92 rfl (lv_at hl 3 rfl) ?_
              refine lv_iconst (v := 1) hx hb dX1_look_93 (by decide) ?_
              refine lv_iadd hx hb dX1_look_94 ?_
              refine lv_iload_n hx hb dX1_look_95 rfl (lv_at hl 0 rfl) ?_
              have e_120 : ((nI a9) + 1 : Int32) = nI (a9 + 1) := nI_1 a9
              rw [e_120]
              refine gvl (As := [.int (nI (a9 + 1)), .int (nI (wd (B a9)))]) (rest := [.ref h]) ⟨hx, hb, hml, hown, hts⟩ (c_X1_numberAt l dC dI tk tw h a b cI cJ _ f g zt (nI n8) zc 4 znu zty (nI (hd (B a9))) zpa zch zlk zlo zhi zlp zll zlv B (a9 + 1) (wd (B a9)) (by omega) (fun j hj => hf9 j (by omega))) (cwV 2 hts gX1_look_X1_numberAt rfl rfl rfl (by decide +kernel) ⟨Nat.le_of_ble_eq_true rfl, Nat.le_of_ble_eq_true rfl⟩) hK hP hD hS hA hZ (q0 := 0) (ci := 1) rfl rfl rfl rfl hl.1 rfl (Nat.le_of_ble_eq_true rfl) dX1_look_96 ⟨Nat.le_of_ble_eq_true rfl, Nat.le_of_ble_eq_true rfl⟩ (fun r_119 u_121 H locs hw_118 hP hD hS => ?_)
              obtain rfl : r_119 = nv B a9 := hw_118.trans (nv_w1 q5 (by rw [hk]; decide)).symm
              refine va_put (D := (dC, dI)) (ci := 1) (v := .long (nv B a9)) (ty := .long) (C := RX1) (T := TX1) (N := 17) hx hb hts hin0 tyX1 tyX1_ok nmX1 hown hK hP hD hS 0 rfl rfl 5 (by decide) fl61 (fun _ h9 => h9) rfl (by decide +kernel) rfl rfl (Nat.le_of_ble_eq_true rfl) dX1_look_99 (fun H locs hP hD hS => ?_)
              have hP : va_P (dC, dI) vwCl (w1 h a b cI cJ f g zt (nI n8) zc 4 (nv B a9) zty (nI (hd (B a9))) zpa zch zlk zlo zhi zlp zll zlv) H := hP
              have hD : va_D A (w1 h a b cI cJ f g zt (nI n8) zc 4 (nv B a9) zty (nI (hd (B a9))) zpa zch zlk zlo zhi zlp zll zlv) := hD
              refine lv_aload_n hx hb dX1_look_102 rfl (lv_at hl 2 rfl) ?_
              refine va_get (D := (dC, dI)) (ci := 1) (v := .int 4) (C := RX1) (T := TX1) (N := 17) hx hb hts hin0 hown hK hP 0 rfl rfl 4 (by decide) fl47 (fun _ h9 => h9) rfl dX1_look_103 ?_
              refine lv_iconst (v := 5) hx hb dX1_look_106 (by decide) ?_
              refine lv_icmp_ne (tgt := 138) hx hb dX1_look_107 (by decide) (fun c_122 => ?_) (fun c_122 => ?_)
              · skip
                refine lv_aload_n hx hb dX1_look_138 rfl (lv_at hl 2 rfl) ?_
                refine va_get (D := (dC, dI)) (ci := 1) (v := .int 4) (C := RX1) (T := TX1) (N := 17) hx hb hts hin0 hown hK hP 0 rfl rfl 4 (by decide) fl47 (fun _ h9 => h9) rfl dX1_look_139 ?_
                refine lv_bipush (v := 12) hx hb dX1_look_142 (by decide) ?_
                refine lv_icmp_ne (tgt := 163) hx hb dX1_look_144 (by decide) (fun c_123 => ?_) (fun c_123 => ?_)
                · skip
                  refine lv_iconst (v := 0) hx hb dX1_look_163 (by decide) ?_
                  refine lv_istore (lv' := [(4, .int 0), (3, .int (nI (wd (B a9)))), (2, .int (nI (B a9))), (0, .ref h), (1, .int (nI a9))]) hx hb dX1_look_164 hl (by decide) rfl (fun ls hl => ?_)
                  refine lv_aload_n hx hb dX1_look_166 rfl (lv_at hl 3 rfl) ?_
                  refine lv_iload hx hb dX1_look_167 (lv_at hl 0 rfl) ?_
                  refine lv_bipush (v := 127) hx hb dX1_look_169 (by decide) ?_
                  refine lv_icmp_le (tgt := 183) hx hb dX1_look_171 (by decide) (fun c_124 => ?_) (fun c_124 => ?_)
                  · skip
                    refine lv_iload hx hb dX1_look_183 (lv_at hl 0 rfl) ?_
                    refine va_put (D := (dC, dI)) (ci := 1) (v := .int 0) (ty := .int) (C := RX1) (T := TX1) (N := 17) hx hb hts hin0 tyX1 tyX1_ok nmX1 hown hK hP hD hS 0 rfl rfl 6 (by decide) fl65 (fun _ h9 => h9) rfl (by decide +kernel) rfl rfl (Nat.le_of_ble_eq_true rfl) dX1_look_185 (fun H locs hP hD hS => ?_)
                    have hP : va_P (dC, dI) vwCl (w1 h a b cI cJ f g zt (nI n8) zc 4 (nv B a9) 0 (nI (hd (B a9))) zpa zch zlk zlo zhi zlp zll zlv) H := hP
                    have hD : va_D A (w1 h a b cI cJ f g zt (nI n8) zc 4 (nv B a9) 0 (nI (hd (B a9))) zpa zch zlk zlo zhi zlp zll zlv) := hD
                    refine lv_aload_n hx hb dX1_look_188 rfl (lv_at hl 3 rfl) ?_
                    refine lv_lconst (v := 0) hx hb dX1_look_189 (by decide) ?_
                    refine va_put (D := (dC, dI)) (ci := 1) (v := .long 0) (ty := .long) (C := RX1) (T := TX1) (N := 17) hx hb hts hin0 tyX1 tyX1_ok nmX1 hown hK hP hD hS 0 rfl rfl 8 (by decide) fl68 (fun _ h9 => h9) rfl (by decide +kernel) rfl rfl (Nat.le_of_ble_eq_true rfl) dX1_look_190 (fun H locs hP hD hS => ?_)
                    have hP : va_P (dC, dI) vwCl (w1 h a b cI cJ f g zt (nI n8) zc 4 (nv B a9) 0 (nI (hd (B a9))) 0 zch zlk zlo zhi zlp zll zlv) H := hP
                    have hD : va_D A (w1 h a b cI cJ f g zt (nI n8) zc 4 (nv B a9) 0 (nI (hd (B a9))) 0 zch zlk zlo zhi zlp zll zlv) := hD
                    refine lv_aload_n hx hb dX1_look_193 rfl (lv_at hl 3 rfl) ?_
                    refine lv_lconst (v := 0) hx hb dX1_look_194 (by decide) ?_
                    refine va_put (D := (dC, dI)) (ci := 1) (v := .long 0) (ty := .long) (C := RX1) (T := TX1) (N := 17) hx hb hts hin0 tyX1 tyX1_ok nmX1 hown hK hP hD hS 0 rfl rfl 9 (by decide) fl71 (fun _ h9 => h9) rfl (by decide +kernel) rfl rfl (Nat.le_of_ble_eq_true rfl) dX1_look_195 (fun H locs hP hD hS => ?_)
                    have hP : va_P (dC, dI) vwCl (w1 h a b cI cJ f g zt (nI n8) zc 4 (nv B a9) 0 (nI (hd (B a9))) 0 0 zlk zlo zhi zlp zll zlv) H := hP
                    have hD : va_D A (w1 h a b cI cJ f g zt (nI n8) zc 4 (nv B a9) 0 (nI (hd (B a9))) 0 0 zlk zlo zhi zlp zll zlv) := hD
                    refine lv_aload_n hx hb dX1_look_198 rfl (lv_at hl 3 rfl) ?_
                    refine va_get (D := (dC, dI)) (ci := 1) (v := .int 4) (C := RX1) (T := TX1) (N := 17) hx hb hts hin0 hown hK hP 0 rfl rfl 4 (by decide) fl47 (fun _ h9 => h9) rfl dX1_look_199 ?_
                    refine lv_bipush (v := 7) hx hb dX1_look_202 (by decide) ?_
                    refine lv_icmp_le (tgt := 221) hx hb dX1_look_204 (by decide) (fun c_125 => ?_) (fun c_125 => ?_)
                    · skip
                      have q6 : 8 ≤ kd (B a9) → nv B a9 ≤ 2147483647 := fun z => absurd z (by rw [hk]; decide)
                      refine lv_aload_n hx hb dX1_look_221 rfl (lv_at hl 3 rfl) ?_
                      refine va_get (D := (dC, dI)) (ci := 1) (v := .int 4) (C := RX1) (T := TX1) (N := 17) hx hb hts hin0 hown hK hP 0 rfl rfl 4 (by decide) fl47 (fun _ h9 => h9) rfl dX1_look_222 ?_
                      refine lv_bipush (v := 8) hx hb dX1_look_225 (by decide) ?_
                      refine lv_icmp_eq (tgt := 248) hx hb dX1_look_227 (by decide) (fun c_126 => ?_) (fun c_126 => ?_)
                      · skip
                        exact absurd c_126 (by decide)
                      · skip
                        refine lv_aload_n hx hb dX1_look_230 rfl (lv_at hl 3 rfl) ?_
                        refine va_get (D := (dC, dI)) (ci := 1) (v := .int 4) (C := RX1) (T := TX1) (N := 17) hx hb hts hin0 hown hK hP 0 rfl rfl 4 (by decide) fl47 (fun _ h9 => h9) rfl dX1_look_231 ?_
                        refine lv_bipush (v := 9) hx hb dX1_look_234 (by decide) ?_
                        refine lv_icmp_eq (tgt := 248) hx hb dX1_look_236 (by decide) (fun c_127 => ?_) (fun c_127 => ?_)
                        · skip
                          exact absurd c_127 (by decide)
                        · skip
                          refine lv_aload_n hx hb dX1_look_239 rfl (lv_at hl 3 rfl) ?_
                          refine va_get (D := (dC, dI)) (ci := 1) (v := .int 4) (C := RX1) (T := TX1) (N := 17) hx hb hts hin0 hown hK hP 0 rfl rfl 4 (by decide) fl47 (fun _ h9 => h9) rfl dX1_look_240 ?_
                          refine lv_bipush (v := 12) hx hb dX1_look_243 (by decide) ?_
                          refine lv_icmp_ne (tgt := 256) hx hb dX1_look_245 (by decide) (fun c_128 => ?_) (fun c_128 => ?_)
                          · skip
                            refine lv_aload_n hx hb dX1_look_256 rfl (lv_at hl 3 rfl) ?_
                            refine va_get (D := (dC, dI)) (ci := 1) (v := .int 4) (C := RX1) (T := TX1) (N := 17) hx hb hts hin0 hown hK hP 0 rfl rfl 4 (by decide) fl47 (fun _ h9 => h9) rfl dX1_look_257 ?_
                            refine lv_bipush (v := 10) hx hb dX1_look_260 (by decide) ?_
                            refine lv_icmp_ne (tgt := 273) hx hb dX1_look_262 (by decide) (fun c_129 => ?_) (fun c_129 => ?_)
                            · skip
                              refine lv_aload_n hx hb dX1_look_273 rfl (lv_at hl 3 rfl) ?_
                              refine va_get (D := (dC, dI)) (ci := 1) (v := .int 4) (C := RX1) (T := TX1) (N := 17) hx hb hts hin0 hown hK hP 0 rfl rfl 4 (by decide) fl47 (fun _ h9 => h9) rfl dX1_look_274 ?_
                              refine lv_bipush (v := 11) hx hb dX1_look_277 (by decide) ?_
                              refine lv_icmp_ne (tgt := 294) hx hb dX1_look_279 (by decide) (fun c_130 => ?_) (fun c_130 => ?_)
                              · skip
                                have q7 : paL B a9 = 0 := by simp [paL, hp, hk]
                                refine lv_iload_n hx hb dX1_look_294 rfl (lv_at hl 4 rfl) ?_
                                refine lv_aload_n hx hb dX1_look_295 rfl (lv_at hl 3 rfl) ?_
                                refine va_get (D := (dC, dI)) (ci := 1) (v := .int (nI (hd (B a9)))) (C := RX1) (T := TX1) (N := 17) hx hb hts hin0 hown hK hP 0 rfl rfl 7 (by decide) fl50 (fun _ h9 => h9) rfl dX1_look_296 ?_
                                refine lv_iadd hx hb dX1_look_299 ?_
                                refine lv_i2l hx hb dX1_look_300 rfl ?_
                                refine lv_aload_n hx hb dX1_look_301 rfl (lv_at hl 3 rfl) ?_
                                refine va_get (D := (dC, dI)) (ci := 1) (v := .long 0) (C := RX1) (T := TX1) (N := 17) hx hb hts hin0 hown hK hP 0 rfl rfl 8 (by decide) fl68 (fun _ h9 => h9) rfl dX1_look_302 ?_
                                refine lv_ladd hx hb dX1_look_305 ?_
                                refine lv_aload_n hx hb dX1_look_306 rfl (lv_at hl 3 rfl) ?_
                                refine va_get (D := (dC, dI)) (ci := 1) (v := .int (nI n8)) (C := RX1) (T := TX1) (N := 17) hx hb hts hin0 hown hK hP 0 rfl rfl 2 (by decide) fl28 (fun _ h9 => h9) rfl dX1_look_307 ?_
                                refine lv_i2l hx hb dX1_look_310 rfl ?_
                                refine W.lcmp hx hb dX1_look_311 ?_
                                refine lv_if_le (tgt := 320) hx hb dX1_look_312 (by decide) (fun c_131 => ?_) (fun c_131 => ?_)
                                · skip
                                  have c_131 := (lg_cmp_le ((((nI a9) + (nI (hd (B a9)))).toInt64) + 0) ((nI n8).toInt64)).mp c_131
                                  refine lv_iconst (v := 0) hx hb dX1_look_320 (by decide) ?_
                                  have hP9 : va_P (dC, dI) vwCl ((fun (u : Int32 × Int64 × Int32 × Int32 × Int64 × Int64) => w1 h a b cI cJ f g zt (nI n8) zc u.1 u.2.1 u.2.2.1 u.2.2.2.1 u.2.2.2.2.1 u.2.2.2.2.2 zlk zlo zhi zlp zll zlv) ((4, nv B a9, 0, nI (hd (B a9)), 0, 0))) H := hP
                                  have hD9 : va_D A ((fun (u : Int32 × Int64 × Int32 × Int32 × Int64 × Int64) => w1 h a b cI cJ f g zt (nI n8) zc u.1 u.2.1 u.2.2.1 u.2.2.2.1 u.2.2.2.2.1 u.2.2.2.2.2 zlk zlo zhi zlp zll zlv) ((4, nv B a9, 0, nI (hd (B a9)), 0, 0))) := hD
                                  exact W.iret (v := 0) hx hb hr (fun t ht hW => ⟨⟨0, (4, nv B a9, 0, nI (hd (B a9)), 0, 0), rfl, (by have q8 := (lk_end hB hn8 q1 q2 q3 q6).1 (by rw [q7]; exact c_131); exact Or.inr ⟨by rw [q8]; exact nI_pos (by have := kd_le _ (hB a9); omega), rfl, by rw [hk]; rfl, rfl, fun z => absurd (hk.symm.trans z) (by decide), rfl, q7.symm, by simp [ch, hk]⟩), by rw [ht]; exact hP9, va_K.moved hW.alike hK, hD9⟩, hS.F ht⟩) hS.2.2 dX1_look_321
                                · skip
                                  have c_131 := (not_congr (lg_cmp_le ((((nI a9) + (nI (hd (B a9)))).toInt64) + 0) ((nI n8).toInt64))).mp c_131
                                  refine lv_bipush (v := -2) hx hb dX1_look_315 (by decide) ?_
                                  refine lv_goto (tgt := 321) hx hb dX1_look_317 (by decide) ?_
                                  have hP9 : va_P (dC, dI) vwCl ((fun (u : Int32 × Int64 × Int32 × Int32 × Int64 × Int64) => w1 h a b cI cJ f g zt (nI n8) zc u.1 u.2.1 u.2.2.1 u.2.2.2.1 u.2.2.2.2.1 u.2.2.2.2.2 zlk zlo zhi zlp zll zlv) ((4, nv B a9, 0, nI (hd (B a9)), 0, 0))) H := hP
                                  have hD9 : va_D A ((fun (u : Int32 × Int64 × Int32 × Int32 × Int64 × Int64) => w1 h a b cI cJ f g zt (nI n8) zc u.1 u.2.1 u.2.2.1 u.2.2.2.1 u.2.2.2.2.1 u.2.2.2.2.2 zlk zlo zhi zlp zll zlv) ((4, nv B a9, 0, nI (hd (B a9)), 0, 0))) := hD
                                  exact W.iret (v := -2) hx hb hr (fun t ht hW => ⟨⟨-2, (4, nv B a9, 0, nI (hd (B a9)), 0, 0), rfl, (lkneg ((lk_end hB hn8 q1 q2 q3 q6).2 (by rw [q7]; exact c_131)) (by decide)), by rw [ht]; exact hP9, va_K.moved hW.alike hK, hD9⟩, hS.F ht⟩) hS.2.2 dX1_look_321
                              · skip
                                exact absurd c_130 (by decide)
                            · skip
                              exact absurd c_129 (by decide)
                          · skip
                            exact absurd c_128 (by decide)
                    · skip
                      exact absurd (by decide) c_125
                  · skip
                    exact absurd (by decide) c_124
                · skip
                  exact absurd c_123 (by decide)
              · skip
                exact absurd c_122 (by decide)
            · skip
              have q5 : wd (B a9) = 0 := (nI_z (by omega)).mp c_117
              refine lv_iload_n hx hb dX1_look_84 rfl (lv_at hl 1 rfl) ?_
              refine gsl (As := [.int (nI (B a9))]) (rest := [.ref h]) ⟨hx, hb, hml, hown, hts⟩ (c_X1_ownNumber l dC dI tk tw _ (B a9) (hB a9)) (va_cwS 1 hts gX1_look_X1_ownNumber rfl rfl rfl (by decide +kernel) ⟨Nat.le_of_ble_eq_true rfl, Nat.le_of_ble_eq_true rfl⟩) hP hS hA hZ rfl hl.1 rfl (Nat.le_of_ble_eq_true rfl) dX1_look_85 ⟨Nat.le_of_ble_eq_true rfl, Nat.le_of_ble_eq_true rfl⟩ (fun r_133 H locs hw_132 hP hS => ?_)
              obtain rfl : r_133 = nv B a9 := hw_132.trans (nv_w0 q5).symm
              refine lv_goto (tgt := 99) hx hb dX1_look_88 (by decide) ?_
              refine va_put (D := (dC, dI)) (ci := 1) (v := .long (nv B a9)) (ty := .long) (C := RX1) (T := TX1) (N := 17) hx hb hts hin0 tyX1 tyX1_ok nmX1 hown hK hP hD hS 0 rfl rfl 5 (by decide) fl61 (fun _ h9 => h9) rfl (by decide +kernel) rfl rfl (Nat.le_of_ble_eq_true rfl) dX1_look_99 (fun H locs hP hD hS => ?_)
              have hP : va_P (dC, dI) vwCl (w1 h a b cI cJ f g zt (nI n8) zc 4 (nv B a9) zty (nI (hd (B a9))) zpa zch zlk zlo zhi zlp zll zlv) H := hP
              have hD : va_D A (w1 h a b cI cJ f g zt (nI n8) zc 4 (nv B a9) zty (nI (hd (B a9))) zpa zch zlk zlo zhi zlp zll zlv) := hD
              refine lv_aload_n hx hb dX1_look_102 rfl (lv_at hl 2 rfl) ?_
              refine va_get (D := (dC, dI)) (ci := 1) (v := .int 4) (C := RX1) (T := TX1) (N := 17) hx hb hts hin0 hown hK hP 0 rfl rfl 4 (by decide) fl47 (fun _ h9 => h9) rfl dX1_look_103 ?_
              refine lv_iconst (v := 5) hx hb dX1_look_106 (by decide) ?_
              refine lv_icmp_ne (tgt := 138) hx hb dX1_look_107 (by decide) (fun c_134 => ?_) (fun c_134 => ?_)
              · skip
                refine lv_aload_n hx hb dX1_look_138 rfl (lv_at hl 2 rfl) ?_
                refine va_get (D := (dC, dI)) (ci := 1) (v := .int 4) (C := RX1) (T := TX1) (N := 17) hx hb hts hin0 hown hK hP 0 rfl rfl 4 (by decide) fl47 (fun _ h9 => h9) rfl dX1_look_139 ?_
                refine lv_bipush (v := 12) hx hb dX1_look_142 (by decide) ?_
                refine lv_icmp_ne (tgt := 163) hx hb dX1_look_144 (by decide) (fun c_135 => ?_) (fun c_135 => ?_)
                · skip
                  refine lv_iconst (v := 0) hx hb dX1_look_163 (by decide) ?_
                  refine lv_istore (lv' := [(4, .int 0), (3, .int (nI (wd (B a9)))), (2, .int (nI (B a9))), (0, .ref h), (1, .int (nI a9))]) hx hb dX1_look_164 hl (by decide) rfl (fun ls hl => ?_)
                  refine lv_aload_n hx hb dX1_look_166 rfl (lv_at hl 3 rfl) ?_
                  refine lv_iload hx hb dX1_look_167 (lv_at hl 0 rfl) ?_
                  refine lv_bipush (v := 127) hx hb dX1_look_169 (by decide) ?_
                  refine lv_icmp_le (tgt := 183) hx hb dX1_look_171 (by decide) (fun c_136 => ?_) (fun c_136 => ?_)
                  · skip
                    refine lv_iload hx hb dX1_look_183 (lv_at hl 0 rfl) ?_
                    refine va_put (D := (dC, dI)) (ci := 1) (v := .int 0) (ty := .int) (C := RX1) (T := TX1) (N := 17) hx hb hts hin0 tyX1 tyX1_ok nmX1 hown hK hP hD hS 0 rfl rfl 6 (by decide) fl65 (fun _ h9 => h9) rfl (by decide +kernel) rfl rfl (Nat.le_of_ble_eq_true rfl) dX1_look_185 (fun H locs hP hD hS => ?_)
                    have hP : va_P (dC, dI) vwCl (w1 h a b cI cJ f g zt (nI n8) zc 4 (nv B a9) 0 (nI (hd (B a9))) zpa zch zlk zlo zhi zlp zll zlv) H := hP
                    have hD : va_D A (w1 h a b cI cJ f g zt (nI n8) zc 4 (nv B a9) 0 (nI (hd (B a9))) zpa zch zlk zlo zhi zlp zll zlv) := hD
                    refine lv_aload_n hx hb dX1_look_188 rfl (lv_at hl 3 rfl) ?_
                    refine lv_lconst (v := 0) hx hb dX1_look_189 (by decide) ?_
                    refine va_put (D := (dC, dI)) (ci := 1) (v := .long 0) (ty := .long) (C := RX1) (T := TX1) (N := 17) hx hb hts hin0 tyX1 tyX1_ok nmX1 hown hK hP hD hS 0 rfl rfl 8 (by decide) fl68 (fun _ h9 => h9) rfl (by decide +kernel) rfl rfl (Nat.le_of_ble_eq_true rfl) dX1_look_190 (fun H locs hP hD hS => ?_)
                    have hP : va_P (dC, dI) vwCl (w1 h a b cI cJ f g zt (nI n8) zc 4 (nv B a9) 0 (nI (hd (B a9))) 0 zch zlk zlo zhi zlp zll zlv) H := hP
                    have hD : va_D A (w1 h a b cI cJ f g zt (nI n8) zc 4 (nv B a9) 0 (nI (hd (B a9))) 0 zch zlk zlo zhi zlp zll zlv) := hD
                    refine lv_aload_n hx hb dX1_look_193 rfl (lv_at hl 3 rfl) ?_
                    refine lv_lconst (v := 0) hx hb dX1_look_194 (by decide) ?_
                    refine va_put (D := (dC, dI)) (ci := 1) (v := .long 0) (ty := .long) (C := RX1) (T := TX1) (N := 17) hx hb hts hin0 tyX1 tyX1_ok nmX1 hown hK hP hD hS 0 rfl rfl 9 (by decide) fl71 (fun _ h9 => h9) rfl (by decide +kernel) rfl rfl (Nat.le_of_ble_eq_true rfl) dX1_look_195 (fun H locs hP hD hS => ?_)
                    have hP : va_P (dC, dI) vwCl (w1 h a b cI cJ f g zt (nI n8) zc 4 (nv B a9) 0 (nI (hd (B a9))) 0 0 zlk zlo zhi zlp zll zlv) H := hP
                    have hD : va_D A (w1 h a b cI cJ f g zt (nI n8) zc 4 (nv B a9) 0 (nI (hd (B a9))) 0 0 zlk zlo zhi zlp zll zlv) := hD
                    refine lv_aload_n hx hb dX1_look_198 rfl (lv_at hl 3 rfl) ?_
                    refine va_get (D := (dC, dI)) (ci := 1) (v := .int 4) (C := RX1) (T := TX1) (N := 17) hx hb hts hin0 hown hK hP 0 rfl rfl 4 (by decide) fl47 (fun _ h9 => h9) rfl dX1_look_199 ?_
                    refine lv_bipush (v := 7) hx hb dX1_look_202 (by decide) ?_
                    refine lv_icmp_le (tgt := 221) hx hb dX1_look_204 (by decide) (fun c_137 => ?_) (fun c_137 => ?_)
                    · skip
                      have q6 : 8 ≤ kd (B a9) → nv B a9 ≤ 2147483647 := fun z => absurd z (by rw [hk]; decide)
                      refine lv_aload_n hx hb dX1_look_221 rfl (lv_at hl 3 rfl) ?_
                      refine va_get (D := (dC, dI)) (ci := 1) (v := .int 4) (C := RX1) (T := TX1) (N := 17) hx hb hts hin0 hown hK hP 0 rfl rfl 4 (by decide) fl47 (fun _ h9 => h9) rfl dX1_look_222 ?_
                      refine lv_bipush (v := 8) hx hb dX1_look_225 (by decide) ?_
                      refine lv_icmp_eq (tgt := 248) hx hb dX1_look_227 (by decide) (fun c_138 => ?_) (fun c_138 => ?_)
                      · skip
                        exact absurd c_138 (by decide)
                      · skip
                        refine lv_aload_n hx hb dX1_look_230 rfl (lv_at hl 3 rfl) ?_
                        refine va_get (D := (dC, dI)) (ci := 1) (v := .int 4) (C := RX1) (T := TX1) (N := 17) hx hb hts hin0 hown hK hP 0 rfl rfl 4 (by decide) fl47 (fun _ h9 => h9) rfl dX1_look_231 ?_
                        refine lv_bipush (v := 9) hx hb dX1_look_234 (by decide) ?_
                        refine lv_icmp_eq (tgt := 248) hx hb dX1_look_236 (by decide) (fun c_139 => ?_) (fun c_139 => ?_)
                        · skip
                          exact absurd c_139 (by decide)
                        · skip
                          refine lv_aload_n hx hb dX1_look_239 rfl (lv_at hl 3 rfl) ?_
                          refine va_get (D := (dC, dI)) (ci := 1) (v := .int 4) (C := RX1) (T := TX1) (N := 17) hx hb hts hin0 hown hK hP 0 rfl rfl 4 (by decide) fl47 (fun _ h9 => h9) rfl dX1_look_240 ?_
                          refine lv_bipush (v := 12) hx hb dX1_look_243 (by decide) ?_
                          refine lv_icmp_ne (tgt := 256) hx hb dX1_look_245 (by decide) (fun c_140 => ?_) (fun c_140 => ?_)
                          · skip
                            refine lv_aload_n hx hb dX1_look_256 rfl (lv_at hl 3 rfl) ?_
                            refine va_get (D := (dC, dI)) (ci := 1) (v := .int 4) (C := RX1) (T := TX1) (N := 17) hx hb hts hin0 hown hK hP 0 rfl rfl 4 (by decide) fl47 (fun _ h9 => h9) rfl dX1_look_257 ?_
                            refine lv_bipush (v := 10) hx hb dX1_look_260 (by decide) ?_
                            refine lv_icmp_ne (tgt := 273) hx hb dX1_look_262 (by decide) (fun c_141 => ?_) (fun c_141 => ?_)
                            · skip
                              refine lv_aload_n hx hb dX1_look_273 rfl (lv_at hl 3 rfl) ?_
                              refine va_get (D := (dC, dI)) (ci := 1) (v := .int 4) (C := RX1) (T := TX1) (N := 17) hx hb hts hin0 hown hK hP 0 rfl rfl 4 (by decide) fl47 (fun _ h9 => h9) rfl dX1_look_274 ?_
                              refine lv_bipush (v := 11) hx hb dX1_look_277 (by decide) ?_
                              refine lv_icmp_ne (tgt := 294) hx hb dX1_look_279 (by decide) (fun c_142 => ?_) (fun c_142 => ?_)
                              · skip
                                have q7 : paL B a9 = 0 := by simp [paL, hp, hk]
                                refine lv_iload_n hx hb dX1_look_294 rfl (lv_at hl 4 rfl) ?_
                                refine lv_aload_n hx hb dX1_look_295 rfl (lv_at hl 3 rfl) ?_
                                refine va_get (D := (dC, dI)) (ci := 1) (v := .int (nI (hd (B a9)))) (C := RX1) (T := TX1) (N := 17) hx hb hts hin0 hown hK hP 0 rfl rfl 7 (by decide) fl50 (fun _ h9 => h9) rfl dX1_look_296 ?_
                                refine lv_iadd hx hb dX1_look_299 ?_
                                refine lv_i2l hx hb dX1_look_300 rfl ?_
                                refine lv_aload_n hx hb dX1_look_301 rfl (lv_at hl 3 rfl) ?_
                                refine va_get (D := (dC, dI)) (ci := 1) (v := .long 0) (C := RX1) (T := TX1) (N := 17) hx hb hts hin0 hown hK hP 0 rfl rfl 8 (by decide) fl68 (fun _ h9 => h9) rfl dX1_look_302 ?_
                                refine lv_ladd hx hb dX1_look_305 ?_
                                refine lv_aload_n hx hb dX1_look_306 rfl (lv_at hl 3 rfl) ?_
                                refine va_get (D := (dC, dI)) (ci := 1) (v := .int (nI n8)) (C := RX1) (T := TX1) (N := 17) hx hb hts hin0 hown hK hP 0 rfl rfl 2 (by decide) fl28 (fun _ h9 => h9) rfl dX1_look_307 ?_
                                refine lv_i2l hx hb dX1_look_310 rfl ?_
                                refine W.lcmp hx hb dX1_look_311 ?_
                                refine lv_if_le (tgt := 320) hx hb dX1_look_312 (by decide) (fun c_143 => ?_) (fun c_143 => ?_)
                                · skip
                                  have c_143 := (lg_cmp_le ((((nI a9) + (nI (hd (B a9)))).toInt64) + 0) ((nI n8).toInt64)).mp c_143
                                  refine lv_iconst (v := 0) hx hb dX1_look_320 (by decide) ?_
                                  have hP9 : va_P (dC, dI) vwCl ((fun (u : Int32 × Int64 × Int32 × Int32 × Int64 × Int64) => w1 h a b cI cJ f g zt (nI n8) zc u.1 u.2.1 u.2.2.1 u.2.2.2.1 u.2.2.2.2.1 u.2.2.2.2.2 zlk zlo zhi zlp zll zlv) ((4, nv B a9, 0, nI (hd (B a9)), 0, 0))) H := hP
                                  have hD9 : va_D A ((fun (u : Int32 × Int64 × Int32 × Int32 × Int64 × Int64) => w1 h a b cI cJ f g zt (nI n8) zc u.1 u.2.1 u.2.2.1 u.2.2.2.1 u.2.2.2.2.1 u.2.2.2.2.2 zlk zlo zhi zlp zll zlv) ((4, nv B a9, 0, nI (hd (B a9)), 0, 0))) := hD
                                  exact W.iret (v := 0) hx hb hr (fun t ht hW => ⟨⟨0, (4, nv B a9, 0, nI (hd (B a9)), 0, 0), rfl, (by have q8 := (lk_end hB hn8 q1 q2 q3 q6).1 (by rw [q7]; exact c_143); exact Or.inr ⟨by rw [q8]; exact nI_pos (by have := kd_le _ (hB a9); omega), rfl, by rw [hk]; rfl, rfl, fun z => absurd (hk.symm.trans z) (by decide), rfl, q7.symm, by simp [ch, hk]⟩), by rw [ht]; exact hP9, va_K.moved hW.alike hK, hD9⟩, hS.F ht⟩) hS.2.2 dX1_look_321
                                · skip
                                  have c_143 := (not_congr (lg_cmp_le ((((nI a9) + (nI (hd (B a9)))).toInt64) + 0) ((nI n8).toInt64))).mp c_143
                                  refine lv_bipush (v := -2) hx hb dX1_look_315 (by decide) ?_
                                  refine lv_goto (tgt := 321) hx hb dX1_look_317 (by decide) ?_
                                  have hP9 : va_P (dC, dI) vwCl ((fun (u : Int32 × Int64 × Int32 × Int32 × Int64 × Int64) => w1 h a b cI cJ f g zt (nI n8) zc u.1 u.2.1 u.2.2.1 u.2.2.2.1 u.2.2.2.2.1 u.2.2.2.2.2 zlk zlo zhi zlp zll zlv) ((4, nv B a9, 0, nI (hd (B a9)), 0, 0))) H := hP
                                  have hD9 : va_D A ((fun (u : Int32 × Int64 × Int32 × Int32 × Int64 × Int64) => w1 h a b cI cJ f g zt (nI n8) zc u.1 u.2.1 u.2.2.1 u.2.2.2.1 u.2.2.2.2.1 u.2.2.2.2.2 zlk zlo zhi zlp zll zlv) ((4, nv B a9, 0, nI (hd (B a9)), 0, 0))) := hD
                                  exact W.iret (v := -2) hx hb hr (fun t ht hW => ⟨⟨-2, (4, nv B a9, 0, nI (hd (B a9)), 0, 0), rfl, (lkneg ((lk_end hB hn8 q1 q2 q3 q6).2 (by rw [q7]; exact c_143)) (by decide)), by rw [ht]; exact hP9, va_K.moved hW.alike hK, hD9⟩, hS.F ht⟩) hS.2.2 dX1_look_321
                              · skip
                                exact absurd c_142 (by decide)
                            · skip
                              exact absurd c_141 (by decide)
                          · skip
                            exact absurd c_140 (by decide)
                    · skip
                      exact absurd (by decide) c_137
                  · skip
                    exact absurd (by decide) c_136
                · skip
                  exact absurd c_135 (by decide)
              · skip
                exact absurd c_134 (by decide)
          · skip
            refine lv_bipush (v := -2) hx hb dX1_look_76 (by decide) ?_
            have hP9 : va_P (dC, dI) vwCl ((fun (u : Int32 × Int64 × Int32 × Int32 × Int64 × Int64) => w1 h a b cI cJ f g zt (nI n8) zc u.1 u.2.1 u.2.2.1 u.2.2.2.1 u.2.2.2.2.1 u.2.2.2.2.2 zlk zlo zhi zlp zll zlv) ((4, znu, zty, nI (hd (B a9)), zpa, zch))) H := hP
            have hD9 : va_D A ((fun (u : Int32 × Int64 × Int32 × Int32 × Int64 × Int64) => w1 h a b cI cJ f g zt (nI n8) zc u.1 u.2.1 u.2.2.1 u.2.2.2.1 u.2.2.2.2.1 u.2.2.2.2.2 zlk zlo zhi zlp zll zlv) ((4, znu, zty, nI (hd (B a9)), zpa, zch))) := hD
            exact W.iret (v := -2) hx hb hr (fun t ht hW => ⟨⟨-2, (4, znu, zty, nI (hd (B a9)), zpa, zch), rfl, (lkneg (lk3 hB hn8 q1 q2 (by have q4 := hd_le _ (hB a9); have z := (not_congr (nI_leI (a := a9 + hd (B a9)) (b := n8) (by omega) (by omega))).mp c_116; omega)) (by decide)), by rw [ht]; exact hP9, va_K.moved hW.alike hK, hD9⟩, hS.F ht⟩) hS.2.2 dX1_look_78
        · skip
          exact absurd c_113 (by decide)
      · skip
        have q2 : ¬ B a9 = 193 := fun z => c_3 (by rw [z]; rfl)
        refine lv_iload_n hx hb dX1_look_28 rfl (lv_at hl 0 rfl) ?_
        refine gsi (As := [.int (nI (B a9))]) (rest := []) ⟨hx, hb, hml, hown, hts⟩ (c_X1_widthOf l dC dI tk tw _ (B a9) (hB a9)) (va_cwS 1 hts gX1_look_X1_widthOf rfl rfl rfl (by decide +kernel) ⟨Nat.le_of_ble_eq_true rfl, Nat.le_of_ble_eq_true rfl⟩) hP hS hA hZ rfl hl.1 rfl (Nat.le_of_ble_eq_true rfl) dX1_look_29 ⟨Nat.le_of_ble_eq_true rfl, Nat.le_of_ble_eq_true rfl⟩ (fun r_145 H locs hw_144 hP hS => ?_)
        obtain rfl : r_145 = nI (wd (B a9)) := hw_144
        refine lv_istore_n (lv' := [(3, .int (nI (wd (B a9)))), (2, .int (nI (B a9))), (0, .ref h), (1, .int (nI a9))]) hx hb dX1_look_32 rfl hl (by decide) rfl (fun ls hl => ?_)
        refine lv_aload_n hx hb dX1_look_33 rfl (lv_at hl 2 rfl) ?_
        refine lv_iload_n hx hb dX1_look_34 rfl (lv_at hl 1 rfl) ?_
        refine gsi (As := [.int (nI (B a9))]) (rest := [.ref h]) ⟨hx, hb, hml, hown, hts⟩ (c_X1_kindOf l dC dI tk tw _ (B a9) (hB a9) q2) (va_cwS 1 hts gX1_look_X1_kindOf rfl rfl rfl (by decide +kernel) ⟨Nat.le_of_ble_eq_true rfl, Nat.le_of_ble_eq_true rfl⟩) hP hS hA hZ rfl hl.1 rfl (Nat.le_of_ble_eq_true rfl) dX1_look_35 ⟨Nat.le_of_ble_eq_true rfl, Nat.le_of_ble_eq_true rfl⟩ (fun r_147 H locs hw_146 hP hS => ?_)
        obtain rfl : r_147 = 5 := hw_146.trans (by rw [hk]; rfl)
        refine va_put (D := (dC, dI)) (ci := 1) (v := .int 5) (ty := .int) (C := RX1) (T := TX1) (N := 17) hx hb hts hin0 tyX1 tyX1_ok nmX1 hown hK hP hD hS 0 rfl rfl 4 (by decide) fl47 (fun _ h9 => h9) rfl (by decide +kernel) rfl rfl (Nat.le_of_ble_eq_true rfl) dX1_look_38 (fun H locs hP hD hS => ?_)
        have hP : va_P (dC, dI) vwCl (w1 h a b cI cJ f g zt (nI n8) zc 5 znu zty zhd zpa zch zlk zlo zhi zlp zll zlv) H := hP
        have hD : va_D A (w1 h a b cI cJ f g zt (nI n8) zc 5 znu zty zhd zpa zch zlk zlo zhi zlp zll zlv) := hD
        refine lv_aload_n hx hb dX1_look_41 rfl (lv_at hl 2 rfl) ?_
        refine lv_iconst (v := 1) hx hb dX1_look_42 (by decide) ?_
        refine lv_iload_n hx hb dX1_look_43 rfl (lv_at hl 0 rfl) ?_
        refine lv_iadd hx hb dX1_look_44 ?_
        refine lv_aload_n hx hb dX1_look_45 rfl (lv_at hl 2 rfl) ?_
        refine va_get (D := (dC, dI)) (ci := 1) (v := .int 5) (C := RX1) (T := TX1) (N := 17) hx hb hts hin0 hown hK hP 0 rfl rfl 4 (by decide) fl47 (fun _ h9 => h9) rfl dX1_look_46 ?_
        refine lv_bipush (v := 12) hx hb dX1_look_49 (by decide) ?_
        refine lv_icmp_ne (tgt := 58) hx hb dX1_look_51 (by decide) (fun c_148 => ?_) (fun c_148 => ?_)
        · skip
          refine lv_iconst (v := 0) hx hb dX1_look_58 (by decide) ?_
          refine lv_iadd hx hb dX1_look_59 ?_
          have e_149 : ((1 + (nI (wd (B a9)))) + 0 : Int32) = nI (hd (B a9)) := hdn (by rw [hk]; decide)
          rw [e_149]
          refine va_put (D := (dC, dI)) (ci := 1) (v := .int (nI (hd (B a9)))) (ty := .int) (C := RX1) (T := TX1) (N := 17) hx hb hts hin0 tyX1 tyX1_ok nmX1 hown hK hP hD hS 0 rfl rfl 7 (by decide) fl50 (fun _ h9 => h9) rfl (by decide +kernel) rfl rfl (Nat.le_of_ble_eq_true rfl) dX1_look_60 (fun H locs hP hD hS => ?_)
          have hP : va_P (dC, dI) vwCl (w1 h a b cI cJ f g zt (nI n8) zc 5 znu zty (nI (hd (B a9))) zpa zch zlk zlo zhi zlp zll zlv) H := hP
          have hD : va_D A (w1 h a b cI cJ f g zt (nI n8) zc 5 znu zty (nI (hd (B a9))) zpa zch zlk zlo zhi zlp zll zlv) := hD
          refine lv_iload_n hx hb dX1_look_63 rfl (lv_at hl 3 rfl) ?_
          refine lv_aload_n hx hb dX1_look_64 rfl (lv_at hl 2 rfl) ?_
          refine va_get (D := (dC, dI)) (ci := 1) (v := .int (nI (hd (B a9)))) (C := RX1) (T := TX1) (N := 17) hx hb hts hin0 hown hK hP 0 rfl rfl 7 (by decide) fl50 (fun _ h9 => h9) rfl dX1_look_65 ?_
          refine lv_iadd hx hb dX1_look_68 ?_
          have e_150 : ((nI a9) + (nI (hd (B a9))) : Int32) = nI (a9 + hd (B a9)) := nI_add _ _
          rw [e_150]
          refine lv_aload_n hx hb dX1_look_69 rfl (lv_at hl 2 rfl) ?_
          refine va_get (D := (dC, dI)) (ci := 1) (v := .int (nI n8)) (C := RX1) (T := TX1) (N := 17) hx hb hts hin0 hown hK hP 0 rfl rfl 2 (by decide) fl28 (fun _ h9 => h9) rfl dX1_look_70 ?_
          refine lv_icmp_le (tgt := 79) hx hb dX1_look_73 (by decide) (fun c_151 => ?_) (fun c_151 => ?_)
          · skip
            have q4 := hd_le _ (hB a9)
            have q3 : a9 + hd (B a9) ≤ n8 := (nI_leI (by omega) (by omega)).mp c_151
            refine lv_aload_n hx hb dX1_look_79 rfl (lv_at hl 2 rfl) ?_
            refine lv_iload_n hx hb dX1_look_80 rfl (lv_at hl 0 rfl) ?_
            refine lv_if_ne (tgt := 91) hx hb dX1_look_81 (by decide) (fun c_152 => ?_) (fun c_152 => ?_)
            · skip
              have q5 : ¬ wd (B a9) = 0 := fun z => c_152 (by rw [z]; rfl)
              refine lv_aload_n hx hb dX1_look_91 rfl (lv_at hl 2 rfl) ?_
              refine lv_iload_n hx hb dX1_look_92 rfl (lv_at hl 3 rfl) ?_
              refine lv_iconst (v := 1) hx hb dX1_look_93 (by decide) ?_
              refine lv_iadd hx hb dX1_look_94 ?_
              refine lv_iload_n hx hb dX1_look_95 rfl (lv_at hl 0 rfl) ?_
              have e_155 : ((nI a9) + 1 : Int32) = nI (a9 + 1) := nI_1 a9
              rw [e_155]
              refine gvl (As := [.int (nI (a9 + 1)), .int (nI (wd (B a9)))]) (rest := [.ref h]) ⟨hx, hb, hml, hown, hts⟩ (c_X1_numberAt l dC dI tk tw h a b cI cJ _ f g zt (nI n8) zc 5 znu zty (nI (hd (B a9))) zpa zch zlk zlo zhi zlp zll zlv B (a9 + 1) (wd (B a9)) (by omega) (fun j hj => hf9 j (by omega))) (cwV 2 hts gX1_look_X1_numberAt rfl rfl rfl (by decide +kernel) ⟨Nat.le_of_ble_eq_true rfl, Nat.le_of_ble_eq_true rfl⟩) hK hP hD hS hA hZ (q0 := 0) (ci := 1) rfl rfl rfl rfl hl.1 rfl (Nat.le_of_ble_eq_true rfl) dX1_look_96 ⟨Nat.le_of_ble_eq_true rfl, Nat.le_of_ble_eq_true rfl⟩ (fun r_154 u_156 H locs hw_153 hP hD hS => ?_)
              obtain rfl : r_154 = rd B (a9 + 1) (wd (B a9)) := hw_153
              refine va_put (D := (dC, dI)) (ci := 1) (v := .long (rd B (a9 + 1) (wd (B a9)))) (ty := .long) (C := RX1) (T := TX1) (N := 17) hx hb hts hin0 tyX1 tyX1_ok nmX1 hown hK hP hD hS 0 rfl rfl 5 (by decide) fl61 (fun _ h9 => h9) rfl (by decide +kernel) rfl rfl (Nat.le_of_ble_eq_true rfl) dX1_look_99 (fun H locs hP hD hS => ?_)
              have hP : va_P (dC, dI) vwCl (w1 h a b cI cJ f g zt (nI n8) zc 5 (rd B (a9 + 1) (wd (B a9))) zty (nI (hd (B a9))) zpa zch zlk zlo zhi zlp zll zlv) H := hP
              have hD : va_D A (w1 h a b cI cJ f g zt (nI n8) zc 5 (rd B (a9 + 1) (wd (B a9))) zty (nI (hd (B a9))) zpa zch zlk zlo zhi zlp zll zlv) := hD
              refine lv_aload_n hx hb dX1_look_102 rfl (lv_at hl 2 rfl) ?_
              refine va_get (D := (dC, dI)) (ci := 1) (v := .int 5) (C := RX1) (T := TX1) (N := 17) hx hb hts hin0 hown hK hP 0 rfl rfl 4 (by decide) fl47 (fun _ h9 => h9) rfl dX1_look_103 ?_
              refine lv_iconst (v := 5) hx hb dX1_look_106 (by decide) ?_
              refine lv_icmp_ne (tgt := 138) hx hb dX1_look_107 (by decide) (fun c_157 => ?_) (fun c_157 => ?_)
              · skip
                exact absurd (by decide) c_157
              · skip
                refine lv_iload_n hx hb dX1_look_110 rfl (lv_at hl 0 rfl) ?_
                refine lv_if_le (tgt := 138) hx hb dX1_look_111 (by decide) (fun c_158 => ?_) (fun c_158 => ?_)
                · skip
                  exact absurd c_158 (nI_nle (Nat.pos_of_ne_zero q5) (by omega))
                · skip
                  refine lv_aload_n hx hb dX1_look_114 rfl (lv_at hl 2 rfl) ?_
                  refine lv_aload_n hx hb dX1_look_115 rfl (lv_at hl 2 rfl) ?_
                  refine va_get (D := (dC, dI)) (ci := 1) (v := .long (rd B (a9 + 1) (wd (B a9)))) (C := RX1) (T := TX1) (N := 17) hx hb hts hin0 hown hK hP 0 rfl rfl 5 (by decide) fl61 (fun _ h9 => h9) rfl dX1_look_116 ?_
                  refine lv_bipush (v := 64) hx hb dX1_look_119 (by decide) ?_
                  refine lv_bipush (v := 8) hx hb dX1_look_121 (by decide) ?_
                  refine lv_iload_n hx hb dX1_look_123 rfl (lv_at hl 0 rfl) ?_
                  refine lv_imul hx hb dX1_look_124 ?_
                  refine lv_isub hx hb dX1_look_125 ?_
                  refine lv_lshl hx hb dX1_look_126 rfl ?_
                  refine lv_bipush (v := 64) hx hb dX1_look_127 (by decide) ?_
                  refine lv_bipush (v := 8) hx hb dX1_look_129 (by decide) ?_
                  refine lv_iload_n hx hb dX1_look_131 rfl (lv_at hl 0 rfl) ?_
                  refine lv_imul hx hb dX1_look_132 ?_
                  refine lv_isub hx hb dX1_look_133 ?_
                  refine lv_lshr hx hb dX1_look_134 rfl ?_
                  have e_159 : (((rd B (a9 + 1) (wd (B a9))) <<< ((64 - (8 * (nI (wd (B a9))))).toInt64 &&& 63)) >>> ((64 - (8 * (nI (wd (B a9))))).toInt64 &&& 63) : Int64) = nv B a9 := nv_w5 q5 hk
                  rw [e_159]
                  refine va_put (D := (dC, dI)) (ci := 1) (v := .long (nv B a9)) (ty := .long) (C := RX1) (T := TX1) (N := 17) hx hb hts hin0 tyX1 tyX1_ok nmX1 hown hK hP hD hS 0 rfl rfl 5 (by decide) fl61 (fun _ h9 => h9) rfl (by decide +kernel) rfl rfl (Nat.le_of_ble_eq_true rfl) dX1_look_135 (fun H locs hP hD hS => ?_)
                  have hP : va_P (dC, dI) vwCl (w1 h a b cI cJ f g zt (nI n8) zc 5 (nv B a9) zty (nI (hd (B a9))) zpa zch zlk zlo zhi zlp zll zlv) H := hP
                  have hD : va_D A (w1 h a b cI cJ f g zt (nI n8) zc 5 (nv B a9) zty (nI (hd (B a9))) zpa zch zlk zlo zhi zlp zll zlv) := hD
                  refine lv_aload_n hx hb dX1_look_138 rfl (lv_at hl 2 rfl) ?_
                  refine va_get (D := (dC, dI)) (ci := 1) (v := .int 5) (C := RX1) (T := TX1) (N := 17) hx hb hts hin0 hown hK hP 0 rfl rfl 4 (by decide) fl47 (fun _ h9 => h9) rfl dX1_look_139 ?_
                  refine lv_bipush (v := 12) hx hb dX1_look_142 (by decide) ?_
                  refine lv_icmp_ne (tgt := 163) hx hb dX1_look_144 (by decide) (fun c_160 => ?_) (fun c_160 => ?_)
                  · skip
                    refine lv_iconst (v := 0) hx hb dX1_look_163 (by decide) ?_
                    refine lv_istore (lv' := [(4, .int 0), (3, .int (nI (wd (B a9)))), (2, .int (nI (B a9))), (0, .ref h), (1, .int (nI a9))]) hx hb dX1_look_164 hl (by decide) rfl (fun ls hl => ?_)
                    refine lv_aload_n hx hb dX1_look_166 rfl (lv_at hl 3 rfl) ?_
                    refine lv_iload hx hb dX1_look_167 (lv_at hl 0 rfl) ?_
                    refine lv_bipush (v := 127) hx hb dX1_look_169 (by decide) ?_
                    refine lv_icmp_le (tgt := 183) hx hb dX1_look_171 (by decide) (fun c_161 => ?_) (fun c_161 => ?_)
                    · skip
                      refine lv_iload hx hb dX1_look_183 (lv_at hl 0 rfl) ?_
                      refine va_put (D := (dC, dI)) (ci := 1) (v := .int 0) (ty := .int) (C := RX1) (T := TX1) (N := 17) hx hb hts hin0 tyX1 tyX1_ok nmX1 hown hK hP hD hS 0 rfl rfl 6 (by decide) fl65 (fun _ h9 => h9) rfl (by decide +kernel) rfl rfl (Nat.le_of_ble_eq_true rfl) dX1_look_185 (fun H locs hP hD hS => ?_)
                      have hP : va_P (dC, dI) vwCl (w1 h a b cI cJ f g zt (nI n8) zc 5 (nv B a9) 0 (nI (hd (B a9))) zpa zch zlk zlo zhi zlp zll zlv) H := hP
                      have hD : va_D A (w1 h a b cI cJ f g zt (nI n8) zc 5 (nv B a9) 0 (nI (hd (B a9))) zpa zch zlk zlo zhi zlp zll zlv) := hD
                      refine lv_aload_n hx hb dX1_look_188 rfl (lv_at hl 3 rfl) ?_
                      refine lv_lconst (v := 0) hx hb dX1_look_189 (by decide) ?_
                      refine va_put (D := (dC, dI)) (ci := 1) (v := .long 0) (ty := .long) (C := RX1) (T := TX1) (N := 17) hx hb hts hin0 tyX1 tyX1_ok nmX1 hown hK hP hD hS 0 rfl rfl 8 (by decide) fl68 (fun _ h9 => h9) rfl (by decide +kernel) rfl rfl (Nat.le_of_ble_eq_true rfl) dX1_look_190 (fun H locs hP hD hS => ?_)
                      have hP : va_P (dC, dI) vwCl (w1 h a b cI cJ f g zt (nI n8) zc 5 (nv B a9) 0 (nI (hd (B a9))) 0 zch zlk zlo zhi zlp zll zlv) H := hP
                      have hD : va_D A (w1 h a b cI cJ f g zt (nI n8) zc 5 (nv B a9) 0 (nI (hd (B a9))) 0 zch zlk zlo zhi zlp zll zlv) := hD
                      refine lv_aload_n hx hb dX1_look_193 rfl (lv_at hl 3 rfl) ?_
                      refine lv_lconst (v := 0) hx hb dX1_look_194 (by decide) ?_
                      refine va_put (D := (dC, dI)) (ci := 1) (v := .long 0) (ty := .long) (C := RX1) (T := TX1) (N := 17) hx hb hts hin0 tyX1 tyX1_ok nmX1 hown hK hP hD hS 0 rfl rfl 9 (by decide) fl71 (fun _ h9 => h9) rfl (by decide +kernel) rfl rfl (Nat.le_of_ble_eq_true rfl) dX1_look_195 (fun H locs hP hD hS => ?_)
                      have hP : va_P (dC, dI) vwCl (w1 h a b cI cJ f g zt (nI n8) zc 5 (nv B a9) 0 (nI (hd (B a9))) 0 0 zlk zlo zhi zlp zll zlv) H := hP
                      have hD : va_D A (w1 h a b cI cJ f g zt (nI n8) zc 5 (nv B a9) 0 (nI (hd (B a9))) 0 0 zlk zlo zhi zlp zll zlv) := hD
                      refine lv_aload_n hx hb dX1_look_198 rfl (lv_at hl 3 rfl) ?_
                      refine va_get (D := (dC, dI)) (ci := 1) (v := .int 5) (C := RX1) (T := TX1) (N := 17) hx hb hts hin0 hown hK hP 0 rfl rfl 4 (by decide) fl47 (fun _ h9 => h9) rfl dX1_look_199 ?_
                      refine lv_bipush (v := 7) hx hb dX1_look_202 (by decide) ?_
                      refine lv_icmp_le (tgt := 221) hx hb dX1_look_204 (by decide) (fun c_162 => ?_) (fun c_162 => ?_)
                      · skip
                        have q6 : 8 ≤ kd (B a9) → nv B a9 ≤ 2147483647 := fun z => absurd z (by rw [hk]; decide)
                        refine lv_aload_n hx hb dX1_look_221 rfl (lv_at hl 3 rfl) ?_
                        refine va_get (D := (dC, dI)) (ci := 1) (v := .int 5) (C := RX1) (T := TX1) (N := 17) hx hb hts hin0 hown hK hP 0 rfl rfl 4 (by decide) fl47 (fun _ h9 => h9) rfl dX1_look_222 ?_
                        refine lv_bipush (v := 8) hx hb dX1_look_225 (by decide) ?_
                        refine lv_icmp_eq (tgt := 248) hx hb dX1_look_227 (by decide) (fun c_163 => ?_) (fun c_163 => ?_)
                        · skip
                          exact absurd c_163 (by decide)
                        · skip
                          refine lv_aload_n hx hb dX1_look_230 rfl (lv_at hl 3 rfl) ?_
                          refine va_get (D := (dC, dI)) (ci := 1) (v := .int 5) (C := RX1) (T := TX1) (N := 17) hx hb hts hin0 hown hK hP 0 rfl rfl 4 (by decide) fl47 (fun _ h9 => h9) rfl dX1_look_231 ?_
                          refine lv_bipush (v := 9) hx hb dX1_look_234 (by decide) ?_
                          refine lv_icmp_eq (tgt := 248) hx hb dX1_look_236 (by decide) (fun c_164 => ?_) (fun c_164 => ?_)
                          · skip
                            exact absurd c_164 (by decide)
                          · skip
                            refine lv_aload_n hx hb dX1_look_239 rfl (lv_at hl 3 rfl) ?_
                            refine va_get (D := (dC, dI)) (ci := 1) (v := .int 5) (C := RX1) (T := TX1) (N := 17) hx hb hts hin0 hown hK hP 0 rfl rfl 4 (by decide) fl47 (fun _ h9 => h9) rfl dX1_look_240 ?_
                            refine lv_bipush (v := 12) hx hb dX1_look_243 (by decide) ?_
                            refine lv_icmp_ne (tgt := 256) hx hb dX1_look_245 (by decide) (fun c_165 => ?_) (fun c_165 => ?_)
                            · skip
                              refine lv_aload_n hx hb dX1_look_256 rfl (lv_at hl 3 rfl) ?_
                              refine va_get (D := (dC, dI)) (ci := 1) (v := .int 5) (C := RX1) (T := TX1) (N := 17) hx hb hts hin0 hown hK hP 0 rfl rfl 4 (by decide) fl47 (fun _ h9 => h9) rfl dX1_look_257 ?_
                              refine lv_bipush (v := 10) hx hb dX1_look_260 (by decide) ?_
                              refine lv_icmp_ne (tgt := 273) hx hb dX1_look_262 (by decide) (fun c_166 => ?_) (fun c_166 => ?_)
                              · skip
                                refine lv_aload_n hx hb dX1_look_273 rfl (lv_at hl 3 rfl) ?_
                                refine va_get (D := (dC, dI)) (ci := 1) (v := .int 5) (C := RX1) (T := TX1) (N := 17) hx hb hts hin0 hown hK hP 0 rfl rfl 4 (by decide) fl47 (fun _ h9 => h9) rfl dX1_look_274 ?_
                                refine lv_bipush (v := 11) hx hb dX1_look_277 (by decide) ?_
                                refine lv_icmp_ne (tgt := 294) hx hb dX1_look_279 (by decide) (fun c_167 => ?_) (fun c_167 => ?_)
                                · skip
                                  have q7 : paL B a9 = 0 := by simp [paL, hp, hk]
                                  refine lv_iload_n hx hb dX1_look_294 rfl (lv_at hl 4 rfl) ?_
                                  refine lv_aload_n hx hb dX1_look_295 rfl (lv_at hl 3 rfl) ?_
                                  refine va_get (D := (dC, dI)) (ci := 1) (v := .int (nI (hd (B a9)))) (C := RX1) (T := TX1) (N := 17) hx hb hts hin0 hown hK hP 0 rfl rfl 7 (by decide) fl50 (fun _ h9 => h9) rfl dX1_look_296 ?_
                                  refine lv_iadd hx hb dX1_look_299 ?_
                                  refine lv_i2l hx hb dX1_look_300 rfl ?_
                                  refine lv_aload_n hx hb dX1_look_301 rfl (lv_at hl 3 rfl) ?_
                                  refine va_get (D := (dC, dI)) (ci := 1) (v := .long 0) (C := RX1) (T := TX1) (N := 17) hx hb hts hin0 hown hK hP 0 rfl rfl 8 (by decide) fl68 (fun _ h9 => h9) rfl dX1_look_302 ?_
                                  refine lv_ladd hx hb dX1_look_305 ?_
                                  refine lv_aload_n hx hb dX1_look_306 rfl (lv_at hl 3 rfl) ?_
                                  refine va_get (D := (dC, dI)) (ci := 1) (v := .int (nI n8)) (C := RX1) (T := TX1) (N := 17) hx hb hts hin0 hown hK hP 0 rfl rfl 2 (by decide) fl28 (fun _ h9 => h9) rfl dX1_look_307 ?_
                                  refine lv_i2l hx hb dX1_look_310 rfl ?_
                                  refine W.lcmp hx hb dX1_look_311 ?_
                                  refine lv_if_le (tgt := 320) hx hb dX1_look_312 (by decide) (fun c_168 => ?_) (fun c_168 => ?_)
                                  · skip
                                    have c_168 := (lg_cmp_le ((((nI a9) + (nI (hd (B a9)))).toInt64) + 0) ((nI n8).toInt64)).mp c_168
                                    refine lv_iconst (v := 0) hx hb dX1_look_320 (by decide) ?_
                                    have hP9 : va_P (dC, dI) vwCl ((fun (u : Int32 × Int64 × Int32 × Int32 × Int64 × Int64) => w1 h a b cI cJ f g zt (nI n8) zc u.1 u.2.1 u.2.2.1 u.2.2.2.1 u.2.2.2.2.1 u.2.2.2.2.2 zlk zlo zhi zlp zll zlv) ((5, nv B a9, 0, nI (hd (B a9)), 0, 0))) H := hP
                                    have hD9 : va_D A ((fun (u : Int32 × Int64 × Int32 × Int32 × Int64 × Int64) => w1 h a b cI cJ f g zt (nI n8) zc u.1 u.2.1 u.2.2.1 u.2.2.2.1 u.2.2.2.2.1 u.2.2.2.2.2 zlk zlo zhi zlp zll zlv) ((5, nv B a9, 0, nI (hd (B a9)), 0, 0))) := hD
                                    exact W.iret (v := 0) hx hb hr (fun t ht hW => ⟨⟨0, (5, nv B a9, 0, nI (hd (B a9)), 0, 0), rfl, (by have q8 := (lk_end hB hn8 q1 q2 q3 q6).1 (by rw [q7]; exact c_168); exact Or.inr ⟨by rw [q8]; exact nI_pos (by have := kd_le _ (hB a9); omega), rfl, by rw [hk]; rfl, rfl, fun z => absurd (hk.symm.trans z) (by decide), rfl, q7.symm, by simp [ch, hk]⟩), by rw [ht]; exact hP9, va_K.moved hW.alike hK, hD9⟩, hS.F ht⟩) hS.2.2 dX1_look_321
                                  · skip
                                    have c_168 := (not_congr (lg_cmp_le ((((nI a9) + (nI (hd (B a9)))).toInt64) + 0) ((nI n8).toInt64))).mp c_168
                                    refine lv_bipush (v := -2) hx hb dX1_look_315 (by decide) ?_
                                    refine lv_goto (tgt := 321) hx hb dX1_look_317 (by decide) ?_
                                    have hP9 : va_P (dC, dI) vwCl ((fun (u : Int32 × Int64 × Int32 × Int32 × Int64 × Int64) => w1 h a b cI cJ f g zt (nI n8) zc u.1 u.2.1 u.2.2.1 u.2.2.2.1 u.2.2.2.2.1 u.2.2.2.2.2 zlk zlo zhi zlp zll zlv) ((5, nv B a9, 0, nI (hd (B a9)), 0, 0))) H := hP
                                    have hD9 : va_D A ((fun (u : Int32 × Int64 × Int32 × Int32 × Int64 × Int64) => w1 h a b cI cJ f g zt (nI n8) zc u.1 u.2.1 u.2.2.1 u.2.2.2.1 u.2.2.2.2.1 u.2.2.2.2.2 zlk zlo zhi zlp zll zlv) ((5, nv B a9, 0, nI (hd (B a9)), 0, 0))) := hD
                                    exact W.iret (v := -2) hx hb hr (fun t ht hW => ⟨⟨-2, (5, nv B a9, 0, nI (hd (B a9)), 0, 0), rfl, (lkneg ((lk_end hB hn8 q1 q2 q3 q6).2 (by rw [q7]; exact c_168)) (by decide)), by rw [ht]; exact hP9, va_K.moved hW.alike hK, hD9⟩, hS.F ht⟩) hS.2.2 dX1_look_321
                                · skip
                                  exact absurd c_167 (by decide)
                              · skip
                                exact absurd c_166 (by decide)
                            · skip
                              exact absurd c_165 (by decide)
                      · skip
                        exact absurd (by decide) c_162
                    · skip
                      exact absurd (by decide) c_161
                  · skip
                    exact absurd c_160 (by decide)
            · skip
              have q5 : wd (B a9) = 0 := (nI_z (by omega)).mp c_152
              refine lv_iload_n hx hb dX1_look_84 rfl (lv_at hl 1 rfl) ?_
              refine gsl (As := [.int (nI (B a9))]) (rest := [.ref h]) ⟨hx, hb, hml, hown, hts⟩ (c_X1_ownNumber l dC dI tk tw _ (B a9) (hB a9)) (va_cwS 1 hts gX1_look_X1_ownNumber rfl rfl rfl (by decide +kernel) ⟨Nat.le_of_ble_eq_true rfl, Nat.le_of_ble_eq_true rfl⟩) hP hS hA hZ rfl hl.1 rfl (Nat.le_of_ble_eq_true rfl) dX1_look_85 ⟨Nat.le_of_ble_eq_true rfl, Nat.le_of_ble_eq_true rfl⟩ (fun r_170 H locs hw_169 hP hS => ?_)
              obtain rfl : r_170 = nv B a9 := hw_169.trans (nv_w0 q5).symm
              refine lv_goto (tgt := 99) hx hb dX1_look_88 (by decide) ?_
              refine va_put (D := (dC, dI)) (ci := 1) (v := .long (nv B a9)) (ty := .long) (C := RX1) (T := TX1) (N := 17) hx hb hts hin0 tyX1 tyX1_ok nmX1 hown hK hP hD hS 0 rfl rfl 5 (by decide) fl61 (fun _ h9 => h9) rfl (by decide +kernel) rfl rfl (Nat.le_of_ble_eq_true rfl) dX1_look_99 (fun H locs hP hD hS => ?_)
              have hP : va_P (dC, dI) vwCl (w1 h a b cI cJ f g zt (nI n8) zc 5 (nv B a9) zty (nI (hd (B a9))) zpa zch zlk zlo zhi zlp zll zlv) H := hP
              have hD : va_D A (w1 h a b cI cJ f g zt (nI n8) zc 5 (nv B a9) zty (nI (hd (B a9))) zpa zch zlk zlo zhi zlp zll zlv) := hD
              refine lv_aload_n hx hb dX1_look_102 rfl (lv_at hl 2 rfl) ?_
              refine va_get (D := (dC, dI)) (ci := 1) (v := .int 5) (C := RX1) (T := TX1) (N := 17) hx hb hts hin0 hown hK hP 0 rfl rfl 4 (by decide) fl47 (fun _ h9 => h9) rfl dX1_look_103 ?_
              refine lv_iconst (v := 5) hx hb dX1_look_106 (by decide) ?_
              refine lv_icmp_ne (tgt := 138) hx hb dX1_look_107 (by decide) (fun c_171 => ?_) (fun c_171 => ?_)
              · skip
                exact absurd (by decide) c_171
              · skip
                refine lv_iload_n hx hb dX1_look_110 rfl (lv_at hl 0 rfl) ?_
                refine lv_if_le (tgt := 138) hx hb dX1_look_111 (by decide) (fun c_172 => ?_) (fun c_172 => ?_)
                · skip
                  refine lv_aload_n hx hb dX1_look_138 rfl (lv_at hl 2 rfl) ?_
                  refine va_get (D := (dC, dI)) (ci := 1) (v := .int 5) (C := RX1) (T := TX1) (N := 17) hx hb hts hin0 hown hK hP 0 rfl rfl 4 (by decide) fl47 (fun _ h9 => h9) rfl dX1_look_139 ?_
                  refine lv_bipush (v := 12) hx hb dX1_look_142 (by decide) ?_
                  refine lv_icmp_ne (tgt := 163) hx hb dX1_look_144 (by decide) (fun c_173 => ?_) (fun c_173 => ?_)
                  · skip
                    refine lv_iconst (v := 0) hx hb dX1_look_163 (by decide) ?_
                    refine lv_istore (lv' := [(4, .int 0), (3, .int (nI (wd (B a9)))), (2, .int (nI (B a9))), (0, .ref h), (1, .int (nI a9))]) hx hb dX1_look_164 hl (by decide) rfl (fun ls hl => ?_)
                    refine lv_aload_n hx hb dX1_look_166 rfl (lv_at hl 3 rfl) ?_
                    refine lv_iload hx hb dX1_look_167 (lv_at hl 0 rfl) ?_
                    refine lv_bipush (v := 127) hx hb dX1_look_169 (by decide) ?_
                    refine lv_icmp_le (tgt := 183) hx hb dX1_look_171 (by decide) (fun c_174 => ?_) (fun c_174 => ?_)
                    · skip
                      refine lv_iload hx hb dX1_look_183 (lv_at hl 0 rfl) ?_
                      refine va_put (D := (dC, dI)) (ci := 1) (v := .int 0) (ty := .int) (C := RX1) (T := TX1) (N := 17) hx hb hts hin0 tyX1 tyX1_ok nmX1 hown hK hP hD hS 0 rfl rfl 6 (by decide) fl65 (fun _ h9 => h9) rfl (by decide +kernel) rfl rfl (Nat.le_of_ble_eq_true rfl) dX1_look_185 (fun H locs hP hD hS => ?_)
                      have hP : va_P (dC, dI) vwCl (w1 h a b cI cJ f g zt (nI n8) zc 5 (nv B a9) 0 (nI (hd (B a9))) zpa zch zlk zlo zhi zlp zll zlv) H := hP
                      have hD : va_D A (w1 h a b cI cJ f g zt (nI n8) zc 5 (nv B a9) 0 (nI (hd (B a9))) zpa zch zlk zlo zhi zlp zll zlv) := hD
                      refine lv_aload_n hx hb dX1_look_188 rfl (lv_at hl 3 rfl) ?_
                      refine lv_lconst (v := 0) hx hb dX1_look_189 (by decide) ?_
                      refine va_put (D := (dC, dI)) (ci := 1) (v := .long 0) (ty := .long) (C := RX1) (T := TX1) (N := 17) hx hb hts hin0 tyX1 tyX1_ok nmX1 hown hK hP hD hS 0 rfl rfl 8 (by decide) fl68 (fun _ h9 => h9) rfl (by decide +kernel) rfl rfl (Nat.le_of_ble_eq_true rfl) dX1_look_190 (fun H locs hP hD hS => ?_)
                      have hP : va_P (dC, dI) vwCl (w1 h a b cI cJ f g zt (nI n8) zc 5 (nv B a9) 0 (nI (hd (B a9))) 0 zch zlk zlo zhi zlp zll zlv) H := hP
                      have hD : va_D A (w1 h a b cI cJ f g zt (nI n8) zc 5 (nv B a9) 0 (nI (hd (B a9))) 0 zch zlk zlo zhi zlp zll zlv) := hD
                      refine lv_aload_n hx hb dX1_look_193 rfl (lv_at hl 3 rfl) ?_
                      refine lv_lconst (v := 0) hx hb dX1_look_194 (by decide) ?_
                      refine va_put (D := (dC, dI)) (ci := 1) (v := .long 0) (ty := .long) (C := RX1) (T := TX1) (N := 17) hx hb hts hin0 tyX1 tyX1_ok nmX1 hown hK hP hD hS 0 rfl rfl 9 (by decide) fl71 (fun _ h9 => h9) rfl (by decide +kernel) rfl rfl (Nat.le_of_ble_eq_true rfl) dX1_look_195 (fun H locs hP hD hS => ?_)
                      have hP : va_P (dC, dI) vwCl (w1 h a b cI cJ f g zt (nI n8) zc 5 (nv B a9) 0 (nI (hd (B a9))) 0 0 zlk zlo zhi zlp zll zlv) H := hP
                      have hD : va_D A (w1 h a b cI cJ f g zt (nI n8) zc 5 (nv B a9) 0 (nI (hd (B a9))) 0 0 zlk zlo zhi zlp zll zlv) := hD
                      refine lv_aload_n hx hb dX1_look_198 rfl (lv_at hl 3 rfl) ?_
                      refine va_get (D := (dC, dI)) (ci := 1) (v := .int 5) (C := RX1) (T := TX1) (N := 17) hx hb hts hin0 hown hK hP 0 rfl rfl 4 (by decide) fl47 (fun _ h9 => h9) rfl dX1_look_199 ?_
                      refine lv_bipush (v := 7) hx hb dX1_look_202 (by decide) ?_
                      refine lv_icmp_le (tgt := 221) hx hb dX1_look_204 (by decide) (fun c_175 => ?_) (fun c_175 => ?_)
                      · skip
                        have q6 : 8 ≤ kd (B a9) → nv B a9 ≤ 2147483647 := fun z => absurd z (by rw [hk]; decide)
                        refine lv_aload_n hx hb dX1_look_221 rfl (lv_at hl 3 rfl) ?_
                        refine va_get (D := (dC, dI)) (ci := 1) (v := .int 5) (C := RX1) (T := TX1) (N := 17) hx hb hts hin0 hown hK hP 0 rfl rfl 4 (by decide) fl47 (fun _ h9 => h9) rfl dX1_look_222 ?_
                        refine lv_bipush (v := 8) hx hb dX1_look_225 (by decide) ?_
                        refine lv_icmp_eq (tgt := 248) hx hb dX1_look_227 (by decide) (fun c_176 => ?_) (fun c_176 => ?_)
                        · skip
                          exact absurd c_176 (by decide)
                        · skip
                          refine lv_aload_n hx hb dX1_look_230 rfl (lv_at hl 3 rfl) ?_
                          refine va_get (D := (dC, dI)) (ci := 1) (v := .int 5) (C := RX1) (T := TX1) (N := 17) hx hb hts hin0 hown hK hP 0 rfl rfl 4 (by decide) fl47 (fun _ h9 => h9) rfl dX1_look_231 ?_
                          refine lv_bipush (v := 9) hx hb dX1_look_234 (by decide) ?_
                          refine lv_icmp_eq (tgt := 248) hx hb dX1_look_236 (by decide) (fun c_177 => ?_) (fun c_177 => ?_)
                          · skip
                            exact absurd c_177 (by decide)
                          · skip
                            refine lv_aload_n hx hb dX1_look_239 rfl (lv_at hl 3 rfl) ?_
                            refine va_get (D := (dC, dI)) (ci := 1) (v := .int 5) (C := RX1) (T := TX1) (N := 17) hx hb hts hin0 hown hK hP 0 rfl rfl 4 (by decide) fl47 (fun _ h9 => h9) rfl dX1_look_240 ?_
                            refine lv_bipush (v := 12) hx hb dX1_look_243 (by decide) ?_
                            refine lv_icmp_ne (tgt := 256) hx hb dX1_look_245 (by decide) (fun c_178 => ?_) (fun c_178 => ?_)
                            · skip
                              refine lv_aload_n hx hb dX1_look_256 rfl (lv_at hl 3 rfl) ?_
                              refine va_get (D := (dC, dI)) (ci := 1) (v := .int 5) (C := RX1) (T := TX1) (N := 17) hx hb hts hin0 hown hK hP 0 rfl rfl 4 (by decide) fl47 (fun _ h9 => h9) rfl dX1_look_257 ?_
                              refine lv_bipush (v := 10) hx hb dX1_look_260 (by decide) ?_
                              refine lv_icmp_ne (tgt := 273) hx hb dX1_look_262 (by decide) (fun c_179 => ?_) (fun c_179 => ?_)
                              · skip
                                refine lv_aload_n hx hb dX1_look_273 rfl (lv_at hl 3 rfl) ?_
                                refine va_get (D := (dC, dI)) (ci := 1) (v := .int 5) (C := RX1) (T := TX1) (N := 17) hx hb hts hin0 hown hK hP 0 rfl rfl 4 (by decide) fl47 (fun _ h9 => h9) rfl dX1_look_274 ?_
                                refine lv_bipush (v := 11) hx hb dX1_look_277 (by decide) ?_
                                refine lv_icmp_ne (tgt := 294) hx hb dX1_look_279 (by decide) (fun c_180 => ?_) (fun c_180 => ?_)
                                · skip
                                  have q7 : paL B a9 = 0 := by simp [paL, hp, hk]
                                  refine lv_iload_n hx hb dX1_look_294 rfl (lv_at hl 4 rfl) ?_
                                  refine lv_aload_n hx hb dX1_look_295 rfl (lv_at hl 3 rfl) ?_
                                  refine va_get (D := (dC, dI)) (ci := 1) (v := .int (nI (hd (B a9)))) (C := RX1) (T := TX1) (N := 17) hx hb hts hin0 hown hK hP 0 rfl rfl 7 (by decide) fl50 (fun _ h9 => h9) rfl dX1_look_296 ?_
                                  refine lv_iadd hx hb dX1_look_299 ?_
                                  refine lv_i2l hx hb dX1_look_300 rfl ?_
                                  refine lv_aload_n hx hb dX1_look_301 rfl (lv_at hl 3 rfl) ?_
                                  refine va_get (D := (dC, dI)) (ci := 1) (v := .long 0) (C := RX1) (T := TX1) (N := 17) hx hb hts hin0 hown hK hP 0 rfl rfl 8 (by decide) fl68 (fun _ h9 => h9) rfl dX1_look_302 ?_
                                  refine lv_ladd hx hb dX1_look_305 ?_
                                  refine lv_aload_n hx hb dX1_look_306 rfl (lv_at hl 3 rfl) ?_
                                  refine va_get (D := (dC, dI)) (ci := 1) (v := .int (nI n8)) (C := RX1) (T := TX1) (N := 17) hx hb hts hin0 hown hK hP 0 rfl rfl 2 (by decide) fl28 (fun _ h9 => h9) rfl dX1_look_307 ?_
                                  refine lv_i2l hx hb dX1_look_310 rfl ?_
                                  refine W.lcmp hx hb dX1_look_311 ?_
                                  refine lv_if_le (tgt := 320) hx hb dX1_look_312 (by decide) (fun c_181 => ?_) (fun c_181 => ?_)
                                  · skip
                                    have c_181 := (lg_cmp_le ((((nI a9) + (nI (hd (B a9)))).toInt64) + 0) ((nI n8).toInt64)).mp c_181
                                    refine lv_iconst (v := 0) hx hb dX1_look_320 (by decide) ?_
                                    have hP9 : va_P (dC, dI) vwCl ((fun (u : Int32 × Int64 × Int32 × Int32 × Int64 × Int64) => w1 h a b cI cJ f g zt (nI n8) zc u.1 u.2.1 u.2.2.1 u.2.2.2.1 u.2.2.2.2.1 u.2.2.2.2.2 zlk zlo zhi zlp zll zlv) ((5, nv B a9, 0, nI (hd (B a9)), 0, 0))) H := hP
                                    have hD9 : va_D A ((fun (u : Int32 × Int64 × Int32 × Int32 × Int64 × Int64) => w1 h a b cI cJ f g zt (nI n8) zc u.1 u.2.1 u.2.2.1 u.2.2.2.1 u.2.2.2.2.1 u.2.2.2.2.2 zlk zlo zhi zlp zll zlv) ((5, nv B a9, 0, nI (hd (B a9)), 0, 0))) := hD
                                    exact W.iret (v := 0) hx hb hr (fun t ht hW => ⟨⟨0, (5, nv B a9, 0, nI (hd (B a9)), 0, 0), rfl, (by have q8 := (lk_end hB hn8 q1 q2 q3 q6).1 (by rw [q7]; exact c_181); exact Or.inr ⟨by rw [q8]; exact nI_pos (by have := kd_le _ (hB a9); omega), rfl, by rw [hk]; rfl, rfl, fun z => absurd (hk.symm.trans z) (by decide), rfl, q7.symm, by simp [ch, hk]⟩), by rw [ht]; exact hP9, va_K.moved hW.alike hK, hD9⟩, hS.F ht⟩) hS.2.2 dX1_look_321
                                  · skip
                                    have c_181 := (not_congr (lg_cmp_le ((((nI a9) + (nI (hd (B a9)))).toInt64) + 0) ((nI n8).toInt64))).mp c_181
                                    refine lv_bipush (v := -2) hx hb dX1_look_315 (by decide) ?_
                                    refine lv_goto (tgt := 321) hx hb dX1_look_317 (by decide) ?_
                                    have hP9 : va_P (dC, dI) vwCl ((fun (u : Int32 × Int64 × Int32 × Int32 × Int64 × Int64) => w1 h a b cI cJ f g zt (nI n8) zc u.1 u.2.1 u.2.2.1 u.2.2.2.1 u.2.2.2.2.1 u.2.2.2.2.2 zlk zlo zhi zlp zll zlv) ((5, nv B a9, 0, nI (hd (B a9)), 0, 0))) H := hP
                                    have hD9 : va_D A ((fun (u : Int32 × Int64 × Int32 × Int32 × Int64 × Int64) => w1 h a b cI cJ f g zt (nI n8) zc u.1 u.2.1 u.2.2.1 u.2.2.2.1 u.2.2.2.2.1 u.2.2.2.2.2 zlk zlo zhi zlp zll zlv) ((5, nv B a9, 0, nI (hd (B a9)), 0, 0))) := hD
                                    exact W.iret (v := -2) hx hb hr (fun t ht hW => ⟨⟨-2, (5, nv B a9, 0, nI (hd (B a9)), 0, 0), rfl, (lkneg ((lk_end hB hn8 q1 q2 q3 q6).2 (by rw [q7]; exact c_181)) (by decide)), by rw [ht]; exact hP9, va_K.moved hW.alike hK, hD9⟩, hS.F ht⟩) hS.2.2 dX1_look_321
                                · skip
                                  exact absurd c_180 (by decide)
                              · skip
                                exact absurd c_179 (by decide)
                            · skip
                              exact absurd c_178 (by decide)
                      · skip
                        exact absurd (by decide) c_175
                    · skip
                      exact absurd (by decide) c_174
                  · skip
                    exact absurd c_173 (by decide)
                · skip
                  exact absurd (by rw [q5]; decide) c_172
          · skip
            refine lv_bipush (v := -2) hx hb dX1_look_76 (by decide) ?_
            have hP9 : va_P (dC, dI) vwCl ((fun (u : Int32 × Int64 × Int32 × Int32 × Int64 × Int64) => w1 h a b cI cJ f g zt (nI n8) zc u.1 u.2.1 u.2.2.1 u.2.2.2.1 u.2.2.2.2.1 u.2.2.2.2.2 zlk zlo zhi zlp zll zlv) ((5, znu, zty, nI (hd (B a9)), zpa, zch))) H := hP
            have hD9 : va_D A ((fun (u : Int32 × Int64 × Int32 × Int32 × Int64 × Int64) => w1 h a b cI cJ f g zt (nI n8) zc u.1 u.2.1 u.2.2.1 u.2.2.2.1 u.2.2.2.2.1 u.2.2.2.2.2 zlk zlo zhi zlp zll zlv) ((5, znu, zty, nI (hd (B a9)), zpa, zch))) := hD
            exact W.iret (v := -2) hx hb hr (fun t ht hW => ⟨⟨-2, (5, znu, zty, nI (hd (B a9)), zpa, zch), rfl, (lkneg (lk3 hB hn8 q1 q2 (by have q4 := hd_le _ (hB a9); have z := (not_congr (nI_leI (a := a9 + hd (B a9)) (b := n8) (by omega) (by omega))).mp c_151; omega)) (by decide)), by rw [ht]; exact hP9, va_K.moved hW.alike hK, hD9⟩, hS.F ht⟩) hS.2.2 dX1_look_78
        · skip
          exact absurd c_148 (by decide)
      · skip
        have q2 : ¬ B a9 = 193 := fun z => c_3 (by rw [z]; rfl)
        refine lv_iload_n hx hb dX1_look_28 rfl (lv_at hl 0 rfl) ?_
        refine gsi (As := [.int (nI (B a9))]) (rest := []) ⟨hx, hb, hml, hown, hts⟩ (c_X1_widthOf l dC dI tk tw _ (B a9) (hB a9)) (va_cwS 1 hts gX1_look_X1_widthOf rfl rfl rfl (by decide +kernel) ⟨Nat.le_of_ble_eq_true rfl, Nat.le_of_ble_eq_true rfl⟩) hP hS hA hZ rfl hl.1 rfl (Nat.le_of_ble_eq_true rfl) dX1_look_29 ⟨Nat.le_of_ble_eq_true rfl, Nat.le_of_ble_eq_true rfl⟩ (fun r_183 H locs hw_182 hP hS => ?_)
        obtain rfl : r_183 = nI (wd (B a9)) := hw_182
        refine lv_istore_n (lv' := [(3, .int (nI (wd (B a9)))), (2, .int (nI (B a9))), (0, .ref h), (1, .int (nI a9))]) hx hb dX1_look_32 rfl hl (by decide) rfl (fun ls hl => ?_)
        refine lv_aload_n hx hb dX1_look_33 rfl (lv_at hl 2 rfl) ?_
        refine lv_iload_n hx hb dX1_look_34 rfl (lv_at hl 1 rfl) ?_
        refine gsi (As := [.int (nI (B a9))]) (rest := [.ref h]) ⟨hx, hb, hml, hown, hts⟩ (c_X1_kindOf l dC dI tk tw _ (B a9) (hB a9) q2) (va_cwS 1 hts gX1_look_X1_kindOf rfl rfl rfl (by decide +kernel) ⟨Nat.le_of_ble_eq_true rfl, Nat.le_of_ble_eq_true rfl⟩) hP hS hA hZ rfl hl.1 rfl (Nat.le_of_ble_eq_true rfl) dX1_look_35 ⟨Nat.le_of_ble_eq_true rfl, Nat.le_of_ble_eq_true rfl⟩ (fun r_185 H locs hw_184 hP hS => ?_)
        obtain rfl : r_185 = 6 := hw_184.trans (by rw [hk]; rfl)
        refine va_put (D := (dC, dI)) (ci := 1) (v := .int 6) (ty := .int) (C := RX1) (T := TX1) (N := 17) hx hb hts hin0 tyX1 tyX1_ok nmX1 hown hK hP hD hS 0 rfl rfl 4 (by decide) fl47 (fun _ h9 => h9) rfl (by decide +kernel) rfl rfl (Nat.le_of_ble_eq_true rfl) dX1_look_38 (fun H locs hP hD hS => ?_)
        have hP : va_P (dC, dI) vwCl (w1 h a b cI cJ f g zt (nI n8) zc 6 znu zty zhd zpa zch zlk zlo zhi zlp zll zlv) H := hP
        have hD : va_D A (w1 h a b cI cJ f g zt (nI n8) zc 6 znu zty zhd zpa zch zlk zlo zhi zlp zll zlv) := hD
        refine lv_aload_n hx hb dX1_look_41 rfl (lv_at hl 2 rfl) ?_
        refine lv_iconst (v := 1) hx hb dX1_look_42 (by decide) ?_
        refine lv_iload_n hx hb dX1_look_43 rfl (lv_at hl 0 rfl) ?_
        refine lv_iadd hx hb dX1_look_44 ?_
        refine lv_aload_n hx hb dX1_look_45 rfl (lv_at hl 2 rfl) ?_
        refine va_get (D := (dC, dI)) (ci := 1) (v := .int 6) (C := RX1) (T := TX1) (N := 17) hx hb hts hin0 hown hK hP 0 rfl rfl 4 (by decide) fl47 (fun _ h9 => h9) rfl dX1_look_46 ?_
        refine lv_bipush (v := 12) hx hb dX1_look_49 (by decide) ?_
        refine lv_icmp_ne (tgt := 58) hx hb dX1_look_51 (by decide) (fun c_186 => ?_) (fun c_186 => ?_)
        · skip
          refine lv_iconst (v := 0) hx hb dX1_look_58 (by decide) ?_
          refine lv_iadd hx hb dX1_look_59 ?_
          have e_187 : ((1 + (nI (wd (B a9)))) + 0 : Int32) = nI (hd (B a9)) := hdn (by rw [hk]; decide)
          rw [e_187]
          refine va_put (D := (dC, dI)) (ci := 1) (v := .int (nI (hd (B a9)))) (ty := .int) (C := RX1) (T := TX1) (N := 17) hx hb hts hin0 tyX1 tyX1_ok nmX1 hown hK hP hD hS 0 rfl rfl 7 (by decide) fl50 (fun _ h9 => h9) rfl (by decide +kernel) rfl rfl (Nat.le_of_ble_eq_true rfl) dX1_look_60 (fun H locs hP hD hS => ?_)
          have hP : va_P (dC, dI) vwCl (w1 h a b cI cJ f g zt (nI n8) zc 6 znu zty (nI (hd (B a9))) zpa zch zlk zlo zhi zlp zll zlv) H := hP
          have hD : va_D A (w1 h a b cI cJ f g zt (nI n8) zc 6 znu zty (nI (hd (B a9))) zpa zch zlk zlo zhi zlp zll zlv) := hD
          refine lv_iload_n hx hb dX1_look_63 rfl (lv_at hl 3 rfl) ?_
          refine lv_aload_n hx hb dX1_look_64 rfl (lv_at hl 2 rfl) ?_
          refine va_get (D := (dC, dI)) (ci := 1) (v := .int (nI (hd (B a9)))) (C := RX1) (T := TX1) (N := 17) hx hb hts hin0 hown hK hP 0 rfl rfl 7 (by decide) fl50 (fun _ h9 => h9) rfl dX1_look_65 ?_
          refine lv_iadd hx hb dX1_look_68 ?_
          have e_188 : ((nI a9) + (nI (hd (B a9))) : Int32) = nI (a9 + hd (B a9)) := nI_add _ _
          rw [e_188]
          refine lv_aload_n hx hb dX1_look_69 rfl (lv_at hl 2 rfl) ?_
          refine va_get (D := (dC, dI)) (ci := 1) (v := .int (nI n8)) (C := RX1) (T := TX1) (N := 17) hx hb hts hin0 hown hK hP 0 rfl rfl 2 (by decide) fl28 (fun _ h9 => h9) rfl dX1_look_70 ?_
          refine lv_icmp_le (tgt := 79) hx hb dX1_look_73 (by decide) (fun c_189 => ?_) (fun c_189 => ?_)
          · skip
            have q4 := hd_le _ (hB a9)
            have q3 : a9 + hd (B a9) ≤ n8 := (nI_leI (by omega) (by omega)).mp c_189
            refine lv_aload_n hx hb dX1_look_79 rfl (lv_at hl 2 rfl) ?_
            refine lv_iload_n hx hb dX1_look_80 rfl (lv_at hl 0 rfl) ?_
            refine lv_if_ne (tgt := 91) hx hb dX1_look_81 (by decide) (fun c_190 => ?_) (fun c_190 => ?_)
            · skip
              have q5 : ¬ wd (B a9) = 0 := fun z => c_190 (by rw [z]; rfl)
              refine lv_aload_n hx hb dX1_look_91 rfl (lv_at hl 2 rfl) ?_
              refine lv_iload_n hx hb dX1_look_92 rfl (lv_at hl 3 rfl) ?_
              refine lv_iconst (v := 1) hx hb dX1_look_93 (by decide) ?_
              refine lv_iadd hx hb dX1_look_94 ?_
              refine lv_iload_n hx hb dX1_look_95 rfl (lv_at hl 0 rfl) ?_
              have e_193 : ((nI a9) + 1 : Int32) = nI (a9 + 1) := nI_1 a9
              rw [e_193]
              refine gvl (As := [.int (nI (a9 + 1)), .int (nI (wd (B a9)))]) (rest := [.ref h]) ⟨hx, hb, hml, hown, hts⟩ (c_X1_numberAt l dC dI tk tw h a b cI cJ _ f g zt (nI n8) zc 6 znu zty (nI (hd (B a9))) zpa zch zlk zlo zhi zlp zll zlv B (a9 + 1) (wd (B a9)) (by omega) (fun j hj => hf9 j (by omega))) (cwV 2 hts gX1_look_X1_numberAt rfl rfl rfl (by decide +kernel) ⟨Nat.le_of_ble_eq_true rfl, Nat.le_of_ble_eq_true rfl⟩) hK hP hD hS hA hZ (q0 := 0) (ci := 1) rfl rfl rfl rfl hl.1 rfl (Nat.le_of_ble_eq_true rfl) dX1_look_96 ⟨Nat.le_of_ble_eq_true rfl, Nat.le_of_ble_eq_true rfl⟩ (fun r_192 u_194 H locs hw_191 hP hD hS => ?_)
              obtain rfl : r_192 = nv B a9 := hw_191.trans (nv_w1 q5 (by rw [hk]; decide)).symm
              refine va_put (D := (dC, dI)) (ci := 1) (v := .long (nv B a9)) (ty := .long) (C := RX1) (T := TX1) (N := 17) hx hb hts hin0 tyX1 tyX1_ok nmX1 hown hK hP hD hS 0 rfl rfl 5 (by decide) fl61 (fun _ h9 => h9) rfl (by decide +kernel) rfl rfl (Nat.le_of_ble_eq_true rfl) dX1_look_99 (fun H locs hP hD hS => ?_)
              have hP : va_P (dC, dI) vwCl (w1 h a b cI cJ f g zt (nI n8) zc 6 (nv B a9) zty (nI (hd (B a9))) zpa zch zlk zlo zhi zlp zll zlv) H := hP
              have hD : va_D A (w1 h a b cI cJ f g zt (nI n8) zc 6 (nv B a9) zty (nI (hd (B a9))) zpa zch zlk zlo zhi zlp zll zlv) := hD
              refine lv_aload_n hx hb dX1_look_102 rfl (lv_at hl 2 rfl) ?_
              refine va_get (D := (dC, dI)) (ci := 1) (v := .int 6) (C := RX1) (T := TX1) (N := 17) hx hb hts hin0 hown hK hP 0 rfl rfl 4 (by decide) fl47 (fun _ h9 => h9) rfl dX1_look_103 ?_
              refine lv_iconst (v := 5) hx hb dX1_look_106 (by decide) ?_
              refine lv_icmp_ne (tgt := 138) hx hb dX1_look_107 (by decide) (fun c_195 => ?_) (fun c_195 => ?_)
              · skip
                refine lv_aload_n hx hb dX1_look_138 rfl (lv_at hl 2 rfl) ?_
                refine va_get (D := (dC, dI)) (ci := 1) (v := .int 6) (C := RX1) (T := TX1) (N := 17) hx hb hts hin0 hown hK hP 0 rfl rfl 4 (by decide) fl47 (fun _ h9 => h9) rfl dX1_look_139 ?_
                refine lv_bipush (v := 12) hx hb dX1_look_142 (by decide) ?_
                refine lv_icmp_ne (tgt := 163) hx hb dX1_look_144 (by decide) (fun c_196 => ?_) (fun c_196 => ?_)
                · skip
                  refine lv_iconst (v := 0) hx hb dX1_look_163 (by decide) ?_
                  refine lv_istore (lv' := [(4, .int 0), (3, .int (nI (wd (B a9)))), (2, .int (nI (B a9))), (0, .ref h), (1, .int (nI a9))]) hx hb dX1_look_164 hl (by decide) rfl (fun ls hl => ?_)
                  refine lv_aload_n hx hb dX1_look_166 rfl (lv_at hl 3 rfl) ?_
                  refine lv_iload hx hb dX1_look_167 (lv_at hl 0 rfl) ?_
                  refine lv_bipush (v := 127) hx hb dX1_look_169 (by decide) ?_
                  refine lv_icmp_le (tgt := 183) hx hb dX1_look_171 (by decide) (fun c_197 => ?_) (fun c_197 => ?_)
                  · skip
                    refine lv_iload hx hb dX1_look_183 (lv_at hl 0 rfl) ?_
                    refine va_put (D := (dC, dI)) (ci := 1) (v := .int 0) (ty := .int) (C := RX1) (T := TX1) (N := 17) hx hb hts hin0 tyX1 tyX1_ok nmX1 hown hK hP hD hS 0 rfl rfl 6 (by decide) fl65 (fun _ h9 => h9) rfl (by decide +kernel) rfl rfl (Nat.le_of_ble_eq_true rfl) dX1_look_185 (fun H locs hP hD hS => ?_)
                    have hP : va_P (dC, dI) vwCl (w1 h a b cI cJ f g zt (nI n8) zc 6 (nv B a9) 0 (nI (hd (B a9))) zpa zch zlk zlo zhi zlp zll zlv) H := hP
                    have hD : va_D A (w1 h a b cI cJ f g zt (nI n8) zc 6 (nv B a9) 0 (nI (hd (B a9))) zpa zch zlk zlo zhi zlp zll zlv) := hD
                    refine lv_aload_n hx hb dX1_look_188 rfl (lv_at hl 3 rfl) ?_
                    refine lv_lconst (v := 0) hx hb dX1_look_189 (by decide) ?_
                    refine va_put (D := (dC, dI)) (ci := 1) (v := .long 0) (ty := .long) (C := RX1) (T := TX1) (N := 17) hx hb hts hin0 tyX1 tyX1_ok nmX1 hown hK hP hD hS 0 rfl rfl 8 (by decide) fl68 (fun _ h9 => h9) rfl (by decide +kernel) rfl rfl (Nat.le_of_ble_eq_true rfl) dX1_look_190 (fun H locs hP hD hS => ?_)
                    have hP : va_P (dC, dI) vwCl (w1 h a b cI cJ f g zt (nI n8) zc 6 (nv B a9) 0 (nI (hd (B a9))) 0 zch zlk zlo zhi zlp zll zlv) H := hP
                    have hD : va_D A (w1 h a b cI cJ f g zt (nI n8) zc 6 (nv B a9) 0 (nI (hd (B a9))) 0 zch zlk zlo zhi zlp zll zlv) := hD
                    refine lv_aload_n hx hb dX1_look_193 rfl (lv_at hl 3 rfl) ?_
                    refine lv_lconst (v := 0) hx hb dX1_look_194 (by decide) ?_
                    refine va_put (D := (dC, dI)) (ci := 1) (v := .long 0) (ty := .long) (C := RX1) (T := TX1) (N := 17) hx hb hts hin0 tyX1 tyX1_ok nmX1 hown hK hP hD hS 0 rfl rfl 9 (by decide) fl71 (fun _ h9 => h9) rfl (by decide +kernel) rfl rfl (Nat.le_of_ble_eq_true rfl) dX1_look_195 (fun H locs hP hD hS => ?_)
                    have hP : va_P (dC, dI) vwCl (w1 h a b cI cJ f g zt (nI n8) zc 6 (nv B a9) 0 (nI (hd (B a9))) 0 0 zlk zlo zhi zlp zll zlv) H := hP
                    have hD : va_D A (w1 h a b cI cJ f g zt (nI n8) zc 6 (nv B a9) 0 (nI (hd (B a9))) 0 0 zlk zlo zhi zlp zll zlv) := hD
                    refine lv_aload_n hx hb dX1_look_198 rfl (lv_at hl 3 rfl) ?_
                    refine va_get (D := (dC, dI)) (ci := 1) (v := .int 6) (C := RX1) (T := TX1) (N := 17) hx hb hts hin0 hown hK hP 0 rfl rfl 4 (by decide) fl47 (fun _ h9 => h9) rfl dX1_look_199 ?_
                    refine lv_bipush (v := 7) hx hb dX1_look_202 (by decide) ?_
                    refine lv_icmp_le (tgt := 221) hx hb dX1_look_204 (by decide) (fun c_198 => ?_) (fun c_198 => ?_)
                    · skip
                      have q6 : 8 ≤ kd (B a9) → nv B a9 ≤ 2147483647 := fun z => absurd z (by rw [hk]; decide)
                      refine lv_aload_n hx hb dX1_look_221 rfl (lv_at hl 3 rfl) ?_
                      refine va_get (D := (dC, dI)) (ci := 1) (v := .int 6) (C := RX1) (T := TX1) (N := 17) hx hb hts hin0 hown hK hP 0 rfl rfl 4 (by decide) fl47 (fun _ h9 => h9) rfl dX1_look_222 ?_
                      refine lv_bipush (v := 8) hx hb dX1_look_225 (by decide) ?_
                      refine lv_icmp_eq (tgt := 248) hx hb dX1_look_227 (by decide) (fun c_199 => ?_) (fun c_199 => ?_)
                      · skip
                        exact absurd c_199 (by decide)
                      · skip
                        refine lv_aload_n hx hb dX1_look_230 rfl (lv_at hl 3 rfl) ?_
                        refine va_get (D := (dC, dI)) (ci := 1) (v := .int 6) (C := RX1) (T := TX1) (N := 17) hx hb hts hin0 hown hK hP 0 rfl rfl 4 (by decide) fl47 (fun _ h9 => h9) rfl dX1_look_231 ?_
                        refine lv_bipush (v := 9) hx hb dX1_look_234 (by decide) ?_
                        refine lv_icmp_eq (tgt := 248) hx hb dX1_look_236 (by decide) (fun c_200 => ?_) (fun c_200 => ?_)
                        · skip
                          exact absurd c_200 (by decide)
                        · skip
                          refine lv_aload_n hx hb dX1_look_239 rfl (lv_at hl 3 rfl) ?_
                          refine va_get (D := (dC, dI)) (ci := 1) (v := .int 6) (C := RX1) (T := TX1) (N := 17) hx hb hts hin0 hown hK hP 0 rfl rfl 4 (by decide) fl47 (fun _ h9 => h9) rfl dX1_look_240 ?_
                          refine lv_bipush (v := 12) hx hb dX1_look_243 (by decide) ?_
                          refine lv_icmp_ne (tgt := 256) hx hb dX1_look_245 (by decide) (fun c_201 => ?_) (fun c_201 => ?_)
                          · skip
                            refine lv_aload_n hx hb dX1_look_256 rfl (lv_at hl 3 rfl) ?_
                            refine va_get (D := (dC, dI)) (ci := 1) (v := .int 6) (C := RX1) (T := TX1) (N := 17) hx hb hts hin0 hown hK hP 0 rfl rfl 4 (by decide) fl47 (fun _ h9 => h9) rfl dX1_look_257 ?_
                            refine lv_bipush (v := 10) hx hb dX1_look_260 (by decide) ?_
                            refine lv_icmp_ne (tgt := 273) hx hb dX1_look_262 (by decide) (fun c_202 => ?_) (fun c_202 => ?_)
                            · skip
                              refine lv_aload_n hx hb dX1_look_273 rfl (lv_at hl 3 rfl) ?_
                              refine va_get (D := (dC, dI)) (ci := 1) (v := .int 6) (C := RX1) (T := TX1) (N := 17) hx hb hts hin0 hown hK hP 0 rfl rfl 4 (by decide) fl47 (fun _ h9 => h9) rfl dX1_look_274 ?_
                              refine lv_bipush (v := 11) hx hb dX1_look_277 (by decide) ?_
                              refine lv_icmp_ne (tgt := 294) hx hb dX1_look_279 (by decide) (fun c_203 => ?_) (fun c_203 => ?_)
                              · skip
                                have q7 : paL B a9 = 0 := by simp [paL, hp, hk]
                                refine lv_iload_n hx hb dX1_look_294 rfl (lv_at hl 4 rfl) ?_
                                refine lv_aload_n hx hb dX1_look_295 rfl (lv_at hl 3 rfl) ?_
                                refine va_get (D := (dC, dI)) (ci := 1) (v := .int (nI (hd (B a9)))) (C := RX1) (T := TX1) (N := 17) hx hb hts hin0 hown hK hP 0 rfl rfl 7 (by decide) fl50 (fun _ h9 => h9) rfl dX1_look_296 ?_
                                refine lv_iadd hx hb dX1_look_299 ?_
                                refine lv_i2l hx hb dX1_look_300 rfl ?_
                                refine lv_aload_n hx hb dX1_look_301 rfl (lv_at hl 3 rfl) ?_
                                refine va_get (D := (dC, dI)) (ci := 1) (v := .long 0) (C := RX1) (T := TX1) (N := 17) hx hb hts hin0 hown hK hP 0 rfl rfl 8 (by decide) fl68 (fun _ h9 => h9) rfl dX1_look_302 ?_
                                refine lv_ladd hx hb dX1_look_305 ?_
                                refine lv_aload_n hx hb dX1_look_306 rfl (lv_at hl 3 rfl) ?_
                                refine va_get (D := (dC, dI)) (ci := 1) (v := .int (nI n8)) (C := RX1) (T := TX1) (N := 17) hx hb hts hin0 hown hK hP 0 rfl rfl 2 (by decide) fl28 (fun _ h9 => h9) rfl dX1_look_307 ?_
                                refine lv_i2l hx hb dX1_look_310 rfl ?_
                                refine W.lcmp hx hb dX1_look_311 ?_
                                refine lv_if_le (tgt := 320) hx hb dX1_look_312 (by decide) (fun c_204 => ?_) (fun c_204 => ?_)
                                · skip
                                  have c_204 := (lg_cmp_le ((((nI a9) + (nI (hd (B a9)))).toInt64) + 0) ((nI n8).toInt64)).mp c_204
                                  refine lv_iconst (v := 0) hx hb dX1_look_320 (by decide) ?_
                                  have hP9 : va_P (dC, dI) vwCl ((fun (u : Int32 × Int64 × Int32 × Int32 × Int64 × Int64) => w1 h a b cI cJ f g zt (nI n8) zc u.1 u.2.1 u.2.2.1 u.2.2.2.1 u.2.2.2.2.1 u.2.2.2.2.2 zlk zlo zhi zlp zll zlv) ((6, nv B a9, 0, nI (hd (B a9)), 0, 0))) H := hP
                                  have hD9 : va_D A ((fun (u : Int32 × Int64 × Int32 × Int32 × Int64 × Int64) => w1 h a b cI cJ f g zt (nI n8) zc u.1 u.2.1 u.2.2.1 u.2.2.2.1 u.2.2.2.2.1 u.2.2.2.2.2 zlk zlo zhi zlp zll zlv) ((6, nv B a9, 0, nI (hd (B a9)), 0, 0))) := hD
                                  exact W.iret (v := 0) hx hb hr (fun t ht hW => ⟨⟨0, (6, nv B a9, 0, nI (hd (B a9)), 0, 0), rfl, (by have q8 := (lk_end hB hn8 q1 q2 q3 q6).1 (by rw [q7]; exact c_204); exact Or.inr ⟨by rw [q8]; exact nI_pos (by have := kd_le _ (hB a9); omega), rfl, by rw [hk]; rfl, rfl, fun z => absurd (hk.symm.trans z) (by decide), rfl, q7.symm, by simp [ch, hk]⟩), by rw [ht]; exact hP9, va_K.moved hW.alike hK, hD9⟩, hS.F ht⟩) hS.2.2 dX1_look_321
                                · skip
                                  have c_204 := (not_congr (lg_cmp_le ((((nI a9) + (nI (hd (B a9)))).toInt64) + 0) ((nI n8).toInt64))).mp c_204
                                  refine lv_bipush (v := -2) hx hb dX1_look_315 (by decide) ?_
                                  refine lv_goto (tgt := 321) hx hb dX1_look_317 (by decide) ?_
                                  have hP9 : va_P (dC, dI) vwCl ((fun (u : Int32 × Int64 × Int32 × Int32 × Int64 × Int64) => w1 h a b cI cJ f g zt (nI n8) zc u.1 u.2.1 u.2.2.1 u.2.2.2.1 u.2.2.2.2.1 u.2.2.2.2.2 zlk zlo zhi zlp zll zlv) ((6, nv B a9, 0, nI (hd (B a9)), 0, 0))) H := hP
                                  have hD9 : va_D A ((fun (u : Int32 × Int64 × Int32 × Int32 × Int64 × Int64) => w1 h a b cI cJ f g zt (nI n8) zc u.1 u.2.1 u.2.2.1 u.2.2.2.1 u.2.2.2.2.1 u.2.2.2.2.2 zlk zlo zhi zlp zll zlv) ((6, nv B a9, 0, nI (hd (B a9)), 0, 0))) := hD
                                  exact W.iret (v := -2) hx hb hr (fun t ht hW => ⟨⟨-2, (6, nv B a9, 0, nI (hd (B a9)), 0, 0), rfl, (lkneg ((lk_end hB hn8 q1 q2 q3 q6).2 (by rw [q7]; exact c_204)) (by decide)), by rw [ht]; exact hP9, va_K.moved hW.alike hK, hD9⟩, hS.F ht⟩) hS.2.2 dX1_look_321
                              · skip
                                exact absurd c_203 (by decide)
                            · skip
                              exact absurd c_202 (by decide)
                          · skip
                            exact absurd c_201 (by decide)
                    · skip
                      exact absurd (by decide) c_198
                  · skip
                    exact absurd (by decide) c_197
                · skip
                  exact absurd c_196 (by decide)
              · skip
                exact absurd c_195 (by decide)
            · skip
              have q5 : wd (B a9) = 0 := (nI_z (by omega)).mp c_190
              refine lv_iload_n hx hb dX1_look_84 rfl (lv_at hl 1 rfl) ?_
              refine gsl (As := [.int (nI (B a9))]) (rest := [.ref h]) ⟨hx, hb, hml, hown, hts⟩ (c_X1_ownNumber l dC dI tk tw _ (B a9) (hB a9)) (va_cwS 1 hts gX1_look_X1_ownNumber rfl rfl rfl (by decide +kernel) ⟨Nat.le_of_ble_eq_true rfl, Nat.le_of_ble_eq_true rfl⟩) hP hS hA hZ rfl hl.1 rfl (Nat.le_of_ble_eq_true rfl) dX1_look_85 ⟨Nat.le_of_ble_eq_true rfl, Nat.le_of_ble_eq_true rfl⟩ (fun r_206 H locs hw_205 hP hS => ?_)
              obtain rfl : r_206 = nv B a9 := hw_205.trans (nv_w0 q5).symm
              refine lv_goto (tgt := 99) hx hb dX1_look_88 (by decide) ?_
              refine va_put (D := (dC, dI)) (ci := 1) (v := .long (nv B a9)) (ty := .long) (C := RX1) (T := TX1) (N := 17) hx hb hts hin0 tyX1 tyX1_ok nmX1 hown hK hP hD hS 0 rfl rfl 5 (by decide) fl61 (fun _ h9 => h9) rfl (by decide +kernel) rfl rfl (Nat.le_of_ble_eq_true rfl) dX1_look_99 (fun H locs hP hD hS => ?_)
              have hP : va_P (dC, dI) vwCl (w1 h a b cI cJ f g zt (nI n8) zc 6 (nv B a9) zty (nI (hd (B a9))) zpa zch zlk zlo zhi zlp zll zlv) H := hP
              have hD : va_D A (w1 h a b cI cJ f g zt (nI n8) zc 6 (nv B a9) zty (nI (hd (B a9))) zpa zch zlk zlo zhi zlp zll zlv) := hD
              refine lv_aload_n hx hb dX1_look_102 rfl (lv_at hl 2 rfl) ?_
              refine va_get (D := (dC, dI)) (ci := 1) (v := .int 6) (C := RX1) (T := TX1) (N := 17) hx hb hts hin0 hown hK hP 0 rfl rfl 4 (by decide) fl47 (fun _ h9 => h9) rfl dX1_look_103 ?_
              refine lv_iconst (v := 5) hx hb dX1_look_106 (by decide) ?_
              refine lv_icmp_ne (tgt := 138) hx hb dX1_look_107 (by decide) (fun c_207 => ?_) (fun c_207 => ?_)
              · skip
                refine lv_aload_n hx hb dX1_look_138 rfl (lv_at hl 2 rfl) ?_
                refine va_get (D := (dC, dI)) (ci := 1) (v := .int 6) (C := RX1) (T := TX1) (N := 17) hx hb hts hin0 hown hK hP 0 rfl rfl 4 (by decide) fl47 (fun _ h9 => h9) rfl dX1_look_139 ?_
                refine lv_bipush (v := 12) hx hb dX1_look_142 (by decide) ?_
                refine lv_icmp_ne (tgt := 163) hx hb dX1_look_144 (by decide) (fun c_208 => ?_) (fun c_208 => ?_)
                · skip
                  refine lv_iconst (v := 0) hx hb dX1_look_163 (by decide) ?_
                  refine lv_istore (lv' := [(4, .int 0), (3, .int (nI (wd (B a9)))), (2, .int (nI (B a9))), (0, .ref h), (1, .int (nI a9))]) hx hb dX1_look_164 hl (by decide) rfl (fun ls hl => ?_)
                  refine lv_aload_n hx hb dX1_look_166 rfl (lv_at hl 3 rfl) ?_
                  refine lv_iload hx hb dX1_look_167 (lv_at hl 0 rfl) ?_
                  refine lv_bipush (v := 127) hx hb dX1_look_169 (by decide) ?_
                  refine lv_icmp_le (tgt := 183) hx hb dX1_look_171 (by decide) (fun c_209 => ?_) (fun c_209 => ?_)
                  · skip
                    refine lv_iload hx hb dX1_look_183 (lv_at hl 0 rfl) ?_
                    refine va_put (D := (dC, dI)) (ci := 1) (v := .int 0) (ty := .int) (C := RX1) (T := TX1) (N := 17) hx hb hts hin0 tyX1 tyX1_ok nmX1 hown hK hP hD hS 0 rfl rfl 6 (by decide) fl65 (fun _ h9 => h9) rfl (by decide +kernel) rfl rfl (Nat.le_of_ble_eq_true rfl) dX1_look_185 (fun H locs hP hD hS => ?_)
                    have hP : va_P (dC, dI) vwCl (w1 h a b cI cJ f g zt (nI n8) zc 6 (nv B a9) 0 (nI (hd (B a9))) zpa zch zlk zlo zhi zlp zll zlv) H := hP
                    have hD : va_D A (w1 h a b cI cJ f g zt (nI n8) zc 6 (nv B a9) 0 (nI (hd (B a9))) zpa zch zlk zlo zhi zlp zll zlv) := hD
                    refine lv_aload_n hx hb dX1_look_188 rfl (lv_at hl 3 rfl) ?_
                    refine lv_lconst (v := 0) hx hb dX1_look_189 (by decide) ?_
                    refine va_put (D := (dC, dI)) (ci := 1) (v := .long 0) (ty := .long) (C := RX1) (T := TX1) (N := 17) hx hb hts hin0 tyX1 tyX1_ok nmX1 hown hK hP hD hS 0 rfl rfl 8 (by decide) fl68 (fun _ h9 => h9) rfl (by decide +kernel) rfl rfl (Nat.le_of_ble_eq_true rfl) dX1_look_190 (fun H locs hP hD hS => ?_)
                    have hP : va_P (dC, dI) vwCl (w1 h a b cI cJ f g zt (nI n8) zc 6 (nv B a9) 0 (nI (hd (B a9))) 0 zch zlk zlo zhi zlp zll zlv) H := hP
                    have hD : va_D A (w1 h a b cI cJ f g zt (nI n8) zc 6 (nv B a9) 0 (nI (hd (B a9))) 0 zch zlk zlo zhi zlp zll zlv) := hD
                    refine lv_aload_n hx hb dX1_look_193 rfl (lv_at hl 3 rfl) ?_
                    refine lv_lconst (v := 0) hx hb dX1_look_194 (by decide) ?_
                    refine va_put (D := (dC, dI)) (ci := 1) (v := .long 0) (ty := .long) (C := RX1) (T := TX1) (N := 17) hx hb hts hin0 tyX1 tyX1_ok nmX1 hown hK hP hD hS 0 rfl rfl 9 (by decide) fl71 (fun _ h9 => h9) rfl (by decide +kernel) rfl rfl (Nat.le_of_ble_eq_true rfl) dX1_look_195 (fun H locs hP hD hS => ?_)
                    have hP : va_P (dC, dI) vwCl (w1 h a b cI cJ f g zt (nI n8) zc 6 (nv B a9) 0 (nI (hd (B a9))) 0 0 zlk zlo zhi zlp zll zlv) H := hP
                    have hD : va_D A (w1 h a b cI cJ f g zt (nI n8) zc 6 (nv B a9) 0 (nI (hd (B a9))) 0 0 zlk zlo zhi zlp zll zlv) := hD
                    refine lv_aload_n hx hb dX1_look_198 rfl (lv_at hl 3 rfl) ?_
                    refine va_get (D := (dC, dI)) (ci := 1) (v := .int 6) (C := RX1) (T := TX1) (N := 17) hx hb hts hin0 hown hK hP 0 rfl rfl 4 (by decide) fl47 (fun _ h9 => h9) rfl dX1_look_199 ?_
                    refine lv_bipush (v := 7) hx hb dX1_look_202 (by decide) ?_
                    refine lv_icmp_le (tgt := 221) hx hb dX1_look_204 (by decide) (fun c_210 => ?_) (fun c_210 => ?_)
                    · skip
                      have q6 : 8 ≤ kd (B a9) → nv B a9 ≤ 2147483647 := fun z => absurd z (by rw [hk]; decide)
                      refine lv_aload_n hx hb dX1_look_221 rfl (lv_at hl 3 rfl) ?_
                      refine va_get (D := (dC, dI)) (ci := 1) (v := .int 6) (C := RX1) (T := TX1) (N := 17) hx hb hts hin0 hown hK hP 0 rfl rfl 4 (by decide) fl47 (fun _ h9 => h9) rfl dX1_look_222 ?_
                      refine lv_bipush (v := 8) hx hb dX1_look_225 (by decide) ?_
                      refine lv_icmp_eq (tgt := 248) hx hb dX1_look_227 (by decide) (fun c_211 => ?_) (fun c_211 => ?_)
                      · skip
                        exact absurd c_211 (by decide)
                      · skip
                        refine lv_aload_n hx hb dX1_look_230 rfl (lv_at hl 3 rfl) ?_
                        refine va_get (D := (dC, dI)) (ci := 1) (v := .int 6) (C := RX1) (T := TX1) (N := 17) hx hb hts hin0 hown hK hP 0 rfl rfl 4 (by decide) fl47 (fun _ h9 => h9) rfl dX1_look_231 ?_
                        refine lv_bipush (v := 9) hx hb dX1_look_234 (by decide) ?_
                        refine lv_icmp_eq (tgt := 248) hx hb dX1_look_236 (by decide) (fun c_212 => ?_) (fun c_212 => ?_)
                        · skip
                          exact absurd c_212 (by decide)
                        · skip
                          refine lv_aload_n hx hb dX1_look_239 rfl (lv_at hl 3 rfl) ?_
                          refine va_get (D := (dC, dI)) (ci := 1) (v := .int 6) (C := RX1) (T := TX1) (N := 17) hx hb hts hin0 hown hK hP 0 rfl rfl 4 (by decide) fl47 (fun _ h9 => h9) rfl dX1_look_240 ?_
                          refine lv_bipush (v := 12) hx hb dX1_look_243 (by decide) ?_
                          refine lv_icmp_ne (tgt := 256) hx hb dX1_look_245 (by decide) (fun c_213 => ?_) (fun c_213 => ?_)
                          · skip
                            refine lv_aload_n hx hb dX1_look_256 rfl (lv_at hl 3 rfl) ?_
                            refine va_get (D := (dC, dI)) (ci := 1) (v := .int 6) (C := RX1) (T := TX1) (N := 17) hx hb hts hin0 hown hK hP 0 rfl rfl 4 (by decide) fl47 (fun _ h9 => h9) rfl dX1_look_257 ?_
                            refine lv_bipush (v := 10) hx hb dX1_look_260 (by decide) ?_
                            refine lv_icmp_ne (tgt := 273) hx hb dX1_look_262 (by decide) (fun c_214 => ?_) (fun c_214 => ?_)
                            · skip
                              refine lv_aload_n hx hb dX1_look_273 rfl (lv_at hl 3 rfl) ?_
                              refine va_get (D := (dC, dI)) (ci := 1) (v := .int 6) (C := RX1) (T := TX1) (N := 17) hx hb hts hin0 hown hK hP 0 rfl rfl 4 (by decide) fl47 (fun _ h9 => h9) rfl dX1_look_274 ?_
                              refine lv_bipush (v := 11) hx hb dX1_look_277 (by decide) ?_
                              refine lv_icmp_ne (tgt := 294) hx hb dX1_look_279 (by decide) (fun c_215 => ?_) (fun c_215 => ?_)
                              · skip
                                have q7 : paL B a9 = 0 := by simp [paL, hp, hk]
                                refine lv_iload_n hx hb dX1_look_294 rfl (lv_at hl 4 rfl) ?_
                                refine lv_aload_n hx hb dX1_look_295 rfl (lv_at hl 3 rfl) ?_
                                refine va_get (D := (dC, dI)) (ci := 1) (v := .int (nI (hd (B a9)))) (C := RX1) (T := TX1) (N := 17) hx hb hts hin0 hown hK hP 0 rfl rfl 7 (by decide) fl50 (fun _ h9 => h9) rfl dX1_look_296 ?_
                                refine lv_iadd hx hb dX1_look_299 ?_
                                refine lv_i2l hx hb dX1_look_300 rfl ?_
                                refine lv_aload_n hx hb dX1_look_301 rfl (lv_at hl 3 rfl) ?_
                                refine va_get (D := (dC, dI)) (ci := 1) (v := .long 0) (C := RX1) (T := TX1) (N := 17) hx hb hts hin0 hown hK hP 0 rfl rfl 8 (by decide) fl68 (fun _ h9 => h9) rfl dX1_look_302 ?_
                                refine lv_ladd hx hb dX1_look_305 ?_
                                refine lv_aload_n hx hb dX1_look_306 rfl (lv_at hl 3 rfl) ?_
                                refine va_get (D := (dC, dI)) (ci := 1) (v := .int (nI n8)) (C := RX1) (T := TX1) (N := 17) hx hb hts hin0 hown hK hP 0 rfl rfl 2 (by decide) fl28 (fun _ h9 => h9) rfl dX1_look_307 ?_
                                refine lv_i2l hx hb dX1_look_310 rfl ?_
                                refine W.lcmp hx hb dX1_look_311 ?_
                                refine lv_if_le (tgt := 320) hx hb dX1_look_312 (by decide) (fun c_216 => ?_) (fun c_216 => ?_)
                                · skip
                                  have c_216 := (lg_cmp_le ((((nI a9) + (nI (hd (B a9)))).toInt64) + 0) ((nI n8).toInt64)).mp c_216
                                  refine lv_iconst (v := 0) hx hb dX1_look_320 (by decide) ?_
                                  have hP9 : va_P (dC, dI) vwCl ((fun (u : Int32 × Int64 × Int32 × Int32 × Int64 × Int64) => w1 h a b cI cJ f g zt (nI n8) zc u.1 u.2.1 u.2.2.1 u.2.2.2.1 u.2.2.2.2.1 u.2.2.2.2.2 zlk zlo zhi zlp zll zlv) ((6, nv B a9, 0, nI (hd (B a9)), 0, 0))) H := hP
                                  have hD9 : va_D A ((fun (u : Int32 × Int64 × Int32 × Int32 × Int64 × Int64) => w1 h a b cI cJ f g zt (nI n8) zc u.1 u.2.1 u.2.2.1 u.2.2.2.1 u.2.2.2.2.1 u.2.2.2.2.2 zlk zlo zhi zlp zll zlv) ((6, nv B a9, 0, nI (hd (B a9)), 0, 0))) := hD
                                  exact W.iret (v := 0) hx hb hr (fun t ht hW => ⟨⟨0, (6, nv B a9, 0, nI (hd (B a9)), 0, 0), rfl, (by have q8 := (lk_end hB hn8 q1 q2 q3 q6).1 (by rw [q7]; exact c_216); exact Or.inr ⟨by rw [q8]; exact nI_pos (by have := kd_le _ (hB a9); omega), rfl, by rw [hk]; rfl, rfl, fun z => absurd (hk.symm.trans z) (by decide), rfl, q7.symm, by simp [ch, hk]⟩), by rw [ht]; exact hP9, va_K.moved hW.alike hK, hD9⟩, hS.F ht⟩) hS.2.2 dX1_look_321
                                · skip
                                  have c_216 := (not_congr (lg_cmp_le ((((nI a9) + (nI (hd (B a9)))).toInt64) + 0) ((nI n8).toInt64))).mp c_216
                                  refine lv_bipush (v := -2) hx hb dX1_look_315 (by decide) ?_
                                  refine lv_goto (tgt := 321) hx hb dX1_look_317 (by decide) ?_
                                  have hP9 : va_P (dC, dI) vwCl ((fun (u : Int32 × Int64 × Int32 × Int32 × Int64 × Int64) => w1 h a b cI cJ f g zt (nI n8) zc u.1 u.2.1 u.2.2.1 u.2.2.2.1 u.2.2.2.2.1 u.2.2.2.2.2 zlk zlo zhi zlp zll zlv) ((6, nv B a9, 0, nI (hd (B a9)), 0, 0))) H := hP
                                  have hD9 : va_D A ((fun (u : Int32 × Int64 × Int32 × Int32 × Int64 × Int64) => w1 h a b cI cJ f g zt (nI n8) zc u.1 u.2.1 u.2.2.1 u.2.2.2.1 u.2.2.2.2.1 u.2.2.2.2.2 zlk zlo zhi zlp zll zlv) ((6, nv B a9, 0, nI (hd (B a9)), 0, 0))) := hD
                                  exact W.iret (v := -2) hx hb hr (fun t ht hW => ⟨⟨-2, (6, nv B a9, 0, nI (hd (B a9)), 0, 0), rfl, (lkneg ((lk_end hB hn8 q1 q2 q3 q6).2 (by rw [q7]; exact c_216)) (by decide)), by rw [ht]; exact hP9, va_K.moved hW.alike hK, hD9⟩, hS.F ht⟩) hS.2.2 dX1_look_321
                              · skip
                                exact absurd c_215 (by decide)
                            · skip
                              exact absurd c_214 (by decide)
                          · skip
                            exact absurd c_213 (by decide)
                    · skip
                      exact absurd (by decide) c_210
                  · skip
                    exact absurd (by decide) c_209
                · skip
                  exact absurd c_208 (by decide)
              · skip
                exact absurd c_207 (by decide)
          · skip
            refine lv_bipush (v := -2) hx hb dX1_look_76 (by decide) ?_
            have hP9 : va_P (dC, dI) vwCl ((fun (u : Int32 × Int64 × Int32 × Int32 × Int64 × Int64) => w1 h a b cI cJ f g zt (nI n8) zc u.1 u.2.1 u.2.2.1 u.2.2.2.1 u.2.2.2.2.1 u.2.2.2.2.2 zlk zlo zhi zlp zll zlv) ((6, znu, zty, nI (hd (B a9)), zpa, zch))) H := hP
            have hD9 : va_D A ((fun (u : Int32 × Int64 × Int32 × Int32 × Int64 × Int64) => w1 h a b cI cJ f g zt (nI n8) zc u.1 u.2.1 u.2.2.1 u.2.2.2.1 u.2.2.2.2.1 u.2.2.2.2.2 zlk zlo zhi zlp zll zlv) ((6, znu, zty, nI (hd (B a9)), zpa, zch))) := hD
            exact W.iret (v := -2) hx hb hr (fun t ht hW => ⟨⟨-2, (6, znu, zty, nI (hd (B a9)), zpa, zch), rfl, (lkneg (lk3 hB hn8 q1 q2 (by have q4 := hd_le _ (hB a9); have z := (not_congr (nI_leI (a := a9 + hd (B a9)) (b := n8) (by omega) (by omega))).mp c_189; omega)) (by decide)), by rw [ht]; exact hP9, va_K.moved hW.alike hK, hD9⟩, hS.F ht⟩) hS.2.2 dX1_look_78
        · skip
          exact absurd c_186 (by decide)
      · skip
        have q2 : ¬ B a9 = 193 := fun z => c_3 (by rw [z]; rfl)
        refine lv_iload_n hx hb dX1_look_28 rfl (lv_at hl 0 rfl) ?_
        refine gsi (As := [.int (nI (B a9))]) (rest := []) ⟨hx, hb, hml, hown, hts⟩ (c_X1_widthOf l dC dI tk tw _ (B a9) (hB a9)) (va_cwS 1 hts gX1_look_X1_widthOf rfl rfl rfl (by decide +kernel) ⟨Nat.le_of_ble_eq_true rfl, Nat.le_of_ble_eq_true rfl⟩) hP hS hA hZ rfl hl.1 rfl (Nat.le_of_ble_eq_true rfl) dX1_look_29 ⟨Nat.le_of_ble_eq_true rfl, Nat.le_of_ble_eq_true rfl⟩ (fun r_218 H locs hw_217 hP hS => ?_)
        obtain rfl : r_218 = nI (wd (B a9)) := hw_217
        refine lv_istore_n (lv' := [(3, .int (nI (wd (B a9)))), (2, .int (nI (B a9))), (0, .ref h), (1, .int (nI a9))]) hx hb dX1_look_32 rfl hl (by decide) rfl (fun ls hl => ?_)
        refine lv_aload_n hx hb dX1_look_33 rfl (lv_at hl 2 rfl) ?_
        refine lv_iload_n hx hb dX1_look_34 rfl (lv_at hl 1 rfl) ?_
        refine gsi (As := [.int (nI (B a9))]) (rest := [.ref h]) ⟨hx, hb, hml, hown, hts⟩ (c_X1_kindOf l dC dI tk tw _ (B a9) (hB a9) q2) (va_cwS 1 hts gX1_look_X1_kindOf rfl rfl rfl (by decide +kernel) ⟨Nat.le_of_ble_eq_true rfl, Nat.le_of_ble_eq_true rfl⟩) hP hS hA hZ rfl hl.1 rfl (Nat.le_of_ble_eq_true rfl) dX1_look_35 ⟨Nat.le_of_ble_eq_true rfl, Nat.le_of_ble_eq_true rfl⟩ (fun r_220 H locs hw_219 hP hS => ?_)
        obtain rfl : r_220 = 7 := hw_219.trans (by rw [hk]; rfl)
        refine va_put (D := (dC, dI)) (ci := 1) (v := .int 7) (ty := .int) (C := RX1) (T := TX1) (N := 17) hx hb hts hin0 tyX1 tyX1_ok nmX1 hown hK hP hD hS 0 rfl rfl 4 (by decide) fl47 (fun _ h9 => h9) rfl (by decide +kernel) rfl rfl (Nat.le_of_ble_eq_true rfl) dX1_look_38 (fun H locs hP hD hS => ?_)
        have hP : va_P (dC, dI) vwCl (w1 h a b cI cJ f g zt (nI n8) zc 7 znu zty zhd zpa zch zlk zlo zhi zlp zll zlv) H := hP
        have hD : va_D A (w1 h a b cI cJ f g zt (nI n8) zc 7 znu zty zhd zpa zch zlk zlo zhi zlp zll zlv) := hD
        refine lv_aload_n hx hb dX1_look_41 rfl (lv_at hl 2 rfl) ?_
        refine lv_iconst (v := 1) hx hb dX1_look_42 (by decide) ?_
        refine lv_iload_n hx hb dX1_look_43 rfl (lv_at hl 0 rfl) ?_
        refine lv_iadd hx hb dX1_look_44 ?_
        refine lv_aload_n hx hb dX1_look_45 rfl (lv_at hl 2 rfl) ?_
        refine va_get (D := (dC, dI)) (ci := 1) (v := .int 7) (C := RX1) (T := TX1) (N := 17) hx hb hts hin0 hown hK hP 0 rfl rfl 4 (by decide) fl47 (fun _ h9 => h9) rfl dX1_look_46 ?_
        refine lv_bipush (v := 12) hx hb dX1_look_49 (by decide) ?_
        refine lv_icmp_ne (tgt := 58) hx hb dX1_look_51 (by decide) (fun c_221 => ?_) (fun c_221 => ?_)
        · skip
          refine lv_iconst (v := 0) hx hb dX1_look_58 (by decide) ?_
          refine lv_iadd hx hb dX1_look_59 ?_
          have e_222 : ((1 + (nI (wd (B a9)))) + 0 : Int32) = nI (hd (B a9)) := hdn (by rw [hk]; decide)
          rw [e_222]
          refine va_put (D := (dC, dI)) (ci := 1) (v := .int (nI (hd (B a9)))) (ty := .int) (C := RX1) (T := TX1) (N := 17) hx hb hts hin0 tyX1 tyX1_ok nmX1 hown hK hP hD hS 0 rfl rfl 7 (by decide) fl50 (fun _ h9 => h9) rfl (by decide +kernel) rfl rfl (Nat.le_of_ble_eq_true rfl) dX1_look_60 (fun H locs hP hD hS => ?_)
          have hP : va_P (dC, dI) vwCl (w1 h a b cI cJ f g zt (nI n8) zc 7 znu zty (nI (hd (B a9))) zpa zch zlk zlo zhi zlp zll zlv) H := hP
          have hD : va_D A (w1 h a b cI cJ f g zt (nI n8) zc 7 znu zty (nI (hd (B a9))) zpa zch zlk zlo zhi zlp zll zlv) := hD
          refine lv_iload_n hx hb dX1_look_63 rfl (lv_at hl 3 rfl) ?_
          refine lv_aload_n hx hb dX1_look_64 rfl (lv_at hl 2 rfl) ?_
          refine va_get (D := (dC, dI)) (ci := 1) (v := .int (nI (hd (B a9)))) (C := RX1) (T := TX1) (N := 17) hx hb hts hin0 hown hK hP 0 rfl rfl 7 (by decide) fl50 (fun _ h9 => h9) rfl dX1_look_65 ?_
          refine lv_iadd hx hb dX1_look_68 ?_
          have e_223 : ((nI a9) + (nI (hd (B a9))) : Int32) = nI (a9 + hd (B a9)) := nI_add _ _
          rw [e_223]
          refine lv_aload_n hx hb dX1_look_69 rfl (lv_at hl 2 rfl) ?_
          refine va_get (D := (dC, dI)) (ci := 1) (v := .int (nI n8)) (C := RX1) (T := TX1) (N := 17) hx hb hts hin0 hown hK hP 0 rfl rfl 2 (by decide) fl28 (fun _ h9 => h9) rfl dX1_look_70 ?_
          refine lv_icmp_le (tgt := 79) hx hb dX1_look_73 (by decide) (fun c_224 => ?_) (fun c_224 => ?_)
          · skip
            have q4 := hd_le _ (hB a9)
            have q3 : a9 + hd (B a9) ≤ n8 := (nI_leI (by omega) (by omega)).mp c_224
            refine lv_aload_n hx hb dX1_look_79 rfl (lv_at hl 2 rfl) ?_
            refine lv_iload_n hx hb dX1_look_80 rfl (lv_at hl 0 rfl) ?_
            refine lv_if_ne (tgt := 91) hx hb dX1_look_81 (by decide) (fun c_225 => ?_) (fun c_225 => ?_)
            · skip
              have q5 : ¬ wd (B a9) = 0 := fun z => c_225 (by rw [z]; rfl)
              refine lv_aload_n hx hb dX1_look_91 rfl (lv_at hl 2 rfl) ?_
              refine lv_iload_n hx hb dX1_look_92 rfl (lv_at hl 3 rfl) ?_
              refine lv_iconst (v := 1) hx hb dX1_look_93 (by decide) ?_
              refine lv_iadd hx hb dX1_look_94 ?_
              refine lv_iload_n hx hb dX1_look_95 rfl (lv_at hl 0 rfl) ?_
              have e_228 : ((nI a9) + 1 : Int32) = nI (a9 + 1) := nI_1 a9
              rw [e_228]
              refine gvl (As := [.int (nI (a9 + 1)), .int (nI (wd (B a9)))]) (rest := [.ref h]) ⟨hx, hb, hml, hown, hts⟩ (c_X1_numberAt l dC dI tk tw h a b cI cJ _ f g zt (nI n8) zc 7 znu zty (nI (hd (B a9))) zpa zch zlk zlo zhi zlp zll zlv B (a9 + 1) (wd (B a9)) (by omega) (fun j hj => hf9 j (by omega))) (cwV 2 hts gX1_look_X1_numberAt rfl rfl rfl (by decide +kernel) ⟨Nat.le_of_ble_eq_true rfl, Nat.le_of_ble_eq_true rfl⟩) hK hP hD hS hA hZ (q0 := 0) (ci := 1) rfl rfl rfl rfl hl.1 rfl (Nat.le_of_ble_eq_true rfl) dX1_look_96 ⟨Nat.le_of_ble_eq_true rfl, Nat.le_of_ble_eq_true rfl⟩ (fun r_227 u_229 H locs hw_226 hP hD hS => ?_)
              obtain rfl : r_227 = nv B a9 := hw_226.trans (nv_w1 q5 (by rw [hk]; decide)).symm
              refine va_put (D := (dC, dI)) (ci := 1) (v := .long (nv B a9)) (ty := .long) (C := RX1) (T := TX1) (N := 17) hx hb hts hin0 tyX1 tyX1_ok nmX1 hown hK hP hD hS 0 rfl rfl 5 (by decide) fl61 (fun _ h9 => h9) rfl (by decide +kernel) rfl rfl (Nat.le_of_ble_eq_true rfl) dX1_look_99 (fun H locs hP hD hS => ?_)
              have hP : va_P (dC, dI) vwCl (w1 h a b cI cJ f g zt (nI n8) zc 7 (nv B a9) zty (nI (hd (B a9))) zpa zch zlk zlo zhi zlp zll zlv) H := hP
              have hD : va_D A (w1 h a b cI cJ f g zt (nI n8) zc 7 (nv B a9) zty (nI (hd (B a9))) zpa zch zlk zlo zhi zlp zll zlv) := hD
              refine lv_aload_n hx hb dX1_look_102 rfl (lv_at hl 2 rfl) ?_
              refine va_get (D := (dC, dI)) (ci := 1) (v := .int 7) (C := RX1) (T := TX1) (N := 17) hx hb hts hin0 hown hK hP 0 rfl rfl 4 (by decide) fl47 (fun _ h9 => h9) rfl dX1_look_103 ?_
              refine lv_iconst (v := 5) hx hb dX1_look_106 (by decide) ?_
              refine lv_icmp_ne (tgt := 138) hx hb dX1_look_107 (by decide) (fun c_230 => ?_) (fun c_230 => ?_)
              · skip
                refine lv_aload_n hx hb dX1_look_138 rfl (lv_at hl 2 rfl) ?_
                refine va_get (D := (dC, dI)) (ci := 1) (v := .int 7) (C := RX1) (T := TX1) (N := 17) hx hb hts hin0 hown hK hP 0 rfl rfl 4 (by decide) fl47 (fun _ h9 => h9) rfl dX1_look_139 ?_
                refine lv_bipush (v := 12) hx hb dX1_look_142 (by decide) ?_
                refine lv_icmp_ne (tgt := 163) hx hb dX1_look_144 (by decide) (fun c_231 => ?_) (fun c_231 => ?_)
                · skip
                  refine lv_iconst (v := 0) hx hb dX1_look_163 (by decide) ?_
                  refine lv_istore (lv' := [(4, .int 0), (3, .int (nI (wd (B a9)))), (2, .int (nI (B a9))), (0, .ref h), (1, .int (nI a9))]) hx hb dX1_look_164 hl (by decide) rfl (fun ls hl => ?_)
                  refine lv_aload_n hx hb dX1_look_166 rfl (lv_at hl 3 rfl) ?_
                  refine lv_iload hx hb dX1_look_167 (lv_at hl 0 rfl) ?_
                  refine lv_bipush (v := 127) hx hb dX1_look_169 (by decide) ?_
                  refine lv_icmp_le (tgt := 183) hx hb dX1_look_171 (by decide) (fun c_232 => ?_) (fun c_232 => ?_)
                  · skip
                    refine lv_iload hx hb dX1_look_183 (lv_at hl 0 rfl) ?_
                    refine va_put (D := (dC, dI)) (ci := 1) (v := .int 0) (ty := .int) (C := RX1) (T := TX1) (N := 17) hx hb hts hin0 tyX1 tyX1_ok nmX1 hown hK hP hD hS 0 rfl rfl 6 (by decide) fl65 (fun _ h9 => h9) rfl (by decide +kernel) rfl rfl (Nat.le_of_ble_eq_true rfl) dX1_look_185 (fun H locs hP hD hS => ?_)
                    have hP : va_P (dC, dI) vwCl (w1 h a b cI cJ f g zt (nI n8) zc 7 (nv B a9) 0 (nI (hd (B a9))) zpa zch zlk zlo zhi zlp zll zlv) H := hP
                    have hD : va_D A (w1 h a b cI cJ f g zt (nI n8) zc 7 (nv B a9) 0 (nI (hd (B a9))) zpa zch zlk zlo zhi zlp zll zlv) := hD
                    refine lv_aload_n hx hb dX1_look_188 rfl (lv_at hl 3 rfl) ?_
                    refine lv_lconst (v := 0) hx hb dX1_look_189 (by decide) ?_
                    refine va_put (D := (dC, dI)) (ci := 1) (v := .long 0) (ty := .long) (C := RX1) (T := TX1) (N := 17) hx hb hts hin0 tyX1 tyX1_ok nmX1 hown hK hP hD hS 0 rfl rfl 8 (by decide) fl68 (fun _ h9 => h9) rfl (by decide +kernel) rfl rfl (Nat.le_of_ble_eq_true rfl) dX1_look_190 (fun H locs hP hD hS => ?_)
                    have hP : va_P (dC, dI) vwCl (w1 h a b cI cJ f g zt (nI n8) zc 7 (nv B a9) 0 (nI (hd (B a9))) 0 zch zlk zlo zhi zlp zll zlv) H := hP
                    have hD : va_D A (w1 h a b cI cJ f g zt (nI n8) zc 7 (nv B a9) 0 (nI (hd (B a9))) 0 zch zlk zlo zhi zlp zll zlv) := hD
                    refine lv_aload_n hx hb dX1_look_193 rfl (lv_at hl 3 rfl) ?_
                    refine lv_lconst (v := 0) hx hb dX1_look_194 (by decide) ?_
                    refine va_put (D := (dC, dI)) (ci := 1) (v := .long 0) (ty := .long) (C := RX1) (T := TX1) (N := 17) hx hb hts hin0 tyX1 tyX1_ok nmX1 hown hK hP hD hS 0 rfl rfl 9 (by decide) fl71 (fun _ h9 => h9) rfl (by decide +kernel) rfl rfl (Nat.le_of_ble_eq_true rfl) dX1_look_195 (fun H locs hP hD hS => ?_)
                    have hP : va_P (dC, dI) vwCl (w1 h a b cI cJ f g zt (nI n8) zc 7 (nv B a9) 0 (nI (hd (B a9))) 0 0 zlk zlo zhi zlp zll zlv) H := hP
                    have hD : va_D A (w1 h a b cI cJ f g zt (nI n8) zc 7 (nv B a9) 0 (nI (hd (B a9))) 0 0 zlk zlo zhi zlp zll zlv) := hD
                    refine lv_aload_n hx hb dX1_look_198 rfl (lv_at hl 3 rfl) ?_
                    refine va_get (D := (dC, dI)) (ci := 1) (v := .int 7) (C := RX1) (T := TX1) (N := 17) hx hb hts hin0 hown hK hP 0 rfl rfl 4 (by decide) fl47 (fun _ h9 => h9) rfl dX1_look_199 ?_
                    refine lv_bipush (v := 7) hx hb dX1_look_202 (by decide) ?_
                    refine lv_icmp_le (tgt := 221) hx hb dX1_look_204 (by decide) (fun c_233 => ?_) (fun c_233 => ?_)
                    · skip
                      have q6 : 8 ≤ kd (B a9) → nv B a9 ≤ 2147483647 := fun z => absurd z (by rw [hk]; decide)
                      refine lv_aload_n hx hb dX1_look_221 rfl (lv_at hl 3 rfl) ?_
                      refine va_get (D := (dC, dI)) (ci := 1) (v := .int 7) (C := RX1) (T := TX1) (N := 17) hx hb hts hin0 hown hK hP 0 rfl rfl 4 (by decide) fl47 (fun _ h9 => h9) rfl dX1_look_222 ?_
                      refine lv_bipush (v := 8) hx hb dX1_look_225 (by decide) ?_
                      refine lv_icmp_eq (tgt := 248) hx hb dX1_look_227 (by decide) (fun c_234 => ?_) (fun c_234 => ?_)
                      · skip
                        exact absurd c_234 (by decide)
                      · skip
                        refine lv_aload_n hx hb dX1_look_230 rfl (lv_at hl 3 rfl) ?_
                        refine va_get (D := (dC, dI)) (ci := 1) (v := .int 7) (C := RX1) (T := TX1) (N := 17) hx hb hts hin0 hown hK hP 0 rfl rfl 4 (by decide) fl47 (fun _ h9 => h9) rfl dX1_look_231 ?_
                        refine lv_bipush (v := 9) hx hb dX1_look_234 (by decide) ?_
                        refine lv_icmp_eq (tgt := 248) hx hb dX1_look_236 (by decide) (fun c_235 => ?_) (fun c_235 => ?_)
                        · skip
                          exact absurd c_235 (by decide)
                        · skip
                          refine lv_aload_n hx hb dX1_look_239 rfl (lv_at hl 3 rfl) ?_
                          refine va_get (D := (dC, dI)) (ci := 1) (v := .int 7) (C := RX1) (T := TX1) (N := 17) hx hb hts hin0 hown hK hP 0 rfl rfl 4 (by decide) fl47 (fun _ h9 => h9) rfl dX1_look_240 ?_
                          refine lv_bipush (v := 12) hx hb dX1_look_243 (by decide) ?_
                          refine lv_icmp_ne (tgt := 256) hx hb dX1_look_245 (by decide) (fun c_236 => ?_) (fun c_236 => ?_)
                          · skip
                            refine lv_aload_n hx hb dX1_look_256 rfl (lv_at hl 3 rfl) ?_
                            refine va_get (D := (dC, dI)) (ci := 1) (v := .int 7) (C := RX1) (T := TX1) (N := 17) hx hb hts hin0 hown hK hP 0 rfl rfl 4 (by decide) fl47 (fun _ h9 => h9) rfl dX1_look_257 ?_
                            refine lv_bipush (v := 10) hx hb dX1_look_260 (by decide) ?_
                            refine lv_icmp_ne (tgt := 273) hx hb dX1_look_262 (by decide) (fun c_237 => ?_) (fun c_237 => ?_)
                            · skip
                              refine lv_aload_n hx hb dX1_look_273 rfl (lv_at hl 3 rfl) ?_
                              refine va_get (D := (dC, dI)) (ci := 1) (v := .int 7) (C := RX1) (T := TX1) (N := 17) hx hb hts hin0 hown hK hP 0 rfl rfl 4 (by decide) fl47 (fun _ h9 => h9) rfl dX1_look_274 ?_
                              refine lv_bipush (v := 11) hx hb dX1_look_277 (by decide) ?_
                              refine lv_icmp_ne (tgt := 294) hx hb dX1_look_279 (by decide) (fun c_238 => ?_) (fun c_238 => ?_)
                              · skip
                                have q7 : paL B a9 = 0 := by simp [paL, hp, hk]
                                refine lv_iload_n hx hb dX1_look_294 rfl (lv_at hl 4 rfl) ?_
                                refine lv_aload_n hx hb dX1_look_295 rfl (lv_at hl 3 rfl) ?_
                                refine va_get (D := (dC, dI)) (ci := 1) (v := .int (nI (hd (B a9)))) (C := RX1) (T := TX1) (N := 17) hx hb hts hin0 hown hK hP 0 rfl rfl 7 (by decide) fl50 (fun _ h9 => h9) rfl dX1_look_296 ?_
                                refine lv_iadd hx hb dX1_look_299 ?_
                                refine lv_i2l hx hb dX1_look_300 rfl ?_
                                refine lv_aload_n hx hb dX1_look_301 rfl (lv_at hl 3 rfl) ?_
                                refine va_get (D := (dC, dI)) (ci := 1) (v := .long 0) (C := RX1) (T := TX1) (N := 17) hx hb hts hin0 hown hK hP 0 rfl rfl 8 (by decide) fl68 (fun _ h9 => h9) rfl dX1_look_302 ?_
                                refine lv_ladd hx hb dX1_look_305 ?_
                                refine lv_aload_n hx hb dX1_look_306 rfl (lv_at hl 3 rfl) ?_
                                refine va_get (D := (dC, dI)) (ci := 1) (v := .int (nI n8)) (C := RX1) (T := TX1) (N := 17) hx hb hts hin0 hown hK hP 0 rfl rfl 2 (by decide) fl28 (fun _ h9 => h9) rfl dX1_look_307 ?_
                                refine lv_i2l hx hb dX1_look_310 rfl ?_
                                refine W.lcmp hx hb dX1_look_311 ?_
                                refine lv_if_le (tgt := 320) hx hb dX1_look_312 (by decide) (fun c_239 => ?_) (fun c_239 => ?_)
                                · skip
                                  have c_239 := (lg_cmp_le ((((nI a9) + (nI (hd (B a9)))).toInt64) + 0) ((nI n8).toInt64)).mp c_239
                                  refine lv_iconst (v := 0) hx hb dX1_look_320 (by decide) ?_
                                  have hP9 : va_P (dC, dI) vwCl ((fun (u : Int32 × Int64 × Int32 × Int32 × Int64 × Int64) => w1 h a b cI cJ f g zt (nI n8) zc u.1 u.2.1 u.2.2.1 u.2.2.2.1 u.2.2.2.2.1 u.2.2.2.2.2 zlk zlo zhi zlp zll zlv) ((7, nv B a9, 0, nI (hd (B a9)), 0, 0))) H := hP
                                  have hD9 : va_D A ((fun (u : Int32 × Int64 × Int32 × Int32 × Int64 × Int64) => w1 h a b cI cJ f g zt (nI n8) zc u.1 u.2.1 u.2.2.1 u.2.2.2.1 u.2.2.2.2.1 u.2.2.2.2.2 zlk zlo zhi zlp zll zlv) ((7, nv B a9, 0, nI (hd (B a9)), 0, 0))) := hD
                                  exact W.iret (v := 0) hx hb hr (fun t ht hW => ⟨⟨0, (7, nv B a9, 0, nI (hd (B a9)), 0, 0), rfl, (by have q8 := (lk_end hB hn8 q1 q2 q3 q6).1 (by rw [q7]; exact c_239); exact Or.inr ⟨by rw [q8]; exact nI_pos (by have := kd_le _ (hB a9); omega), rfl, by rw [hk]; rfl, rfl, fun z => absurd (hk.symm.trans z) (by decide), rfl, q7.symm, by simp [ch, hk]⟩), by rw [ht]; exact hP9, va_K.moved hW.alike hK, hD9⟩, hS.F ht⟩) hS.2.2 dX1_look_321
                                · skip
                                  have c_239 := (not_congr (lg_cmp_le ((((nI a9) + (nI (hd (B a9)))).toInt64) + 0) ((nI n8).toInt64))).mp c_239
                                  refine lv_bipush (v := -2) hx hb dX1_look_315 (by decide) ?_
                                  refine lv_goto (tgt := 321) hx hb dX1_look_317 (by decide) ?_
                                  have hP9 : va_P (dC, dI) vwCl ((fun (u : Int32 × Int64 × Int32 × Int32 × Int64 × Int64) => w1 h a b cI cJ f g zt (nI n8) zc u.1 u.2.1 u.2.2.1 u.2.2.2.1 u.2.2.2.2.1 u.2.2.2.2.2 zlk zlo zhi zlp zll zlv) ((7, nv B a9, 0, nI (hd (B a9)), 0, 0))) H := hP
                                  have hD9 : va_D A ((fun (u : Int32 × Int64 × Int32 × Int32 × Int64 × Int64) => w1 h a b cI cJ f g zt (nI n8) zc u.1 u.2.1 u.2.2.1 u.2.2.2.1 u.2.2.2.2.1 u.2.2.2.2.2 zlk zlo zhi zlp zll zlv) ((7, nv B a9, 0, nI (hd (B a9)), 0, 0))) := hD
                                  exact W.iret (v := -2) hx hb hr (fun t ht hW => ⟨⟨-2, (7, nv B a9, 0, nI (hd (B a9)), 0, 0), rfl, (lkneg ((lk_end hB hn8 q1 q2 q3 q6).2 (by rw [q7]; exact c_239)) (by decide)), by rw [ht]; exact hP9, va_K.moved hW.alike hK, hD9⟩, hS.F ht⟩) hS.2.2 dX1_look_321
                              · skip
                                exact absurd c_238 (by decide)
                            · skip
                              exact absurd c_237 (by decide)
                          · skip
                            exact absurd c_236 (by decide)
                    · skip
                      exact absurd (by decide) c_233
                  · skip
                    exact absurd (by decide) c_232
                · skip
                  exact absurd c_231 (by decide)
              · skip
                exact absurd c_230 (by decide)
            · skip
              have q5 : wd (B a9) = 0 := (nI_z (by omega)).mp c_225
              refine lv_iload_n hx hb dX1_look_84 rfl (lv_at hl 1 rfl) ?_
              refine gsl (As := [.int (nI (B a9))]) (rest := [.ref h]) ⟨hx, hb, hml, hown, hts⟩ (c_X1_ownNumber l dC dI tk tw _ (B a9) (hB a9)) (va_cwS 1 hts gX1_look_X1_ownNumber rfl rfl rfl (by decide +kernel) ⟨Nat.le_of_ble_eq_true rfl, Nat.le_of_ble_eq_true rfl⟩) hP hS hA hZ rfl hl.1 rfl (Nat.le_of_ble_eq_true rfl) dX1_look_85 ⟨Nat.le_of_ble_eq_true rfl, Nat.le_of_ble_eq_true rfl⟩ (fun r_241 H locs hw_240 hP hS => ?_)
              obtain rfl : r_241 = nv B a9 := hw_240.trans (nv_w0 q5).symm
              refine lv_goto (tgt := 99) hx hb dX1_look_88 (by decide) ?_
              refine va_put (D := (dC, dI)) (ci := 1) (v := .long (nv B a9)) (ty := .long) (C := RX1) (T := TX1) (N := 17) hx hb hts hin0 tyX1 tyX1_ok nmX1 hown hK hP hD hS 0 rfl rfl 5 (by decide) fl61 (fun _ h9 => h9) rfl (by decide +kernel) rfl rfl (Nat.le_of_ble_eq_true rfl) dX1_look_99 (fun H locs hP hD hS => ?_)
              have hP : va_P (dC, dI) vwCl (w1 h a b cI cJ f g zt (nI n8) zc 7 (nv B a9) zty (nI (hd (B a9))) zpa zch zlk zlo zhi zlp zll zlv) H := hP
              have hD : va_D A (w1 h a b cI cJ f g zt (nI n8) zc 7 (nv B a9) zty (nI (hd (B a9))) zpa zch zlk zlo zhi zlp zll zlv) := hD
              refine lv_aload_n hx hb dX1_look_102 rfl (lv_at hl 2 rfl) ?_
              refine va_get (D := (dC, dI)) (ci := 1) (v := .int 7) (C := RX1) (T := TX1) (N := 17) hx hb hts hin0 hown hK hP 0 rfl rfl 4 (by decide) fl47 (fun _ h9 => h9) rfl dX1_look_103 ?_
              refine lv_iconst (v := 5) hx hb dX1_look_106 (by decide) ?_
              refine lv_icmp_ne (tgt := 138) hx hb dX1_look_107 (by decide) (fun c_242 => ?_) (fun c_242 => ?_)
              · skip
                refine lv_aload_n hx hb dX1_look_138 rfl (lv_at hl 2 rfl) ?_
                refine va_get (D := (dC, dI)) (ci := 1) (v := .int 7) (C := RX1) (T := TX1) (N := 17) hx hb hts hin0 hown hK hP 0 rfl rfl 4 (by decide) fl47 (fun _ h9 => h9) rfl dX1_look_139 ?_
                refine lv_bipush (v := 12) hx hb dX1_look_142 (by decide) ?_
                refine lv_icmp_ne (tgt := 163) hx hb dX1_look_144 (by decide) (fun c_243 => ?_) (fun c_243 => ?_)
                · skip
                  refine lv_iconst (v := 0) hx hb dX1_look_163 (by decide) ?_
                  refine lv_istore (lv' := [(4, .int 0), (3, .int (nI (wd (B a9)))), (2, .int (nI (B a9))), (0, .ref h), (1, .int (nI a9))]) hx hb dX1_look_164 hl (by decide) rfl (fun ls hl => ?_)
                  refine lv_aload_n hx hb dX1_look_166 rfl (lv_at hl 3 rfl) ?_
                  refine lv_iload hx hb dX1_look_167 (lv_at hl 0 rfl) ?_
                  refine lv_bipush (v := 127) hx hb dX1_look_169 (by decide) ?_
                  refine lv_icmp_le (tgt := 183) hx hb dX1_look_171 (by decide) (fun c_244 => ?_) (fun c_244 => ?_)
                  · skip
                    refine lv_iload hx hb dX1_look_183 (lv_at hl 0 rfl) ?_
                    refine va_put (D := (dC, dI)) (ci := 1) (v := .int 0) (ty := .int) (C := RX1) (T := TX1) (N := 17) hx hb hts hin0 tyX1 tyX1_ok nmX1 hown hK hP hD hS 0 rfl rfl 6 (by decide) fl65 (fun _ h9 => h9) rfl (by decide +kernel) rfl rfl (Nat.le_of_ble_eq_true rfl) dX1_look_185 (fun H locs hP hD hS => ?_)
                    have hP : va_P (dC, dI) vwCl (w1 h a b cI cJ f g zt (nI n8) zc 7 (nv B a9) 0 (nI (hd (B a9))) zpa zch zlk zlo zhi zlp zll zlv) H := hP
                    have hD : va_D A (w1 h a b cI cJ f g zt (nI n8) zc 7 (nv B a9) 0 (nI (hd (B a9))) zpa zch zlk zlo zhi zlp zll zlv) := hD
                    refine lv_aload_n hx hb dX1_look_188 rfl (lv_at hl 3 rfl) ?_
                    refine lv_lconst (v := 0) hx hb dX1_look_189 (by decide) ?_
                    refine va_put (D := (dC, dI)) (ci := 1) (v := .long 0) (ty := .long) (C := RX1) (T := TX1) (N := 17) hx hb hts hin0 tyX1 tyX1_ok nmX1 hown hK hP hD hS 0 rfl rfl 8 (by decide) fl68 (fun _ h9 => h9) rfl (by decide +kernel) rfl rfl (Nat.le_of_ble_eq_true rfl) dX1_look_190 (fun H locs hP hD hS => ?_)
                    have hP : va_P (dC, dI) vwCl (w1 h a b cI cJ f g zt (nI n8) zc 7 (nv B a9) 0 (nI (hd (B a9))) 0 zch zlk zlo zhi zlp zll zlv) H := hP
                    have hD : va_D A (w1 h a b cI cJ f g zt (nI n8) zc 7 (nv B a9) 0 (nI (hd (B a9))) 0 zch zlk zlo zhi zlp zll zlv) := hD
                    refine lv_aload_n hx hb dX1_look_193 rfl (lv_at hl 3 rfl) ?_
                    refine lv_lconst (v := 0) hx hb dX1_look_194 (by decide) ?_
                    refine va_put (D := (dC, dI)) (ci := 1) (v := .long 0) (ty := .long) (C := RX1) (T := TX1) (N := 17) hx hb hts hin0 tyX1 tyX1_ok nmX1 hown hK hP hD hS 0 rfl rfl 9 (by decide) fl71 (fun _ h9 => h9) rfl (by decide +kernel) rfl rfl (Nat.le_of_ble_eq_true rfl) dX1_look_195 (fun H locs hP hD hS => ?_)
                    have hP : va_P (dC, dI) vwCl (w1 h a b cI cJ f g zt (nI n8) zc 7 (nv B a9) 0 (nI (hd (B a9))) 0 0 zlk zlo zhi zlp zll zlv) H := hP
                    have hD : va_D A (w1 h a b cI cJ f g zt (nI n8) zc 7 (nv B a9) 0 (nI (hd (B a9))) 0 0 zlk zlo zhi zlp zll zlv) := hD
                    refine lv_aload_n hx hb dX1_look_198 rfl (lv_at hl 3 rfl) ?_
                    refine va_get (D := (dC, dI)) (ci := 1) (v := .int 7) (C := RX1) (T := TX1) (N := 17) hx hb hts hin0 hown hK hP 0 rfl rfl 4 (by decide) fl47 (fun _ h9 => h9) rfl dX1_look_199 ?_
                    refine lv_bipush (v := 7) hx hb dX1_look_202 (by decide) ?_
                    refine lv_icmp_le (tgt := 221) hx hb dX1_look_204 (by decide) (fun c_245 => ?_) (fun c_245 => ?_)
                    · skip
                      have q6 : 8 ≤ kd (B a9) → nv B a9 ≤ 2147483647 := fun z => absurd z (by rw [hk]; decide)
                      refine lv_aload_n hx hb dX1_look_221 rfl (lv_at hl 3 rfl) ?_
                      refine va_get (D := (dC, dI)) (ci := 1) (v := .int 7) (C := RX1) (T := TX1) (N := 17) hx hb hts hin0 hown hK hP 0 rfl rfl 4 (by decide) fl47 (fun _ h9 => h9) rfl dX1_look_222 ?_
                      refine lv_bipush (v := 8) hx hb dX1_look_225 (by decide) ?_
                      refine lv_icmp_eq (tgt := 248) hx hb dX1_look_227 (by decide) (fun c_246 => ?_) (fun c_246 => ?_)
                      · skip
                        exact absurd c_246 (by decide)
                      · skip
                        refine lv_aload_n hx hb dX1_look_230 rfl (lv_at hl 3 rfl) ?_
                        refine va_get (D := (dC, dI)) (ci := 1) (v := .int 7) (C := RX1) (T := TX1) (N := 17) hx hb hts hin0 hown hK hP 0 rfl rfl 4 (by decide) fl47 (fun _ h9 => h9) rfl dX1_look_231 ?_
                        refine lv_bipush (v := 9) hx hb dX1_look_234 (by decide) ?_
                        refine lv_icmp_eq (tgt := 248) hx hb dX1_look_236 (by decide) (fun c_247 => ?_) (fun c_247 => ?_)
                        · skip
                          exact absurd c_247 (by decide)
                        · skip
                          refine lv_aload_n hx hb dX1_look_239 rfl (lv_at hl 3 rfl) ?_
                          refine va_get (D := (dC, dI)) (ci := 1) (v := .int 7) (C := RX1) (T := TX1) (N := 17) hx hb hts hin0 hown hK hP 0 rfl rfl 4 (by decide) fl47 (fun _ h9 => h9) rfl dX1_look_240 ?_
                          refine lv_bipush (v := 12) hx hb dX1_look_243 (by decide) ?_
                          refine lv_icmp_ne (tgt := 256) hx hb dX1_look_245 (by decide) (fun c_248 => ?_) (fun c_248 => ?_)
                          · skip
                            refine lv_aload_n hx hb dX1_look_256 rfl (lv_at hl 3 rfl) ?_
                            refine va_get (D := (dC, dI)) (ci := 1) (v := .int 7) (C := RX1) (T := TX1) (N := 17) hx hb hts hin0 hown hK hP 0 rfl rfl 4 (by decide) fl47 (fun _ h9 => h9) rfl dX1_look_257 ?_
                            refine lv_bipush (v := 10) hx hb dX1_look_260 (by decide) ?_
                            refine lv_icmp_ne (tgt := 273) hx hb dX1_look_262 (by decide) (fun c_249 => ?_) (fun c_249 => ?_)
                            · skip
                              refine lv_aload_n hx hb dX1_look_273 rfl (lv_at hl 3 rfl) ?_
                              refine va_get (D := (dC, dI)) (ci := 1) (v := .int 7) (C := RX1) (T := TX1) (N := 17) hx hb hts hin0 hown hK hP 0 rfl rfl 4 (by decide) fl47 (fun _ h9 => h9) rfl dX1_look_274 ?_
                              refine lv_bipush (v := 11) hx hb dX1_look_277 (by decide) ?_
                              refine lv_icmp_ne (tgt := 294) hx hb dX1_look_279 (by decide) (fun c_250 => ?_) (fun c_250 => ?_)
                              · skip
                                have q7 : paL B a9 = 0 := by simp [paL, hp, hk]
                                refine lv_iload_n hx hb dX1_look_294 rfl (lv_at hl 4 rfl) ?_
                                refine lv_aload_n hx hb dX1_look_295 rfl (lv_at hl 3 rfl) ?_
                                refine va_get (D := (dC, dI)) (ci := 1) (v := .int (nI (hd (B a9)))) (C := RX1) (T := TX1) (N := 17) hx hb hts hin0 hown hK hP 0 rfl rfl 7 (by decide) fl50 (fun _ h9 => h9) rfl dX1_look_296 ?_
                                refine lv_iadd hx hb dX1_look_299 ?_
                                refine lv_i2l hx hb dX1_look_300 rfl ?_
                                refine lv_aload_n hx hb dX1_look_301 rfl (lv_at hl 3 rfl) ?_
                                refine va_get (D := (dC, dI)) (ci := 1) (v := .long 0) (C := RX1) (T := TX1) (N := 17) hx hb hts hin0 hown hK hP 0 rfl rfl 8 (by decide) fl68 (fun _ h9 => h9) rfl dX1_look_302 ?_
                                refine lv_ladd hx hb dX1_look_305 ?_
                                refine lv_aload_n hx hb dX1_look_306 rfl (lv_at hl 3 rfl) ?_
                                refine va_get (D := (dC, dI)) (ci := 1) (v := .int (nI n8)) (C := RX1) (T := TX1) (N := 17) hx hb hts hin0 hown hK hP 0 rfl rfl 2 (by decide) fl28 (fun _ h9 => h9) rfl dX1_look_307 ?_
                                refine lv_i2l hx hb dX1_look_310 rfl ?_
                                refine W.lcmp hx hb dX1_look_311 ?_
                                refine lv_if_le (tgt := 320) hx hb dX1_look_312 (by decide) (fun c_251 => ?_) (fun c_251 => ?_)
                                · skip
                                  have c_251 := (lg_cmp_le ((((nI a9) + (nI (hd (B a9)))).toInt64) + 0) ((nI n8).toInt64)).mp c_251
                                  refine lv_iconst (v := 0) hx hb dX1_look_320 (by decide) ?_
                                  have hP9 : va_P (dC, dI) vwCl ((fun (u : Int32 × Int64 × Int32 × Int32 × Int64 × Int64) => w1 h a b cI cJ f g zt (nI n8) zc u.1 u.2.1 u.2.2.1 u.2.2.2.1 u.2.2.2.2.1 u.2.2.2.2.2 zlk zlo zhi zlp zll zlv) ((7, nv B a9, 0, nI (hd (B a9)), 0, 0))) H := hP
                                  have hD9 : va_D A ((fun (u : Int32 × Int64 × Int32 × Int32 × Int64 × Int64) => w1 h a b cI cJ f g zt (nI n8) zc u.1 u.2.1 u.2.2.1 u.2.2.2.1 u.2.2.2.2.1 u.2.2.2.2.2 zlk zlo zhi zlp zll zlv) ((7, nv B a9, 0, nI (hd (B a9)), 0, 0))) := hD
                                  exact W.iret (v := 0) hx hb hr (fun t ht hW => ⟨⟨0, (7, nv B a9, 0, nI (hd (B a9)), 0, 0), rfl, (by have q8 := (lk_end hB hn8 q1 q2 q3 q6).1 (by rw [q7]; exact c_251); exact Or.inr ⟨by rw [q8]; exact nI_pos (by have := kd_le _ (hB a9); omega), rfl, by rw [hk]; rfl, rfl, fun z => absurd (hk.symm.trans z) (by decide), rfl, q7.symm, by simp [ch, hk]⟩), by rw [ht]; exact hP9, va_K.moved hW.alike hK, hD9⟩, hS.F ht⟩) hS.2.2 dX1_look_321
                                · skip
                                  have c_251 := (not_congr (lg_cmp_le ((((nI a9) + (nI (hd (B a9)))).toInt64) + 0) ((nI n8).toInt64))).mp c_251
                                  refine lv_bipush (v := -2) hx hb dX1_look_315 (by decide) ?_
                                  refine lv_goto (tgt := 321) hx hb dX1_look_317 (by decide) ?_
                                  have hP9 : va_P (dC, dI) vwCl ((fun (u : Int32 × Int64 × Int32 × Int32 × Int64 × Int64) => w1 h a b cI cJ f g zt (nI n8) zc u.1 u.2.1 u.2.2.1 u.2.2.2.1 u.2.2.2.2.1 u.2.2.2.2.2 zlk zlo zhi zlp zll zlv) ((7, nv B a9, 0, nI (hd (B a9)), 0, 0))) H := hP
                                  have hD9 : va_D A ((fun (u : Int32 × Int64 × Int32 × Int32 × Int64 × Int64) => w1 h a b cI cJ f g zt (nI n8) zc u.1 u.2.1 u.2.2.1 u.2.2.2.1 u.2.2.2.2.1 u.2.2.2.2.2 zlk zlo zhi zlp zll zlv) ((7, nv B a9, 0, nI (hd (B a9)), 0, 0))) := hD
                                  exact W.iret (v := -2) hx hb hr (fun t ht hW => ⟨⟨-2, (7, nv B a9, 0, nI (hd (B a9)), 0, 0), rfl, (lkneg ((lk_end hB hn8 q1 q2 q3 q6).2 (by rw [q7]; exact c_251)) (by decide)), by rw [ht]; exact hP9, va_K.moved hW.alike hK, hD9⟩, hS.F ht⟩) hS.2.2 dX1_look_321
                              · skip
                                exact absurd c_250 (by decide)
                            · skip
                              exact absurd c_249 (by decide)
                          · skip
                            exact absurd c_248 (by decide)
                    · skip
                      exact absurd (by decide) c_245
                  · skip
                    exact absurd (by decide) c_244
                · skip
                  exact absurd c_243 (by decide)
              · skip
                exact absurd c_242 (by decide)
          · skip
            refine lv_bipush (v := -2) hx hb dX1_look_76 (by decide) ?_
            have hP9 : va_P (dC, dI) vwCl ((fun (u : Int32 × Int64 × Int32 × Int32 × Int64 × Int64) => w1 h a b cI cJ f g zt (nI n8) zc u.1 u.2.1 u.2.2.1 u.2.2.2.1 u.2.2.2.2.1 u.2.2.2.2.2 zlk zlo zhi zlp zll zlv) ((7, znu, zty, nI (hd (B a9)), zpa, zch))) H := hP
            have hD9 : va_D A ((fun (u : Int32 × Int64 × Int32 × Int32 × Int64 × Int64) => w1 h a b cI cJ f g zt (nI n8) zc u.1 u.2.1 u.2.2.1 u.2.2.2.1 u.2.2.2.2.1 u.2.2.2.2.2 zlk zlo zhi zlp zll zlv) ((7, znu, zty, nI (hd (B a9)), zpa, zch))) := hD
            exact W.iret (v := -2) hx hb hr (fun t ht hW => ⟨⟨-2, (7, znu, zty, nI (hd (B a9)), zpa, zch), rfl, (lkneg (lk3 hB hn8 q1 q2 (by have q4 := hd_le _ (hB a9); have z := (not_congr (nI_leI (a := a9 + hd (B a9)) (b := n8) (by omega) (by omega))).mp c_224; omega)) (by decide)), by rw [ht]; exact hP9, va_K.moved hW.alike hK, hD9⟩, hS.F ht⟩) hS.2.2 dX1_look_78
        · skip
          exact absurd c_221 (by decide)
      · skip
        have q2 : ¬ B a9 = 193 := fun z => c_3 (by rw [z]; rfl)
        refine lv_iload_n hx hb dX1_look_28 rfl (lv_at hl 0 rfl) ?_
        refine gsi (As := [.int (nI (B a9))]) (rest := []) ⟨hx, hb, hml, hown, hts⟩ (c_X1_widthOf l dC dI tk tw _ (B a9) (hB a9)) (va_cwS 1 hts gX1_look_X1_widthOf rfl rfl rfl (by decide +kernel) ⟨Nat.le_of_ble_eq_true rfl, Nat.le_of_ble_eq_true rfl⟩) hP hS hA hZ rfl hl.1 rfl (Nat.le_of_ble_eq_true rfl) dX1_look_29 ⟨Nat.le_of_ble_eq_true rfl, Nat.le_of_ble_eq_true rfl⟩ (fun r_253 H locs hw_252 hP hS => ?_)
        obtain rfl : r_253 = nI (wd (B a9)) := hw_252
        refine lv_istore_n (lv' := [(3, .int (nI (wd (B a9)))), (2, .int (nI (B a9))), (0, .ref h), (1, .int (nI a9))]) hx hb dX1_look_32 rfl hl (by decide) rfl (fun ls hl => ?_)
        refine lv_aload_n hx hb dX1_look_33 rfl (lv_at hl 2 rfl) ?_
        refine lv_iload_n hx hb dX1_look_34 rfl (lv_at hl 1 rfl) ?_
        refine gsi (As := [.int (nI (B a9))]) (rest := [.ref h]) ⟨hx, hb, hml, hown, hts⟩ (c_X1_kindOf l dC dI tk tw _ (B a9) (hB a9) q2) (va_cwS 1 hts gX1_look_X1_kindOf rfl rfl rfl (by decide +kernel) ⟨Nat.le_of_ble_eq_true rfl, Nat.le_of_ble_eq_true rfl⟩) hP hS hA hZ rfl hl.1 rfl (Nat.le_of_ble_eq_true rfl) dX1_look_35 ⟨Nat.le_of_ble_eq_true rfl, Nat.le_of_ble_eq_true rfl⟩ (fun r_255 H locs hw_254 hP hS => ?_)
        obtain rfl : r_255 = 8 := hw_254.trans (by rw [hk]; rfl)
        refine va_put (D := (dC, dI)) (ci := 1) (v := .int 8) (ty := .int) (C := RX1) (T := TX1) (N := 17) hx hb hts hin0 tyX1 tyX1_ok nmX1 hown hK hP hD hS 0 rfl rfl 4 (by decide) fl47 (fun _ h9 => h9) rfl (by decide +kernel) rfl rfl (Nat.le_of_ble_eq_true rfl) dX1_look_38 (fun H locs hP hD hS => ?_)
        have hP : va_P (dC, dI) vwCl (w1 h a b cI cJ f g zt (nI n8) zc 8 znu zty zhd zpa zch zlk zlo zhi zlp zll zlv) H := hP
        have hD : va_D A (w1 h a b cI cJ f g zt (nI n8) zc 8 znu zty zhd zpa zch zlk zlo zhi zlp zll zlv) := hD
        refine lv_aload_n hx hb dX1_look_41 rfl (lv_at hl 2 rfl) ?_
        refine lv_iconst (v := 1) hx hb dX1_look_42 (by decide) ?_
        refine lv_iload_n hx hb dX1_look_43 rfl (lv_at hl 0 rfl) ?_
        refine lv_iadd hx hb dX1_look_44 ?_
        refine lv_aload_n hx hb dX1_look_45 rfl (lv_at hl 2 rfl) ?_
        refine va_get (D := (dC, dI)) (ci := 1) (v := .int 8) (C := RX1) (T := TX1) (N := 17) hx hb hts hin0 hown hK hP 0 rfl rfl 4 (by decide) fl47 (fun _ h9 => h9) rfl dX1_look_46 ?_
        refine lv_bipush (v := 12) hx hb dX1_look_49 (by decide) ?_
        refine lv_icmp_ne (tgt := 58) hx hb dX1_look_51 (by decide) (fun c_256 => ?_) (fun c_256 => ?_)
        · skip
          refine lv_iconst (v := 0) hx hb dX1_look_58 (by decide) ?_
          refine lv_iadd hx hb dX1_look_59 ?_
          have e_257 : ((1 + (nI (wd (B a9)))) + 0 : Int32) = nI (hd (B a9)) := hdn (by rw [hk]; decide)
          rw [e_257]
          refine va_put (D := (dC, dI)) (ci := 1) (v := .int (nI (hd (B a9)))) (ty := .int) (C := RX1) (T := TX1) (N := 17) hx hb hts hin0 tyX1 tyX1_ok nmX1 hown hK hP hD hS 0 rfl rfl 7 (by decide) fl50 (fun _ h9 => h9) rfl (by decide +kernel) rfl rfl (Nat.le_of_ble_eq_true rfl) dX1_look_60 (fun H locs hP hD hS => ?_)
          have hP : va_P (dC, dI) vwCl (w1 h a b cI cJ f g zt (nI n8) zc 8 znu zty (nI (hd (B a9))) zpa zch zlk zlo zhi zlp zll zlv) H := hP
          have hD : va_D A (w1 h a b cI cJ f g zt (nI n8) zc 8 znu zty (nI (hd (B a9))) zpa zch zlk zlo zhi zlp zll zlv) := hD
          refine lv_iload_n hx hb dX1_look_63 rfl (lv_at hl 3 rfl) ?_
          refine lv_aload_n hx hb dX1_look_64 rfl (lv_at hl 2 rfl) ?_
          refine va_get (D := (dC, dI)) (ci := 1) (v := .int (nI (hd (B a9)))) (C := RX1) (T := TX1) (N := 17) hx hb hts hin0 hown hK hP 0 rfl rfl 7 (by decide) fl50 (fun _ h9 => h9) rfl dX1_look_65 ?_
          refine lv_iadd hx hb dX1_look_68 ?_
          have e_258 : ((nI a9) + (nI (hd (B a9))) : Int32) = nI (a9 + hd (B a9)) := nI_add _ _
          rw [e_258]
          refine lv_aload_n hx hb dX1_look_69 rfl (lv_at hl 2 rfl) ?_
          refine va_get (D := (dC, dI)) (ci := 1) (v := .int (nI n8)) (C := RX1) (T := TX1) (N := 17) hx hb hts hin0 hown hK hP 0 rfl rfl 2 (by decide) fl28 (fun _ h9 => h9) rfl dX1_look_70 ?_
          refine lv_icmp_le (tgt := 79) hx hb dX1_look_73 (by decide) (fun c_259 => ?_) (fun c_259 => ?_)
          · skip
            have q4 := hd_le _ (hB a9)
            have q3 : a9 + hd (B a9) ≤ n8 := (nI_leI (by omega) (by omega)).mp c_259
            refine lv_aload_n hx hb dX1_look_79 rfl (lv_at hl 2 rfl) ?_
            refine lv_iload_n hx hb dX1_look_80 rfl (lv_at hl 0 rfl) ?_
            refine lv_if_ne (tgt := 91) hx hb dX1_look_81 (by decide) (fun c_260 => ?_) (fun c_260 => ?_)
            · skip
              have q5 : ¬ wd (B a9) = 0 := fun z => c_260 (by rw [z]; rfl)
              refine lv_aload_n hx hb dX1_look_91 rfl (lv_at hl 2 rfl) ?_
              refine lv_iload_n hx hb dX1_look_92 rfl (lv_at hl 3 rfl) ?_
              refine lv_iconst (v := 1) hx hb dX1_look_93 (by decide) ?_
              refine lv_iadd hx hb dX1_look_94 ?_
              refine lv_iload_n hx hb dX1_look_95 rfl (lv_at hl 0 rfl) ?_
              have e_263 : ((nI a9) + 1 : Int32) = nI (a9 + 1) := nI_1 a9
              rw [e_263]
              refine gvl (As := [.int (nI (a9 + 1)), .int (nI (wd (B a9)))]) (rest := [.ref h]) ⟨hx, hb, hml, hown, hts⟩ (c_X1_numberAt l dC dI tk tw h a b cI cJ _ f g zt (nI n8) zc 8 znu zty (nI (hd (B a9))) zpa zch zlk zlo zhi zlp zll zlv B (a9 + 1) (wd (B a9)) (by omega) (fun j hj => hf9 j (by omega))) (cwV 2 hts gX1_look_X1_numberAt rfl rfl rfl (by decide +kernel) ⟨Nat.le_of_ble_eq_true rfl, Nat.le_of_ble_eq_true rfl⟩) hK hP hD hS hA hZ (q0 := 0) (ci := 1) rfl rfl rfl rfl hl.1 rfl (Nat.le_of_ble_eq_true rfl) dX1_look_96 ⟨Nat.le_of_ble_eq_true rfl, Nat.le_of_ble_eq_true rfl⟩ (fun r_262 u_264 H locs hw_261 hP hD hS => ?_)
              obtain rfl : r_262 = nv B a9 := hw_261.trans (nv_w1 q5 (by rw [hk]; decide)).symm
              refine va_put (D := (dC, dI)) (ci := 1) (v := .long (nv B a9)) (ty := .long) (C := RX1) (T := TX1) (N := 17) hx hb hts hin0 tyX1 tyX1_ok nmX1 hown hK hP hD hS 0 rfl rfl 5 (by decide) fl61 (fun _ h9 => h9) rfl (by decide +kernel) rfl rfl (Nat.le_of_ble_eq_true rfl) dX1_look_99 (fun H locs hP hD hS => ?_)
              have hP : va_P (dC, dI) vwCl (w1 h a b cI cJ f g zt (nI n8) zc 8 (nv B a9) zty (nI (hd (B a9))) zpa zch zlk zlo zhi zlp zll zlv) H := hP
              have hD : va_D A (w1 h a b cI cJ f g zt (nI n8) zc 8 (nv B a9) zty (nI (hd (B a9))) zpa zch zlk zlo zhi zlp zll zlv) := hD
              refine lv_aload_n hx hb dX1_look_102 rfl (lv_at hl 2 rfl) ?_
              refine va_get (D := (dC, dI)) (ci := 1) (v := .int 8) (C := RX1) (T := TX1) (N := 17) hx hb hts hin0 hown hK hP 0 rfl rfl 4 (by decide) fl47 (fun _ h9 => h9) rfl dX1_look_103 ?_
              refine lv_iconst (v := 5) hx hb dX1_look_106 (by decide) ?_
              refine lv_icmp_ne (tgt := 138) hx hb dX1_look_107 (by decide) (fun c_265 => ?_) (fun c_265 => ?_)
              · skip
                refine lv_aload_n hx hb dX1_look_138 rfl (lv_at hl 2 rfl) ?_
                refine va_get (D := (dC, dI)) (ci := 1) (v := .int 8) (C := RX1) (T := TX1) (N := 17) hx hb hts hin0 hown hK hP 0 rfl rfl 4 (by decide) fl47 (fun _ h9 => h9) rfl dX1_look_139 ?_
                refine lv_bipush (v := 12) hx hb dX1_look_142 (by decide) ?_
                refine lv_icmp_ne (tgt := 163) hx hb dX1_look_144 (by decide) (fun c_266 => ?_) (fun c_266 => ?_)
                · skip
                  refine lv_iconst (v := 0) hx hb dX1_look_163 (by decide) ?_
                  refine lv_istore (lv' := [(4, .int 0), (3, .int (nI (wd (B a9)))), (2, .int (nI (B a9))), (0, .ref h), (1, .int (nI a9))]) hx hb dX1_look_164 hl (by decide) rfl (fun ls hl => ?_)
                  refine lv_aload_n hx hb dX1_look_166 rfl (lv_at hl 3 rfl) ?_
                  refine lv_iload hx hb dX1_look_167 (lv_at hl 0 rfl) ?_
                  refine lv_bipush (v := 127) hx hb dX1_look_169 (by decide) ?_
                  refine lv_icmp_le (tgt := 183) hx hb dX1_look_171 (by decide) (fun c_267 => ?_) (fun c_267 => ?_)
                  · skip
                    refine lv_iload hx hb dX1_look_183 (lv_at hl 0 rfl) ?_
                    refine va_put (D := (dC, dI)) (ci := 1) (v := .int 0) (ty := .int) (C := RX1) (T := TX1) (N := 17) hx hb hts hin0 tyX1 tyX1_ok nmX1 hown hK hP hD hS 0 rfl rfl 6 (by decide) fl65 (fun _ h9 => h9) rfl (by decide +kernel) rfl rfl (Nat.le_of_ble_eq_true rfl) dX1_look_185 (fun H locs hP hD hS => ?_)
                    have hP : va_P (dC, dI) vwCl (w1 h a b cI cJ f g zt (nI n8) zc 8 (nv B a9) 0 (nI (hd (B a9))) zpa zch zlk zlo zhi zlp zll zlv) H := hP
                    have hD : va_D A (w1 h a b cI cJ f g zt (nI n8) zc 8 (nv B a9) 0 (nI (hd (B a9))) zpa zch zlk zlo zhi zlp zll zlv) := hD
                    refine lv_aload_n hx hb dX1_look_188 rfl (lv_at hl 3 rfl) ?_
                    refine lv_lconst (v := 0) hx hb dX1_look_189 (by decide) ?_
                    refine va_put (D := (dC, dI)) (ci := 1) (v := .long 0) (ty := .long) (C := RX1) (T := TX1) (N := 17) hx hb hts hin0 tyX1 tyX1_ok nmX1 hown hK hP hD hS 0 rfl rfl 8 (by decide) fl68 (fun _ h9 => h9) rfl (by decide +kernel) rfl rfl (Nat.le_of_ble_eq_true rfl) dX1_look_190 (fun H locs hP hD hS => ?_)
                    have hP : va_P (dC, dI) vwCl (w1 h a b cI cJ f g zt (nI n8) zc 8 (nv B a9) 0 (nI (hd (B a9))) 0 zch zlk zlo zhi zlp zll zlv) H := hP
                    have hD : va_D A (w1 h a b cI cJ f g zt (nI n8) zc 8 (nv B a9) 0 (nI (hd (B a9))) 0 zch zlk zlo zhi zlp zll zlv) := hD
                    refine lv_aload_n hx hb dX1_look_193 rfl (lv_at hl 3 rfl) ?_
                    refine lv_lconst (v := 0) hx hb dX1_look_194 (by decide) ?_
                    refine va_put (D := (dC, dI)) (ci := 1) (v := .long 0) (ty := .long) (C := RX1) (T := TX1) (N := 17) hx hb hts hin0 tyX1 tyX1_ok nmX1 hown hK hP hD hS 0 rfl rfl 9 (by decide) fl71 (fun _ h9 => h9) rfl (by decide +kernel) rfl rfl (Nat.le_of_ble_eq_true rfl) dX1_look_195 (fun H locs hP hD hS => ?_)
                    have hP : va_P (dC, dI) vwCl (w1 h a b cI cJ f g zt (nI n8) zc 8 (nv B a9) 0 (nI (hd (B a9))) 0 0 zlk zlo zhi zlp zll zlv) H := hP
                    have hD : va_D A (w1 h a b cI cJ f g zt (nI n8) zc 8 (nv B a9) 0 (nI (hd (B a9))) 0 0 zlk zlo zhi zlp zll zlv) := hD
                    refine lv_aload_n hx hb dX1_look_198 rfl (lv_at hl 3 rfl) ?_
                    refine va_get (D := (dC, dI)) (ci := 1) (v := .int 8) (C := RX1) (T := TX1) (N := 17) hx hb hts hin0 hown hK hP 0 rfl rfl 4 (by decide) fl47 (fun _ h9 => h9) rfl dX1_look_199 ?_
                    refine lv_bipush (v := 7) hx hb dX1_look_202 (by decide) ?_
                    refine lv_icmp_le (tgt := 221) hx hb dX1_look_204 (by decide) (fun c_268 => ?_) (fun c_268 => ?_)
                    · skip
                      exact absurd c_268 (by decide)
                    · skip
                      refine lv_aload_n hx hb dX1_look_207 rfl (lv_at hl 3 rfl) ?_
                      refine va_get (D := (dC, dI)) (ci := 1) (v := .long (nv B a9)) (C := RX1) (T := TX1) (N := 17) hx hb hts hin0 hown hK hP 0 rfl rfl 5 (by decide) fl61 (fun _ h9 => h9) rfl dX1_look_208 ?_
                      refine lv_ldc2 (v := 2147483647) hx hb hown (hts (.constantLong RX1 74 (2147483647)) (by decide +kernel)) dX1_look_211 ?_
                      refine W.lcmp hx hb dX1_look_214 ?_
                      refine lv_if_le (tgt := 221) hx hb dX1_look_215 (by decide) (fun c_269 => ?_) (fun c_269 => ?_)
                      · skip
                        have c_269 := (lg_cmp_le (nv B a9) (2147483647 : Int64)).mp c_269
                        have q6 : 8 ≤ kd (B a9) → nv B a9 ≤ 2147483647 := fun _ => c_269
                        refine lv_aload_n hx hb dX1_look_221 rfl (lv_at hl 3 rfl) ?_
                        refine va_get (D := (dC, dI)) (ci := 1) (v := .int 8) (C := RX1) (T := TX1) (N := 17) hx hb hts hin0 hown hK hP 0 rfl rfl 4 (by decide) fl47 (fun _ h9 => h9) rfl dX1_look_222 ?_
                        refine lv_bipush (v := 8) hx hb dX1_look_225 (by decide) ?_
                        refine lv_icmp_eq (tgt := 248) hx hb dX1_look_227 (by decide) (fun c_270 => ?_) (fun c_270 => ?_)
                        · skip
                          refine lv_aload_n hx hb dX1_look_248 rfl (lv_at hl 3 rfl) ?_
                          refine lv_aload_n hx hb dX1_look_249 rfl (lv_at hl 3 rfl) ?_
                          refine va_get (D := (dC, dI)) (ci := 1) (v := .long (nv B a9)) (C := RX1) (T := TX1) (N := 17) hx hb hts hin0 hown hK hP 0 rfl rfl 5 (by decide) fl61 (fun _ h9 => h9) rfl dX1_look_250 ?_
                          refine va_put (D := (dC, dI)) (ci := 1) (v := .long (nv B a9)) (ty := .long) (C := RX1) (T := TX1) (N := 17) hx hb hts hin0 tyX1 tyX1_ok nmX1 hown hK hP hD hS 0 rfl rfl 8 (by decide) fl68 (fun _ h9 => h9) rfl (by decide +kernel) rfl rfl (Nat.le_of_ble_eq_true rfl) dX1_look_253 (fun H locs hP hD hS => ?_)
                          have hP : va_P (dC, dI) vwCl (w1 h a b cI cJ f g zt (nI n8) zc 8 (nv B a9) 0 (nI (hd (B a9))) (nv B a9) 0 zlk zlo zhi zlp zll zlv) H := hP
                          have hD : va_D A (w1 h a b cI cJ f g zt (nI n8) zc 8 (nv B a9) 0 (nI (hd (B a9))) (nv B a9) 0 zlk zlo zhi zlp zll zlv) := hD
                          refine lv_aload_n hx hb dX1_look_256 rfl (lv_at hl 3 rfl) ?_
                          refine va_get (D := (dC, dI)) (ci := 1) (v := .int 8) (C := RX1) (T := TX1) (N := 17) hx hb hts hin0 hown hK hP 0 rfl rfl 4 (by decide) fl47 (fun _ h9 => h9) rfl dX1_look_257 ?_
                          refine lv_bipush (v := 10) hx hb dX1_look_260 (by decide) ?_
                          refine lv_icmp_ne (tgt := 273) hx hb dX1_look_262 (by decide) (fun c_271 => ?_) (fun c_271 => ?_)
                          · skip
                            refine lv_aload_n hx hb dX1_look_273 rfl (lv_at hl 3 rfl) ?_
                            refine va_get (D := (dC, dI)) (ci := 1) (v := .int 8) (C := RX1) (T := TX1) (N := 17) hx hb hts hin0 hown hK hP 0 rfl rfl 4 (by decide) fl47 (fun _ h9 => h9) rfl dX1_look_274 ?_
                            refine lv_bipush (v := 11) hx hb dX1_look_277 (by decide) ?_
                            refine lv_icmp_ne (tgt := 294) hx hb dX1_look_279 (by decide) (fun c_272 => ?_) (fun c_272 => ?_)
                            · skip
                              have q7 : paL B a9 = nv B a9 := by simp [paL, hp, hk]
                              refine lv_iload_n hx hb dX1_look_294 rfl (lv_at hl 4 rfl) ?_
                              refine lv_aload_n hx hb dX1_look_295 rfl (lv_at hl 3 rfl) ?_
                              refine va_get (D := (dC, dI)) (ci := 1) (v := .int (nI (hd (B a9)))) (C := RX1) (T := TX1) (N := 17) hx hb hts hin0 hown hK hP 0 rfl rfl 7 (by decide) fl50 (fun _ h9 => h9) rfl dX1_look_296 ?_
                              refine lv_iadd hx hb dX1_look_299 ?_
                              refine lv_i2l hx hb dX1_look_300 rfl ?_
                              refine lv_aload_n hx hb dX1_look_301 rfl (lv_at hl 3 rfl) ?_
                              refine va_get (D := (dC, dI)) (ci := 1) (v := .long (nv B a9)) (C := RX1) (T := TX1) (N := 17) hx hb hts hin0 hown hK hP 0 rfl rfl 8 (by decide) fl68 (fun _ h9 => h9) rfl dX1_look_302 ?_
                              refine lv_ladd hx hb dX1_look_305 ?_
                              refine lv_aload_n hx hb dX1_look_306 rfl (lv_at hl 3 rfl) ?_
                              refine va_get (D := (dC, dI)) (ci := 1) (v := .int (nI n8)) (C := RX1) (T := TX1) (N := 17) hx hb hts hin0 hown hK hP 0 rfl rfl 2 (by decide) fl28 (fun _ h9 => h9) rfl dX1_look_307 ?_
                              refine lv_i2l hx hb dX1_look_310 rfl ?_
                              refine W.lcmp hx hb dX1_look_311 ?_
                              refine lv_if_le (tgt := 320) hx hb dX1_look_312 (by decide) (fun c_273 => ?_) (fun c_273 => ?_)
                              · skip
                                have c_273 := (lg_cmp_le ((((nI a9) + (nI (hd (B a9)))).toInt64) + (nv B a9)) ((nI n8).toInt64)).mp c_273
                                refine lv_iconst (v := 0) hx hb dX1_look_320 (by decide) ?_
                                have hP9 : va_P (dC, dI) vwCl ((fun (u : Int32 × Int64 × Int32 × Int32 × Int64 × Int64) => w1 h a b cI cJ f g zt (nI n8) zc u.1 u.2.1 u.2.2.1 u.2.2.2.1 u.2.2.2.2.1 u.2.2.2.2.2 zlk zlo zhi zlp zll zlv) ((8, nv B a9, 0, nI (hd (B a9)), nv B a9, 0))) H := hP
                                have hD9 : va_D A ((fun (u : Int32 × Int64 × Int32 × Int32 × Int64 × Int64) => w1 h a b cI cJ f g zt (nI n8) zc u.1 u.2.1 u.2.2.1 u.2.2.2.1 u.2.2.2.2.1 u.2.2.2.2.2 zlk zlo zhi zlp zll zlv) ((8, nv B a9, 0, nI (hd (B a9)), nv B a9, 0))) := hD
                                exact W.iret (v := 0) hx hb hr (fun t ht hW => ⟨⟨0, (8, nv B a9, 0, nI (hd (B a9)), nv B a9, 0), rfl, (by have q8 := (lk_end hB hn8 q1 q2 q3 q6).1 (by rw [q7]; exact c_273); exact Or.inr ⟨by rw [q8]; exact nI_pos (by have := kd_le _ (hB a9); omega), rfl, by rw [hk]; rfl, rfl, fun z => absurd (hk.symm.trans z) (by decide), rfl, q7.symm, by simp [ch, hk]⟩), by rw [ht]; exact hP9, va_K.moved hW.alike hK, hD9⟩, hS.F ht⟩) hS.2.2 dX1_look_321
                              · skip
                                have c_273 := (not_congr (lg_cmp_le ((((nI a9) + (nI (hd (B a9)))).toInt64) + (nv B a9)) ((nI n8).toInt64))).mp c_273
                                refine lv_bipush (v := -2) hx hb dX1_look_315 (by decide) ?_
                                refine lv_goto (tgt := 321) hx hb dX1_look_317 (by decide) ?_
                                have hP9 : va_P (dC, dI) vwCl ((fun (u : Int32 × Int64 × Int32 × Int32 × Int64 × Int64) => w1 h a b cI cJ f g zt (nI n8) zc u.1 u.2.1 u.2.2.1 u.2.2.2.1 u.2.2.2.2.1 u.2.2.2.2.2 zlk zlo zhi zlp zll zlv) ((8, nv B a9, 0, nI (hd (B a9)), nv B a9, 0))) H := hP
                                have hD9 : va_D A ((fun (u : Int32 × Int64 × Int32 × Int32 × Int64 × Int64) => w1 h a b cI cJ f g zt (nI n8) zc u.1 u.2.1 u.2.2.1 u.2.2.2.1 u.2.2.2.2.1 u.2.2.2.2.2 zlk zlo zhi zlp zll zlv) ((8, nv B a9, 0, nI (hd (B a9)), nv B a9, 0))) := hD
                                exact W.iret (v := -2) hx hb hr (fun t ht hW => ⟨⟨-2, (8, nv B a9, 0, nI (hd (B a9)), nv B a9, 0), rfl, (lkneg ((lk_end hB hn8 q1 q2 q3 q6).2 (by rw [q7]; exact c_273)) (by decide)), by rw [ht]; exact hP9, va_K.moved hW.alike hK, hD9⟩, hS.F ht⟩) hS.2.2 dX1_look_321
                            · skip
                              exact absurd c_272 (by decide)
                          · skip
                            exact absurd c_271 (by decide)
                        · skip
                          exact absurd (by decide) c_270
                      · skip
                        have c_269 := (not_congr (lg_cmp_le (nv B a9) (2147483647 : Int64))).mp c_269
                        refine lv_bipush (v := -4) hx hb dX1_look_218 (by decide) ?_
                        have hP9 : va_P (dC, dI) vwCl ((fun (u : Int32 × Int64 × Int32 × Int32 × Int64 × Int64) => w1 h a b cI cJ f g zt (nI n8) zc u.1 u.2.1 u.2.2.1 u.2.2.2.1 u.2.2.2.2.1 u.2.2.2.2.2 zlk zlo zhi zlp zll zlv) ((8, nv B a9, 0, nI (hd (B a9)), 0, 0))) H := hP
                        have hD9 : va_D A ((fun (u : Int32 × Int64 × Int32 × Int32 × Int64 × Int64) => w1 h a b cI cJ f g zt (nI n8) zc u.1 u.2.1 u.2.2.1 u.2.2.2.1 u.2.2.2.2.1 u.2.2.2.2.2 zlk zlo zhi zlp zll zlv) ((8, nv B a9, 0, nI (hd (B a9)), 0, 0))) := hD
                        exact W.iret (v := -4) hx hb hr (fun t ht hW => ⟨⟨-4, (8, nv B a9, 0, nI (hd (B a9)), 0, 0), rfl, (lkneg (lk4 hB hn8 q1 q2 q3 (by rw [hk]; decide) c_269) (by decide)), by rw [ht]; exact hP9, va_K.moved hW.alike hK, hD9⟩, hS.F ht⟩) hS.2.2 dX1_look_220
                  · skip
                    exact absurd (by decide) c_267
                · skip
                  exact absurd c_266 (by decide)
              · skip
                exact absurd c_265 (by decide)
            · skip
              have q5 : wd (B a9) = 0 := (nI_z (by omega)).mp c_260
              refine lv_iload_n hx hb dX1_look_84 rfl (lv_at hl 1 rfl) ?_
              refine gsl (As := [.int (nI (B a9))]) (rest := [.ref h]) ⟨hx, hb, hml, hown, hts⟩ (c_X1_ownNumber l dC dI tk tw _ (B a9) (hB a9)) (va_cwS 1 hts gX1_look_X1_ownNumber rfl rfl rfl (by decide +kernel) ⟨Nat.le_of_ble_eq_true rfl, Nat.le_of_ble_eq_true rfl⟩) hP hS hA hZ rfl hl.1 rfl (Nat.le_of_ble_eq_true rfl) dX1_look_85 ⟨Nat.le_of_ble_eq_true rfl, Nat.le_of_ble_eq_true rfl⟩ (fun r_275 H locs hw_274 hP hS => ?_)
              obtain rfl : r_275 = nv B a9 := hw_274.trans (nv_w0 q5).symm
              refine lv_goto (tgt := 99) hx hb dX1_look_88 (by decide) ?_
              refine va_put (D := (dC, dI)) (ci := 1) (v := .long (nv B a9)) (ty := .long) (C := RX1) (T := TX1) (N := 17) hx hb hts hin0 tyX1 tyX1_ok nmX1 hown hK hP hD hS 0 rfl rfl 5 (by decide) fl61 (fun _ h9 => h9) rfl (by decide +kernel) rfl rfl (Nat.le_of_ble_eq_true rfl) dX1_look_99 (fun H locs hP hD hS => ?_)
              have hP : va_P (dC, dI) vwCl (w1 h a b cI cJ f g zt (nI n8) zc 8 (nv B a9) zty (nI (hd (B a9))) zpa zch zlk zlo zhi zlp zll zlv) H := hP
              have hD : va_D A (w1 h a b cI cJ f g zt (nI n8) zc 8 (nv B a9) zty (nI (hd (B a9))) zpa zch zlk zlo zhi zlp zll zlv) := hD
              refine lv_aload_n hx hb dX1_look_102 rfl (lv_at hl 2 rfl) ?_
              refine va_get (D := (dC, dI)) (ci := 1) (v := .int 8) (C := RX1) (T := TX1) (N := 17) hx hb hts hin0 hown hK hP 0 rfl rfl 4 (by decide) fl47 (fun _ h9 => h9) rfl dX1_look_103 ?_
              refine lv_iconst (v := 5) hx hb dX1_look_106 (by decide) ?_
              refine lv_icmp_ne (tgt := 138) hx hb dX1_look_107 (by decide) (fun c_276 => ?_) (fun c_276 => ?_)
              · skip
                refine lv_aload_n hx hb dX1_look_138 rfl (lv_at hl 2 rfl) ?_
                refine va_get (D := (dC, dI)) (ci := 1) (v := .int 8) (C := RX1) (T := TX1) (N := 17) hx hb hts hin0 hown hK hP 0 rfl rfl 4 (by decide) fl47 (fun _ h9 => h9) rfl dX1_look_139 ?_
                refine lv_bipush (v := 12) hx hb dX1_look_142 (by decide) ?_
                refine lv_icmp_ne (tgt := 163) hx hb dX1_look_144 (by decide) (fun c_277 => ?_) (fun c_277 => ?_)
                · skip
                  refine lv_iconst (v := 0) hx hb dX1_look_163 (by decide) ?_
                  refine lv_istore (lv' := [(4, .int 0), (3, .int (nI (wd (B a9)))), (2, .int (nI (B a9))), (0, .ref h), (1, .int (nI a9))]) hx hb dX1_look_164 hl (by decide) rfl (fun ls hl => ?_)
                  refine lv_aload_n hx hb dX1_look_166 rfl (lv_at hl 3 rfl) ?_
                  refine lv_iload hx hb dX1_look_167 (lv_at hl 0 rfl) ?_
                  refine lv_bipush (v := 127) hx hb dX1_look_169 (by decide) ?_
                  refine lv_icmp_le (tgt := 183) hx hb dX1_look_171 (by decide) (fun c_278 => ?_) (fun c_278 => ?_)
                  · skip
                    refine lv_iload hx hb dX1_look_183 (lv_at hl 0 rfl) ?_
                    refine va_put (D := (dC, dI)) (ci := 1) (v := .int 0) (ty := .int) (C := RX1) (T := TX1) (N := 17) hx hb hts hin0 tyX1 tyX1_ok nmX1 hown hK hP hD hS 0 rfl rfl 6 (by decide) fl65 (fun _ h9 => h9) rfl (by decide +kernel) rfl rfl (Nat.le_of_ble_eq_true rfl) dX1_look_185 (fun H locs hP hD hS => ?_)
                    have hP : va_P (dC, dI) vwCl (w1 h a b cI cJ f g zt (nI n8) zc 8 (nv B a9) 0 (nI (hd (B a9))) zpa zch zlk zlo zhi zlp zll zlv) H := hP
                    have hD : va_D A (w1 h a b cI cJ f g zt (nI n8) zc 8 (nv B a9) 0 (nI (hd (B a9))) zpa zch zlk zlo zhi zlp zll zlv) := hD
                    refine lv_aload_n hx hb dX1_look_188 rfl (lv_at hl 3 rfl) ?_
                    refine lv_lconst (v := 0) hx hb dX1_look_189 (by decide) ?_
                    refine va_put (D := (dC, dI)) (ci := 1) (v := .long 0) (ty := .long) (C := RX1) (T := TX1) (N := 17) hx hb hts hin0 tyX1 tyX1_ok nmX1 hown hK hP hD hS 0 rfl rfl 8 (by decide) fl68 (fun _ h9 => h9) rfl (by decide +kernel) rfl rfl (Nat.le_of_ble_eq_true rfl) dX1_look_190 (fun H locs hP hD hS => ?_)
                    have hP : va_P (dC, dI) vwCl (w1 h a b cI cJ f g zt (nI n8) zc 8 (nv B a9) 0 (nI (hd (B a9))) 0 zch zlk zlo zhi zlp zll zlv) H := hP
                    have hD : va_D A (w1 h a b cI cJ f g zt (nI n8) zc 8 (nv B a9) 0 (nI (hd (B a9))) 0 zch zlk zlo zhi zlp zll zlv) := hD
                    refine lv_aload_n hx hb dX1_look_193 rfl (lv_at hl 3 rfl) ?_
                    refine lv_lconst (v := 0) hx hb dX1_look_194 (by decide) ?_
                    refine va_put (D := (dC, dI)) (ci := 1) (v := .long 0) (ty := .long) (C := RX1) (T := TX1) (N := 17) hx hb hts hin0 tyX1 tyX1_ok nmX1 hown hK hP hD hS 0 rfl rfl 9 (by decide) fl71 (fun _ h9 => h9) rfl (by decide +kernel) rfl rfl (Nat.le_of_ble_eq_true rfl) dX1_look_195 (fun H locs hP hD hS => ?_)
                    have hP : va_P (dC, dI) vwCl (w1 h a b cI cJ f g zt (nI n8) zc 8 (nv B a9) 0 (nI (hd (B a9))) 0 0 zlk zlo zhi zlp zll zlv) H := hP
                    have hD : va_D A (w1 h a b cI cJ f g zt (nI n8) zc 8 (nv B a9) 0 (nI (hd (B a9))) 0 0 zlk zlo zhi zlp zll zlv) := hD
                    refine lv_aload_n hx hb dX1_look_198 rfl (lv_at hl 3 rfl) ?_
                    refine va_get (D := (dC, dI)) (ci := 1) (v := .int 8) (C := RX1) (T := TX1) (N := 17) hx hb hts hin0 hown hK hP 0 rfl rfl 4 (by decide) fl47 (fun _ h9 => h9) rfl dX1_look_199 ?_
                    refine lv_bipush (v := 7) hx hb dX1_look_202 (by decide) ?_
                    refine lv_icmp_le (tgt := 221) hx hb dX1_look_204 (by decide) (fun c_279 => ?_) (fun c_279 => ?_)
                    · skip
                      exact absurd c_279 (by decide)
                    · skip
                      refine lv_aload_n hx hb dX1_look_207 rfl (lv_at hl 3 rfl) ?_
                      refine va_get (D := (dC, dI)) (ci := 1) (v := .long (nv B a9)) (C := RX1) (T := TX1) (N := 17) hx hb hts hin0 hown hK hP 0 rfl rfl 5 (by decide) fl61 (fun _ h9 => h9) rfl dX1_look_208 ?_
                      refine lv_ldc2 (v := 2147483647) hx hb hown (hts (.constantLong RX1 74 (2147483647)) (by decide +kernel)) dX1_look_211 ?_
                      refine W.lcmp hx hb dX1_look_214 ?_
                      refine lv_if_le (tgt := 221) hx hb dX1_look_215 (by decide) (fun c_280 => ?_) (fun c_280 => ?_)
                      · skip
                        have c_280 := (lg_cmp_le (nv B a9) (2147483647 : Int64)).mp c_280
                        have q6 : 8 ≤ kd (B a9) → nv B a9 ≤ 2147483647 := fun _ => c_280
                        refine lv_aload_n hx hb dX1_look_221 rfl (lv_at hl 3 rfl) ?_
                        refine va_get (D := (dC, dI)) (ci := 1) (v := .int 8) (C := RX1) (T := TX1) (N := 17) hx hb hts hin0 hown hK hP 0 rfl rfl 4 (by decide) fl47 (fun _ h9 => h9) rfl dX1_look_222 ?_
                        refine lv_bipush (v := 8) hx hb dX1_look_225 (by decide) ?_
                        refine lv_icmp_eq (tgt := 248) hx hb dX1_look_227 (by decide) (fun c_281 => ?_) (fun c_281 => ?_)
                        · skip
                          refine lv_aload_n hx hb dX1_look_248 rfl (lv_at hl 3 rfl) ?_
                          refine lv_aload_n hx hb dX1_look_249 rfl (lv_at hl 3 rfl) ?_
                          refine va_get (D := (dC, dI)) (ci := 1) (v := .long (nv B a9)) (C := RX1) (T := TX1) (N := 17) hx hb hts hin0 hown hK hP 0 rfl rfl 5 (by decide) fl61 (fun _ h9 => h9) rfl dX1_look_250 ?_
                          refine va_put (D := (dC, dI)) (ci := 1) (v := .long (nv B a9)) (ty := .long) (C := RX1) (T := TX1) (N := 17) hx hb hts hin0 tyX1 tyX1_ok nmX1 hown hK hP hD hS 0 rfl rfl 8 (by decide) fl68 (fun _ h9 => h9) rfl (by decide +kernel) rfl rfl (Nat.le_of_ble_eq_true rfl) dX1_look_253 (fun H locs hP hD hS => ?_)
                          have hP : va_P (dC, dI) vwCl (w1 h a b cI cJ f g zt (nI n8) zc 8 (nv B a9) 0 (nI (hd (B a9))) (nv B a9) 0 zlk zlo zhi zlp zll zlv) H := hP
                          have hD : va_D A (w1 h a b cI cJ f g zt (nI n8) zc 8 (nv B a9) 0 (nI (hd (B a9))) (nv B a9) 0 zlk zlo zhi zlp zll zlv) := hD
                          refine lv_aload_n hx hb dX1_look_256 rfl (lv_at hl 3 rfl) ?_
                          refine va_get (D := (dC, dI)) (ci := 1) (v := .int 8) (C := RX1) (T := TX1) (N := 17) hx hb hts hin0 hown hK hP 0 rfl rfl 4 (by decide) fl47 (fun _ h9 => h9) rfl dX1_look_257 ?_
                          refine lv_bipush (v := 10) hx hb dX1_look_260 (by decide) ?_
                          refine lv_icmp_ne (tgt := 273) hx hb dX1_look_262 (by decide) (fun c_282 => ?_) (fun c_282 => ?_)
                          · skip
                            refine lv_aload_n hx hb dX1_look_273 rfl (lv_at hl 3 rfl) ?_
                            refine va_get (D := (dC, dI)) (ci := 1) (v := .int 8) (C := RX1) (T := TX1) (N := 17) hx hb hts hin0 hown hK hP 0 rfl rfl 4 (by decide) fl47 (fun _ h9 => h9) rfl dX1_look_274 ?_
                            refine lv_bipush (v := 11) hx hb dX1_look_277 (by decide) ?_
                            refine lv_icmp_ne (tgt := 294) hx hb dX1_look_279 (by decide) (fun c_283 => ?_) (fun c_283 => ?_)
                            · skip
                              have q7 : paL B a9 = nv B a9 := by simp [paL, hp, hk]
                              refine lv_iload_n hx hb dX1_look_294 rfl (lv_at hl 4 rfl) ?_
                              refine lv_aload_n hx hb dX1_look_295 rfl (lv_at hl 3 rfl) ?_
                              refine va_get (D := (dC, dI)) (ci := 1) (v := .int (nI (hd (B a9)))) (C := RX1) (T := TX1) (N := 17) hx hb hts hin0 hown hK hP 0 rfl rfl 7 (by decide) fl50 (fun _ h9 => h9) rfl dX1_look_296 ?_
                              refine lv_iadd hx hb dX1_look_299 ?_
                              refine lv_i2l hx hb dX1_look_300 rfl ?_
                              refine lv_aload_n hx hb dX1_look_301 rfl (lv_at hl 3 rfl) ?_
                              refine va_get (D := (dC, dI)) (ci := 1) (v := .long (nv B a9)) (C := RX1) (T := TX1) (N := 17) hx hb hts hin0 hown hK hP 0 rfl rfl 8 (by decide) fl68 (fun _ h9 => h9) rfl dX1_look_302 ?_
                              refine lv_ladd hx hb dX1_look_305 ?_
                              refine lv_aload_n hx hb dX1_look_306 rfl (lv_at hl 3 rfl) ?_
                              refine va_get (D := (dC, dI)) (ci := 1) (v := .int (nI n8)) (C := RX1) (T := TX1) (N := 17) hx hb hts hin0 hown hK hP 0 rfl rfl 2 (by decide) fl28 (fun _ h9 => h9) rfl dX1_look_307 ?_
                              refine lv_i2l hx hb dX1_look_310 rfl ?_
                              refine W.lcmp hx hb dX1_look_311 ?_
                              refine lv_if_le (tgt := 320) hx hb dX1_look_312 (by decide) (fun c_284 => ?_) (fun c_284 => ?_)
                              · skip
                                have c_284 := (lg_cmp_le ((((nI a9) + (nI (hd (B a9)))).toInt64) + (nv B a9)) ((nI n8).toInt64)).mp c_284
                                refine lv_iconst (v := 0) hx hb dX1_look_320 (by decide) ?_
                                have hP9 : va_P (dC, dI) vwCl ((fun (u : Int32 × Int64 × Int32 × Int32 × Int64 × Int64) => w1 h a b cI cJ f g zt (nI n8) zc u.1 u.2.1 u.2.2.1 u.2.2.2.1 u.2.2.2.2.1 u.2.2.2.2.2 zlk zlo zhi zlp zll zlv) ((8, nv B a9, 0, nI (hd (B a9)), nv B a9, 0))) H := hP
                                have hD9 : va_D A ((fun (u : Int32 × Int64 × Int32 × Int32 × Int64 × Int64) => w1 h a b cI cJ f g zt (nI n8) zc u.1 u.2.1 u.2.2.1 u.2.2.2.1 u.2.2.2.2.1 u.2.2.2.2.2 zlk zlo zhi zlp zll zlv) ((8, nv B a9, 0, nI (hd (B a9)), nv B a9, 0))) := hD
                                exact W.iret (v := 0) hx hb hr (fun t ht hW => ⟨⟨0, (8, nv B a9, 0, nI (hd (B a9)), nv B a9, 0), rfl, (by have q8 := (lk_end hB hn8 q1 q2 q3 q6).1 (by rw [q7]; exact c_284); exact Or.inr ⟨by rw [q8]; exact nI_pos (by have := kd_le _ (hB a9); omega), rfl, by rw [hk]; rfl, rfl, fun z => absurd (hk.symm.trans z) (by decide), rfl, q7.symm, by simp [ch, hk]⟩), by rw [ht]; exact hP9, va_K.moved hW.alike hK, hD9⟩, hS.F ht⟩) hS.2.2 dX1_look_321
                              · skip
                                have c_284 := (not_congr (lg_cmp_le ((((nI a9) + (nI (hd (B a9)))).toInt64) + (nv B a9)) ((nI n8).toInt64))).mp c_284
                                refine lv_bipush (v := -2) hx hb dX1_look_315 (by decide) ?_
                                refine lv_goto (tgt := 321) hx hb dX1_look_317 (by decide) ?_
                                have hP9 : va_P (dC, dI) vwCl ((fun (u : Int32 × Int64 × Int32 × Int32 × Int64 × Int64) => w1 h a b cI cJ f g zt (nI n8) zc u.1 u.2.1 u.2.2.1 u.2.2.2.1 u.2.2.2.2.1 u.2.2.2.2.2 zlk zlo zhi zlp zll zlv) ((8, nv B a9, 0, nI (hd (B a9)), nv B a9, 0))) H := hP
                                have hD9 : va_D A ((fun (u : Int32 × Int64 × Int32 × Int32 × Int64 × Int64) => w1 h a b cI cJ f g zt (nI n8) zc u.1 u.2.1 u.2.2.1 u.2.2.2.1 u.2.2.2.2.1 u.2.2.2.2.2 zlk zlo zhi zlp zll zlv) ((8, nv B a9, 0, nI (hd (B a9)), nv B a9, 0))) := hD
                                exact W.iret (v := -2) hx hb hr (fun t ht hW => ⟨⟨-2, (8, nv B a9, 0, nI (hd (B a9)), nv B a9, 0), rfl, (lkneg ((lk_end hB hn8 q1 q2 q3 q6).2 (by rw [q7]; exact c_284)) (by decide)), by rw [ht]; exact hP9, va_K.moved hW.alike hK, hD9⟩, hS.F ht⟩) hS.2.2 dX1_look_321
                            · skip
                              exact absurd c_283 (by decide)
                          · skip
                            exact absurd c_282 (by decide)
                        · skip
                          exact absurd (by decide) c_281
                      · skip
                        have c_280 := (not_congr (lg_cmp_le (nv B a9) (2147483647 : Int64))).mp c_280
                        refine lv_bipush (v := -4) hx hb dX1_look_218 (by decide) ?_
                        have hP9 : va_P (dC, dI) vwCl ((fun (u : Int32 × Int64 × Int32 × Int32 × Int64 × Int64) => w1 h a b cI cJ f g zt (nI n8) zc u.1 u.2.1 u.2.2.1 u.2.2.2.1 u.2.2.2.2.1 u.2.2.2.2.2 zlk zlo zhi zlp zll zlv) ((8, nv B a9, 0, nI (hd (B a9)), 0, 0))) H := hP
                        have hD9 : va_D A ((fun (u : Int32 × Int64 × Int32 × Int32 × Int64 × Int64) => w1 h a b cI cJ f g zt (nI n8) zc u.1 u.2.1 u.2.2.1 u.2.2.2.1 u.2.2.2.2.1 u.2.2.2.2.2 zlk zlo zhi zlp zll zlv) ((8, nv B a9, 0, nI (hd (B a9)), 0, 0))) := hD
                        exact W.iret (v := -4) hx hb hr (fun t ht hW => ⟨⟨-4, (8, nv B a9, 0, nI (hd (B a9)), 0, 0), rfl, (lkneg (lk4 hB hn8 q1 q2 q3 (by rw [hk]; decide) c_280) (by decide)), by rw [ht]; exact hP9, va_K.moved hW.alike hK, hD9⟩, hS.F ht⟩) hS.2.2 dX1_look_220
                  · skip
                    exact absurd (by decide) c_278
                · skip
                  exact absurd c_277 (by decide)
              · skip
                exact absurd c_276 (by decide)
          · skip
            refine lv_bipush (v := -2) hx hb dX1_look_76 (by decide) ?_
            have hP9 : va_P (dC, dI) vwCl ((fun (u : Int32 × Int64 × Int32 × Int32 × Int64 × Int64) => w1 h a b cI cJ f g zt (nI n8) zc u.1 u.2.1 u.2.2.1 u.2.2.2.1 u.2.2.2.2.1 u.2.2.2.2.2 zlk zlo zhi zlp zll zlv) ((8, znu, zty, nI (hd (B a9)), zpa, zch))) H := hP
            have hD9 : va_D A ((fun (u : Int32 × Int64 × Int32 × Int32 × Int64 × Int64) => w1 h a b cI cJ f g zt (nI n8) zc u.1 u.2.1 u.2.2.1 u.2.2.2.1 u.2.2.2.2.1 u.2.2.2.2.2 zlk zlo zhi zlp zll zlv) ((8, znu, zty, nI (hd (B a9)), zpa, zch))) := hD
            exact W.iret (v := -2) hx hb hr (fun t ht hW => ⟨⟨-2, (8, znu, zty, nI (hd (B a9)), zpa, zch), rfl, (lkneg (lk3 hB hn8 q1 q2 (by have q4 := hd_le _ (hB a9); have z := (not_congr (nI_leI (a := a9 + hd (B a9)) (b := n8) (by omega) (by omega))).mp c_259; omega)) (by decide)), by rw [ht]; exact hP9, va_K.moved hW.alike hK, hD9⟩, hS.F ht⟩) hS.2.2 dX1_look_78
        · skip
          exact absurd c_256 (by decide)
      · skip
        have q2 : ¬ B a9 = 193 := fun z => c_3 (by rw [z]; rfl)
        refine lv_iload_n hx hb dX1_look_28 rfl (lv_at hl 0 rfl) ?_
        refine gsi (As := [.int (nI (B a9))]) (rest := []) ⟨hx, hb, hml, hown, hts⟩ (c_X1_widthOf l dC dI tk tw _ (B a9) (hB a9)) (va_cwS 1 hts gX1_look_X1_widthOf rfl rfl rfl (by decide +kernel) ⟨Nat.le_of_ble_eq_true rfl, Nat.le_of_ble_eq_true rfl⟩) hP hS hA hZ rfl hl.1 rfl (Nat.le_of_ble_eq_true rfl) dX1_look_29 ⟨Nat.le_of_ble_eq_true rfl, Nat.le_of_ble_eq_true rfl⟩ (fun r_286 H locs hw_285 hP hS => ?_)
        obtain rfl : r_286 = nI (wd (B a9)) := hw_285
        refine lv_istore_n (lv' := [(3, .int (nI (wd (B a9)))), (2, .int (nI (B a9))), (0, .ref h), (1, .int (nI a9))]) hx hb dX1_look_32 rfl hl (by decide) rfl (fun ls hl => ?_)
        refine lv_aload_n hx hb dX1_look_33 rfl (lv_at hl 2 rfl) ?_
        refine lv_iload_n hx hb dX1_look_34 rfl (lv_at hl 1 rfl) ?_
        refine gsi (As := [.int (nI (B a9))]) (rest := [.ref h]) ⟨hx, hb, hml, hown, hts⟩ (c_X1_kindOf l dC dI tk tw _ (B a9) (hB a9) q2) (va_cwS 1 hts gX1_look_X1_kindOf rfl rfl rfl (by decide +kernel) ⟨Nat.le_of_ble_eq_true rfl, Nat.le_of_ble_eq_true rfl⟩) hP hS hA hZ rfl hl.1 rfl (Nat.le_of_ble_eq_true rfl) dX1_look_35 ⟨Nat.le_of_ble_eq_true rfl, Nat.le_of_ble_eq_true rfl⟩ (fun r_288 H locs hw_287 hP hS => ?_)
        obtain rfl : r_288 = 9 := hw_287.trans (by rw [hk]; rfl)
        refine va_put (D := (dC, dI)) (ci := 1) (v := .int 9) (ty := .int) (C := RX1) (T := TX1) (N := 17) hx hb hts hin0 tyX1 tyX1_ok nmX1 hown hK hP hD hS 0 rfl rfl 4 (by decide) fl47 (fun _ h9 => h9) rfl (by decide +kernel) rfl rfl (Nat.le_of_ble_eq_true rfl) dX1_look_38 (fun H locs hP hD hS => ?_)
        have hP : va_P (dC, dI) vwCl (w1 h a b cI cJ f g zt (nI n8) zc 9 znu zty zhd zpa zch zlk zlo zhi zlp zll zlv) H := hP
        have hD : va_D A (w1 h a b cI cJ f g zt (nI n8) zc 9 znu zty zhd zpa zch zlk zlo zhi zlp zll zlv) := hD
        refine lv_aload_n hx hb dX1_look_41 rfl (lv_at hl 2 rfl) ?_
        refine lv_iconst (v := 1) hx hb dX1_look_42 (by decide) ?_
        refine lv_iload_n hx hb dX1_look_43 rfl (lv_at hl 0 rfl) ?_
        refine lv_iadd hx hb dX1_look_44 ?_
        refine lv_aload_n hx hb dX1_look_45 rfl (lv_at hl 2 rfl) ?_
        refine va_get (D := (dC, dI)) (ci := 1) (v := .int 9) (C := RX1) (T := TX1) (N := 17) hx hb hts hin0 hown hK hP 0 rfl rfl 4 (by decide) fl47 (fun _ h9 => h9) rfl dX1_look_46 ?_
        refine lv_bipush (v := 12) hx hb dX1_look_49 (by decide) ?_
        refine lv_icmp_ne (tgt := 58) hx hb dX1_look_51 (by decide) (fun c_289 => ?_) (fun c_289 => ?_)
        · skip
          refine lv_iconst (v := 0) hx hb dX1_look_58 (by decide) ?_
          refine lv_iadd hx hb dX1_look_59 ?_
          have e_290 : ((1 + (nI (wd (B a9)))) + 0 : Int32) = nI (hd (B a9)) := hdn (by rw [hk]; decide)
          rw [e_290]
          refine va_put (D := (dC, dI)) (ci := 1) (v := .int (nI (hd (B a9)))) (ty := .int) (C := RX1) (T := TX1) (N := 17) hx hb hts hin0 tyX1 tyX1_ok nmX1 hown hK hP hD hS 0 rfl rfl 7 (by decide) fl50 (fun _ h9 => h9) rfl (by decide +kernel) rfl rfl (Nat.le_of_ble_eq_true rfl) dX1_look_60 (fun H locs hP hD hS => ?_)
          have hP : va_P (dC, dI) vwCl (w1 h a b cI cJ f g zt (nI n8) zc 9 znu zty (nI (hd (B a9))) zpa zch zlk zlo zhi zlp zll zlv) H := hP
          have hD : va_D A (w1 h a b cI cJ f g zt (nI n8) zc 9 znu zty (nI (hd (B a9))) zpa zch zlk zlo zhi zlp zll zlv) := hD
          refine lv_iload_n hx hb dX1_look_63 rfl (lv_at hl 3 rfl) ?_
          refine lv_aload_n hx hb dX1_look_64 rfl (lv_at hl 2 rfl) ?_
          refine va_get (D := (dC, dI)) (ci := 1) (v := .int (nI (hd (B a9)))) (C := RX1) (T := TX1) (N := 17) hx hb hts hin0 hown hK hP 0 rfl rfl 7 (by decide) fl50 (fun _ h9 => h9) rfl dX1_look_65 ?_
          refine lv_iadd hx hb dX1_look_68 ?_
          have e_291 : ((nI a9) + (nI (hd (B a9))) : Int32) = nI (a9 + hd (B a9)) := nI_add _ _
          rw [e_291]
          refine lv_aload_n hx hb dX1_look_69 rfl (lv_at hl 2 rfl) ?_
          refine va_get (D := (dC, dI)) (ci := 1) (v := .int (nI n8)) (C := RX1) (T := TX1) (N := 17) hx hb hts hin0 hown hK hP 0 rfl rfl 2 (by decide) fl28 (fun _ h9 => h9) rfl dX1_look_70 ?_
          refine lv_icmp_le (tgt := 79) hx hb dX1_look_73 (by decide) (fun c_292 => ?_) (fun c_292 => ?_)
          · skip
            have q4 := hd_le _ (hB a9)
            have q3 : a9 + hd (B a9) ≤ n8 := (nI_leI (by omega) (by omega)).mp c_292
            refine lv_aload_n hx hb dX1_look_79 rfl (lv_at hl 2 rfl) ?_
            refine lv_iload_n hx hb dX1_look_80 rfl (lv_at hl 0 rfl) ?_
            refine lv_if_ne (tgt := 91) hx hb dX1_look_81 (by decide) (fun c_293 => ?_) (fun c_293 => ?_)
            · skip
              have q5 : ¬ wd (B a9) = 0 := fun z => c_293 (by rw [z]; rfl)
              refine lv_aload_n hx hb dX1_look_91 rfl (lv_at hl 2 rfl) ?_
              refine lv_iload_n hx hb dX1_look_92 rfl (lv_at hl 3 rfl) ?_
              refine lv_iconst (v := 1) hx hb dX1_look_93 (by decide) ?_
              refine lv_iadd hx hb dX1_look_94 ?_
              refine lv_iload_n hx hb dX1_look_95 rfl (lv_at hl 0 rfl) ?_
              have e_296 : ((nI a9) + 1 : Int32) = nI (a9 + 1) := nI_1 a9
              rw [e_296]
              refine gvl (As := [.int (nI (a9 + 1)), .int (nI (wd (B a9)))]) (rest := [.ref h]) ⟨hx, hb, hml, hown, hts⟩ (c_X1_numberAt l dC dI tk tw h a b cI cJ _ f g zt (nI n8) zc 9 znu zty (nI (hd (B a9))) zpa zch zlk zlo zhi zlp zll zlv B (a9 + 1) (wd (B a9)) (by omega) (fun j hj => hf9 j (by omega))) (cwV 2 hts gX1_look_X1_numberAt rfl rfl rfl (by decide +kernel) ⟨Nat.le_of_ble_eq_true rfl, Nat.le_of_ble_eq_true rfl⟩) hK hP hD hS hA hZ (q0 := 0) (ci := 1) rfl rfl rfl rfl hl.1 rfl (Nat.le_of_ble_eq_true rfl) dX1_look_96 ⟨Nat.le_of_ble_eq_true rfl, Nat.le_of_ble_eq_true rfl⟩ (fun r_295 u_297 H locs hw_294 hP hD hS => ?_)
              obtain rfl : r_295 = nv B a9 := hw_294.trans (nv_w1 q5 (by rw [hk]; decide)).symm
              refine va_put (D := (dC, dI)) (ci := 1) (v := .long (nv B a9)) (ty := .long) (C := RX1) (T := TX1) (N := 17) hx hb hts hin0 tyX1 tyX1_ok nmX1 hown hK hP hD hS 0 rfl rfl 5 (by decide) fl61 (fun _ h9 => h9) rfl (by decide +kernel) rfl rfl (Nat.le_of_ble_eq_true rfl) dX1_look_99 (fun H locs hP hD hS => ?_)
              have hP : va_P (dC, dI) vwCl (w1 h a b cI cJ f g zt (nI n8) zc 9 (nv B a9) zty (nI (hd (B a9))) zpa zch zlk zlo zhi zlp zll zlv) H := hP
              have hD : va_D A (w1 h a b cI cJ f g zt (nI n8) zc 9 (nv B a9) zty (nI (hd (B a9))) zpa zch zlk zlo zhi zlp zll zlv) := hD
              refine lv_aload_n hx hb dX1_look_102 rfl (lv_at hl 2 rfl) ?_
              refine va_get (D := (dC, dI)) (ci := 1) (v := .int 9) (C := RX1) (T := TX1) (N := 17) hx hb hts hin0 hown hK hP 0 rfl rfl 4 (by decide) fl47 (fun _ h9 => h9) rfl dX1_look_103 ?_
              refine lv_iconst (v := 5) hx hb dX1_look_106 (by decide) ?_
              refine lv_icmp_ne (tgt := 138) hx hb dX1_look_107 (by decide) (fun c_298 => ?_) (fun c_298 => ?_)
              · skip
                refine lv_aload_n hx hb dX1_look_138 rfl (lv_at hl 2 rfl) ?_
                refine va_get (D := (dC, dI)) (ci := 1) (v := .int 9) (C := RX1) (T := TX1) (N := 17) hx hb hts hin0 hown hK hP 0 rfl rfl 4 (by decide) fl47 (fun _ h9 => h9) rfl dX1_look_139 ?_
                refine lv_bipush (v := 12) hx hb dX1_look_142 (by decide) ?_
                refine lv_icmp_ne (tgt := 163) hx hb dX1_look_144 (by decide) (fun c_299 => ?_) (fun c_299 => ?_)
                · skip
                  refine lv_iconst (v := 0) hx hb dX1_look_163 (by decide) ?_
                  refine lv_istore (lv' := [(4, .int 0), (3, .int (nI (wd (B a9)))), (2, .int (nI (B a9))), (0, .ref h), (1, .int (nI a9))]) hx hb dX1_look_164 hl (by decide) rfl (fun ls hl => ?_)
                  refine lv_aload_n hx hb dX1_look_166 rfl (lv_at hl 3 rfl) ?_
                  refine lv_iload hx hb dX1_look_167 (lv_at hl 0 rfl) ?_
                  refine lv_bipush (v := 127) hx hb dX1_look_169 (by decide) ?_
                  refine lv_icmp_le (tgt := 183) hx hb dX1_look_171 (by decide) (fun c_300 => ?_) (fun c_300 => ?_)
                  · skip
                    refine lv_iload hx hb dX1_look_183 (lv_at hl 0 rfl) ?_
                    refine va_put (D := (dC, dI)) (ci := 1) (v := .int 0) (ty := .int) (C := RX1) (T := TX1) (N := 17) hx hb hts hin0 tyX1 tyX1_ok nmX1 hown hK hP hD hS 0 rfl rfl 6 (by decide) fl65 (fun _ h9 => h9) rfl (by decide +kernel) rfl rfl (Nat.le_of_ble_eq_true rfl) dX1_look_185 (fun H locs hP hD hS => ?_)
                    have hP : va_P (dC, dI) vwCl (w1 h a b cI cJ f g zt (nI n8) zc 9 (nv B a9) 0 (nI (hd (B a9))) zpa zch zlk zlo zhi zlp zll zlv) H := hP
                    have hD : va_D A (w1 h a b cI cJ f g zt (nI n8) zc 9 (nv B a9) 0 (nI (hd (B a9))) zpa zch zlk zlo zhi zlp zll zlv) := hD
                    refine lv_aload_n hx hb dX1_look_188 rfl (lv_at hl 3 rfl) ?_
                    refine lv_lconst (v := 0) hx hb dX1_look_189 (by decide) ?_
                    refine va_put (D := (dC, dI)) (ci := 1) (v := .long 0) (ty := .long) (C := RX1) (T := TX1) (N := 17) hx hb hts hin0 tyX1 tyX1_ok nmX1 hown hK hP hD hS 0 rfl rfl 8 (by decide) fl68 (fun _ h9 => h9) rfl (by decide +kernel) rfl rfl (Nat.le_of_ble_eq_true rfl) dX1_look_190 (fun H locs hP hD hS => ?_)
                    have hP : va_P (dC, dI) vwCl (w1 h a b cI cJ f g zt (nI n8) zc 9 (nv B a9) 0 (nI (hd (B a9))) 0 zch zlk zlo zhi zlp zll zlv) H := hP
                    have hD : va_D A (w1 h a b cI cJ f g zt (nI n8) zc 9 (nv B a9) 0 (nI (hd (B a9))) 0 zch zlk zlo zhi zlp zll zlv) := hD
                    refine lv_aload_n hx hb dX1_look_193 rfl (lv_at hl 3 rfl) ?_
                    refine lv_lconst (v := 0) hx hb dX1_look_194 (by decide) ?_
                    refine va_put (D := (dC, dI)) (ci := 1) (v := .long 0) (ty := .long) (C := RX1) (T := TX1) (N := 17) hx hb hts hin0 tyX1 tyX1_ok nmX1 hown hK hP hD hS 0 rfl rfl 9 (by decide) fl71 (fun _ h9 => h9) rfl (by decide +kernel) rfl rfl (Nat.le_of_ble_eq_true rfl) dX1_look_195 (fun H locs hP hD hS => ?_)
                    have hP : va_P (dC, dI) vwCl (w1 h a b cI cJ f g zt (nI n8) zc 9 (nv B a9) 0 (nI (hd (B a9))) 0 0 zlk zlo zhi zlp zll zlv) H := hP
                    have hD : va_D A (w1 h a b cI cJ f g zt (nI n8) zc 9 (nv B a9) 0 (nI (hd (B a9))) 0 0 zlk zlo zhi zlp zll zlv) := hD
                    refine lv_aload_n hx hb dX1_look_198 rfl (lv_at hl 3 rfl) ?_
                    refine va_get (D := (dC, dI)) (ci := 1) (v := .int 9) (C := RX1) (T := TX1) (N := 17) hx hb hts hin0 hown hK hP 0 rfl rfl 4 (by decide) fl47 (fun _ h9 => h9) rfl dX1_look_199 ?_
                    refine lv_bipush (v := 7) hx hb dX1_look_202 (by decide) ?_
                    refine lv_icmp_le (tgt := 221) hx hb dX1_look_204 (by decide) (fun c_301 => ?_) (fun c_301 => ?_)
                    · skip
                      exact absurd c_301 (by decide)
                    · skip
                      refine lv_aload_n hx hb dX1_look_207 rfl (lv_at hl 3 rfl) ?_
                      refine va_get (D := (dC, dI)) (ci := 1) (v := .long (nv B a9)) (C := RX1) (T := TX1) (N := 17) hx hb hts hin0 hown hK hP 0 rfl rfl 5 (by decide) fl61 (fun _ h9 => h9) rfl dX1_look_208 ?_
                      refine lv_ldc2 (v := 2147483647) hx hb hown (hts (.constantLong RX1 74 (2147483647)) (by decide +kernel)) dX1_look_211 ?_
                      refine W.lcmp hx hb dX1_look_214 ?_
                      refine lv_if_le (tgt := 221) hx hb dX1_look_215 (by decide) (fun c_302 => ?_) (fun c_302 => ?_)
                      · skip
                        have c_302 := (lg_cmp_le (nv B a9) (2147483647 : Int64)).mp c_302
                        have q6 : 8 ≤ kd (B a9) → nv B a9 ≤ 2147483647 := fun _ => c_302
                        refine lv_aload_n hx hb dX1_look_221 rfl (lv_at hl 3 rfl) ?_
                        refine va_get (D := (dC, dI)) (ci := 1) (v := .int 9) (C := RX1) (T := TX1) (N := 17) hx hb hts hin0 hown hK hP 0 rfl rfl 4 (by decide) fl47 (fun _ h9 => h9) rfl dX1_look_222 ?_
                        refine lv_bipush (v := 8) hx hb dX1_look_225 (by decide) ?_
                        refine lv_icmp_eq (tgt := 248) hx hb dX1_look_227 (by decide) (fun c_303 => ?_) (fun c_303 => ?_)
                        · skip
                          exact absurd c_303 (by decide)
                        · skip
                          refine lv_aload_n hx hb dX1_look_230 rfl (lv_at hl 3 rfl) ?_
                          refine va_get (D := (dC, dI)) (ci := 1) (v := .int 9) (C := RX1) (T := TX1) (N := 17) hx hb hts hin0 hown hK hP 0 rfl rfl 4 (by decide) fl47 (fun _ h9 => h9) rfl dX1_look_231 ?_
                          refine lv_bipush (v := 9) hx hb dX1_look_234 (by decide) ?_
                          refine lv_icmp_eq (tgt := 248) hx hb dX1_look_236 (by decide) (fun c_304 => ?_) (fun c_304 => ?_)
                          · skip
                            refine lv_aload_n hx hb dX1_look_248 rfl (lv_at hl 3 rfl) ?_
                            refine lv_aload_n hx hb dX1_look_249 rfl (lv_at hl 3 rfl) ?_
                            refine va_get (D := (dC, dI)) (ci := 1) (v := .long (nv B a9)) (C := RX1) (T := TX1) (N := 17) hx hb hts hin0 hown hK hP 0 rfl rfl 5 (by decide) fl61 (fun _ h9 => h9) rfl dX1_look_250 ?_
                            refine va_put (D := (dC, dI)) (ci := 1) (v := .long (nv B a9)) (ty := .long) (C := RX1) (T := TX1) (N := 17) hx hb hts hin0 tyX1 tyX1_ok nmX1 hown hK hP hD hS 0 rfl rfl 8 (by decide) fl68 (fun _ h9 => h9) rfl (by decide +kernel) rfl rfl (Nat.le_of_ble_eq_true rfl) dX1_look_253 (fun H locs hP hD hS => ?_)
                            have hP : va_P (dC, dI) vwCl (w1 h a b cI cJ f g zt (nI n8) zc 9 (nv B a9) 0 (nI (hd (B a9))) (nv B a9) 0 zlk zlo zhi zlp zll zlv) H := hP
                            have hD : va_D A (w1 h a b cI cJ f g zt (nI n8) zc 9 (nv B a9) 0 (nI (hd (B a9))) (nv B a9) 0 zlk zlo zhi zlp zll zlv) := hD
                            refine lv_aload_n hx hb dX1_look_256 rfl (lv_at hl 3 rfl) ?_
                            refine va_get (D := (dC, dI)) (ci := 1) (v := .int 9) (C := RX1) (T := TX1) (N := 17) hx hb hts hin0 hown hK hP 0 rfl rfl 4 (by decide) fl47 (fun _ h9 => h9) rfl dX1_look_257 ?_
                            refine lv_bipush (v := 10) hx hb dX1_look_260 (by decide) ?_
                            refine lv_icmp_ne (tgt := 273) hx hb dX1_look_262 (by decide) (fun c_305 => ?_) (fun c_305 => ?_)
                            · skip
                              refine lv_aload_n hx hb dX1_look_273 rfl (lv_at hl 3 rfl) ?_
                              refine va_get (D := (dC, dI)) (ci := 1) (v := .int 9) (C := RX1) (T := TX1) (N := 17) hx hb hts hin0 hown hK hP 0 rfl rfl 4 (by decide) fl47 (fun _ h9 => h9) rfl dX1_look_274 ?_
                              refine lv_bipush (v := 11) hx hb dX1_look_277 (by decide) ?_
                              refine lv_icmp_ne (tgt := 294) hx hb dX1_look_279 (by decide) (fun c_306 => ?_) (fun c_306 => ?_)
                              · skip
                                have q7 : paL B a9 = nv B a9 := by simp [paL, hp, hk]
                                refine lv_iload_n hx hb dX1_look_294 rfl (lv_at hl 4 rfl) ?_
                                refine lv_aload_n hx hb dX1_look_295 rfl (lv_at hl 3 rfl) ?_
                                refine va_get (D := (dC, dI)) (ci := 1) (v := .int (nI (hd (B a9)))) (C := RX1) (T := TX1) (N := 17) hx hb hts hin0 hown hK hP 0 rfl rfl 7 (by decide) fl50 (fun _ h9 => h9) rfl dX1_look_296 ?_
                                refine lv_iadd hx hb dX1_look_299 ?_
                                refine lv_i2l hx hb dX1_look_300 rfl ?_
                                refine lv_aload_n hx hb dX1_look_301 rfl (lv_at hl 3 rfl) ?_
                                refine va_get (D := (dC, dI)) (ci := 1) (v := .long (nv B a9)) (C := RX1) (T := TX1) (N := 17) hx hb hts hin0 hown hK hP 0 rfl rfl 8 (by decide) fl68 (fun _ h9 => h9) rfl dX1_look_302 ?_
                                refine lv_ladd hx hb dX1_look_305 ?_
                                refine lv_aload_n hx hb dX1_look_306 rfl (lv_at hl 3 rfl) ?_
                                refine va_get (D := (dC, dI)) (ci := 1) (v := .int (nI n8)) (C := RX1) (T := TX1) (N := 17) hx hb hts hin0 hown hK hP 0 rfl rfl 2 (by decide) fl28 (fun _ h9 => h9) rfl dX1_look_307 ?_
                                refine lv_i2l hx hb dX1_look_310 rfl ?_
                                refine W.lcmp hx hb dX1_look_311 ?_
                                refine lv_if_le (tgt := 320) hx hb dX1_look_312 (by decide) (fun c_307 => ?_) (fun c_307 => ?_)
                                · skip
                                  have c_307 := (lg_cmp_le ((((nI a9) + (nI (hd (B a9)))).toInt64) + (nv B a9)) ((nI n8).toInt64)).mp c_307
                                  refine lv_iconst (v := 0) hx hb dX1_look_320 (by decide) ?_
                                  have hP9 : va_P (dC, dI) vwCl ((fun (u : Int32 × Int64 × Int32 × Int32 × Int64 × Int64) => w1 h a b cI cJ f g zt (nI n8) zc u.1 u.2.1 u.2.2.1 u.2.2.2.1 u.2.2.2.2.1 u.2.2.2.2.2 zlk zlo zhi zlp zll zlv) ((9, nv B a9, 0, nI (hd (B a9)), nv B a9, 0))) H := hP
                                  have hD9 : va_D A ((fun (u : Int32 × Int64 × Int32 × Int32 × Int64 × Int64) => w1 h a b cI cJ f g zt (nI n8) zc u.1 u.2.1 u.2.2.1 u.2.2.2.1 u.2.2.2.2.1 u.2.2.2.2.2 zlk zlo zhi zlp zll zlv) ((9, nv B a9, 0, nI (hd (B a9)), nv B a9, 0))) := hD
                                  exact W.iret (v := 0) hx hb hr (fun t ht hW => ⟨⟨0, (9, nv B a9, 0, nI (hd (B a9)), nv B a9, 0), rfl, (by have q8 := (lk_end hB hn8 q1 q2 q3 q6).1 (by rw [q7]; exact c_307); exact Or.inr ⟨by rw [q8]; exact nI_pos (by have := kd_le _ (hB a9); omega), rfl, by rw [hk]; rfl, rfl, fun z => absurd (hk.symm.trans z) (by decide), rfl, q7.symm, by simp [ch, hk]⟩), by rw [ht]; exact hP9, va_K.moved hW.alike hK, hD9⟩, hS.F ht⟩) hS.2.2 dX1_look_321
                                · skip
                                  have c_307 := (not_congr (lg_cmp_le ((((nI a9) + (nI (hd (B a9)))).toInt64) + (nv B a9)) ((nI n8).toInt64))).mp c_307
                                  refine lv_bipush (v := -2) hx hb dX1_look_315 (by decide) ?_
                                  refine lv_goto (tgt := 321) hx hb dX1_look_317 (by decide) ?_
                                  have hP9 : va_P (dC, dI) vwCl ((fun (u : Int32 × Int64 × Int32 × Int32 × Int64 × Int64) => w1 h a b cI cJ f g zt (nI n8) zc u.1 u.2.1 u.2.2.1 u.2.2.2.1 u.2.2.2.2.1 u.2.2.2.2.2 zlk zlo zhi zlp zll zlv) ((9, nv B a9, 0, nI (hd (B a9)), nv B a9, 0))) H := hP
                                  have hD9 : va_D A ((fun (u : Int32 × Int64 × Int32 × Int32 × Int64 × Int64) => w1 h a b cI cJ f g zt (nI n8) zc u.1 u.2.1 u.2.2.1 u.2.2.2.1 u.2.2.2.2.1 u.2.2.2.2.2 zlk zlo zhi zlp zll zlv) ((9, nv B a9, 0, nI (hd (B a9)), nv B a9, 0))) := hD
                                  exact W.iret (v := -2) hx hb hr (fun t ht hW => ⟨⟨-2, (9, nv B a9, 0, nI (hd (B a9)), nv B a9, 0), rfl, (lkneg ((lk_end hB hn8 q1 q2 q3 q6).2 (by rw [q7]; exact c_307)) (by decide)), by rw [ht]; exact hP9, va_K.moved hW.alike hK, hD9⟩, hS.F ht⟩) hS.2.2 dX1_look_321
                              · skip
                                exact absurd c_306 (by decide)
                            · skip
                              exact absurd c_305 (by decide)
                          · skip
                            exact absurd (by decide) c_304
                      · skip
                        have c_302 := (not_congr (lg_cmp_le (nv B a9) (2147483647 : Int64))).mp c_302
                        refine lv_bipush (v := -4) hx hb dX1_look_218 (by decide) ?_
                        have hP9 : va_P (dC, dI) vwCl ((fun (u : Int32 × Int64 × Int32 × Int32 × Int64 × Int64) => w1 h a b cI cJ f g zt (nI n8) zc u.1 u.2.1 u.2.2.1 u.2.2.2.1 u.2.2.2.2.1 u.2.2.2.2.2 zlk zlo zhi zlp zll zlv) ((9, nv B a9, 0, nI (hd (B a9)), 0, 0))) H := hP
                        have hD9 : va_D A ((fun (u : Int32 × Int64 × Int32 × Int32 × Int64 × Int64) => w1 h a b cI cJ f g zt (nI n8) zc u.1 u.2.1 u.2.2.1 u.2.2.2.1 u.2.2.2.2.1 u.2.2.2.2.2 zlk zlo zhi zlp zll zlv) ((9, nv B a9, 0, nI (hd (B a9)), 0, 0))) := hD
                        exact W.iret (v := -4) hx hb hr (fun t ht hW => ⟨⟨-4, (9, nv B a9, 0, nI (hd (B a9)), 0, 0), rfl, (lkneg (lk4 hB hn8 q1 q2 q3 (by rw [hk]; decide) c_302) (by decide)), by rw [ht]; exact hP9, va_K.moved hW.alike hK, hD9⟩, hS.F ht⟩) hS.2.2 dX1_look_220
                  · skip
                    exact absurd (by decide) c_300
                · skip
                  exact absurd c_299 (by decide)
              · skip
                exact absurd c_298 (by decide)
            · skip
              have q5 : wd (B a9) = 0 := (nI_z (by omega)).mp c_293
              refine lv_iload_n hx hb dX1_look_84 rfl (lv_at hl 1 rfl) ?_
              refine gsl (As := [.int (nI (B a9))]) (rest := [.ref h]) ⟨hx, hb, hml, hown, hts⟩ (c_X1_ownNumber l dC dI tk tw _ (B a9) (hB a9)) (va_cwS 1 hts gX1_look_X1_ownNumber rfl rfl rfl (by decide +kernel) ⟨Nat.le_of_ble_eq_true rfl, Nat.le_of_ble_eq_true rfl⟩) hP hS hA hZ rfl hl.1 rfl (Nat.le_of_ble_eq_true rfl) dX1_look_85 ⟨Nat.le_of_ble_eq_true rfl, Nat.le_of_ble_eq_true rfl⟩ (fun r_309 H locs hw_308 hP hS => ?_)
              obtain rfl : r_309 = nv B a9 := hw_308.trans (nv_w0 q5).symm
              refine lv_goto (tgt := 99) hx hb dX1_look_88 (by decide) ?_
              refine va_put (D := (dC, dI)) (ci := 1) (v := .long (nv B a9)) (ty := .long) (C := RX1) (T := TX1) (N := 17) hx hb hts hin0 tyX1 tyX1_ok nmX1 hown hK hP hD hS 0 rfl rfl 5 (by decide) fl61 (fun _ h9 => h9) rfl (by decide +kernel) rfl rfl (Nat.le_of_ble_eq_true rfl) dX1_look_99 (fun H locs hP hD hS => ?_)
              have hP : va_P (dC, dI) vwCl (w1 h a b cI cJ f g zt (nI n8) zc 9 (nv B a9) zty (nI (hd (B a9))) zpa zch zlk zlo zhi zlp zll zlv) H := hP
              have hD : va_D A (w1 h a b cI cJ f g zt (nI n8) zc 9 (nv B a9) zty (nI (hd (B a9))) zpa zch zlk zlo zhi zlp zll zlv) := hD
              refine lv_aload_n hx hb dX1_look_102 rfl (lv_at hl 2 rfl) ?_
              refine va_get (D := (dC, dI)) (ci := 1) (v := .int 9) (C := RX1) (T := TX1) (N := 17) hx hb hts hin0 hown hK hP 0 rfl rfl 4 (by decide) fl47 (fun _ h9 => h9) rfl dX1_look_103 ?_
              refine lv_iconst (v := 5) hx hb dX1_look_106 (by decide) ?_
              refine lv_icmp_ne (tgt := 138) hx hb dX1_look_107 (by decide) (fun c_310 => ?_) (fun c_310 => ?_)
              · skip
                refine lv_aload_n hx hb dX1_look_138 rfl (lv_at hl 2 rfl) ?_
                refine va_get (D := (dC, dI)) (ci := 1) (v := .int 9) (C := RX1) (T := TX1) (N := 17) hx hb hts hin0 hown hK hP 0 rfl rfl 4 (by decide) fl47 (fun _ h9 => h9) rfl dX1_look_139 ?_
                refine lv_bipush (v := 12) hx hb dX1_look_142 (by decide) ?_
                refine lv_icmp_ne (tgt := 163) hx hb dX1_look_144 (by decide) (fun c_311 => ?_) (fun c_311 => ?_)
                · skip
                  refine lv_iconst (v := 0) hx hb dX1_look_163 (by decide) ?_
                  refine lv_istore (lv' := [(4, .int 0), (3, .int (nI (wd (B a9)))), (2, .int (nI (B a9))), (0, .ref h), (1, .int (nI a9))]) hx hb dX1_look_164 hl (by decide) rfl (fun ls hl => ?_)
                  refine lv_aload_n hx hb dX1_look_166 rfl (lv_at hl 3 rfl) ?_
                  refine lv_iload hx hb dX1_look_167 (lv_at hl 0 rfl) ?_
                  refine lv_bipush (v := 127) hx hb dX1_look_169 (by decide) ?_
                  refine lv_icmp_le (tgt := 183) hx hb dX1_look_171 (by decide) (fun c_312 => ?_) (fun c_312 => ?_)
                  · skip
                    refine lv_iload hx hb dX1_look_183 (lv_at hl 0 rfl) ?_
                    refine va_put (D := (dC, dI)) (ci := 1) (v := .int 0) (ty := .int) (C := RX1) (T := TX1) (N := 17) hx hb hts hin0 tyX1 tyX1_ok nmX1 hown hK hP hD hS 0 rfl rfl 6 (by decide) fl65 (fun _ h9 => h9) rfl (by decide +kernel) rfl rfl (Nat.le_of_ble_eq_true rfl) dX1_look_185 (fun H locs hP hD hS => ?_)
                    have hP : va_P (dC, dI) vwCl (w1 h a b cI cJ f g zt (nI n8) zc 9 (nv B a9) 0 (nI (hd (B a9))) zpa zch zlk zlo zhi zlp zll zlv) H := hP
                    have hD : va_D A (w1 h a b cI cJ f g zt (nI n8) zc 9 (nv B a9) 0 (nI (hd (B a9))) zpa zch zlk zlo zhi zlp zll zlv) := hD
                    refine lv_aload_n hx hb dX1_look_188 rfl (lv_at hl 3 rfl) ?_
                    refine lv_lconst (v := 0) hx hb dX1_look_189 (by decide) ?_
                    refine va_put (D := (dC, dI)) (ci := 1) (v := .long 0) (ty := .long) (C := RX1) (T := TX1) (N := 17) hx hb hts hin0 tyX1 tyX1_ok nmX1 hown hK hP hD hS 0 rfl rfl 8 (by decide) fl68 (fun _ h9 => h9) rfl (by decide +kernel) rfl rfl (Nat.le_of_ble_eq_true rfl) dX1_look_190 (fun H locs hP hD hS => ?_)
                    have hP : va_P (dC, dI) vwCl (w1 h a b cI cJ f g zt (nI n8) zc 9 (nv B a9) 0 (nI (hd (B a9))) 0 zch zlk zlo zhi zlp zll zlv) H := hP
                    have hD : va_D A (w1 h a b cI cJ f g zt (nI n8) zc 9 (nv B a9) 0 (nI (hd (B a9))) 0 zch zlk zlo zhi zlp zll zlv) := hD
                    refine lv_aload_n hx hb dX1_look_193 rfl (lv_at hl 3 rfl) ?_
                    refine lv_lconst (v := 0) hx hb dX1_look_194 (by decide) ?_
                    refine va_put (D := (dC, dI)) (ci := 1) (v := .long 0) (ty := .long) (C := RX1) (T := TX1) (N := 17) hx hb hts hin0 tyX1 tyX1_ok nmX1 hown hK hP hD hS 0 rfl rfl 9 (by decide) fl71 (fun _ h9 => h9) rfl (by decide +kernel) rfl rfl (Nat.le_of_ble_eq_true rfl) dX1_look_195 (fun H locs hP hD hS => ?_)
                    have hP : va_P (dC, dI) vwCl (w1 h a b cI cJ f g zt (nI n8) zc 9 (nv B a9) 0 (nI (hd (B a9))) 0 0 zlk zlo zhi zlp zll zlv) H := hP
                    have hD : va_D A (w1 h a b cI cJ f g zt (nI n8) zc 9 (nv B a9) 0 (nI (hd (B a9))) 0 0 zlk zlo zhi zlp zll zlv) := hD
                    refine lv_aload_n hx hb dX1_look_198 rfl (lv_at hl 3 rfl) ?_
                    refine va_get (D := (dC, dI)) (ci := 1) (v := .int 9) (C := RX1) (T := TX1) (N := 17) hx hb hts hin0 hown hK hP 0 rfl rfl 4 (by decide) fl47 (fun _ h9 => h9) rfl dX1_look_199 ?_
                    refine lv_bipush (v := 7) hx hb dX1_look_202 (by decide) ?_
                    refine lv_icmp_le (tgt := 221) hx hb dX1_look_204 (by decide) (fun c_313 => ?_) (fun c_313 => ?_)
                    · skip
                      exact absurd c_313 (by decide)
                    · skip
                      refine lv_aload_n hx hb dX1_look_207 rfl (lv_at hl 3 rfl) ?_
                      refine va_get (D := (dC, dI)) (ci := 1) (v := .long (nv B a9)) (C := RX1) (T := TX1) (N := 17) hx hb hts hin0 hown hK hP 0 rfl rfl 5 (by decide) fl61 (fun _ h9 => h9) rfl dX1_look_208 ?_
                      refine lv_ldc2 (v := 2147483647) hx hb hown (hts (.constantLong RX1 74 (2147483647)) (by decide +kernel)) dX1_look_211 ?_
                      refine W.lcmp hx hb dX1_look_214 ?_
                      refine lv_if_le (tgt := 221) hx hb dX1_look_215 (by decide) (fun c_314 => ?_) (fun c_314 => ?_)
                      · skip
                        have c_314 := (lg_cmp_le (nv B a9) (2147483647 : Int64)).mp c_314
                        have q6 : 8 ≤ kd (B a9) → nv B a9 ≤ 2147483647 := fun _ => c_314
                        refine lv_aload_n hx hb dX1_look_221 rfl (lv_at hl 3 rfl) ?_
                        refine va_get (D := (dC, dI)) (ci := 1) (v := .int 9) (C := RX1) (T := TX1) (N := 17) hx hb hts hin0 hown hK hP 0 rfl rfl 4 (by decide) fl47 (fun _ h9 => h9) rfl dX1_look_222 ?_
                        refine lv_bipush (v := 8) hx hb dX1_look_225 (by decide) ?_
                        refine lv_icmp_eq (tgt := 248) hx hb dX1_look_227 (by decide) (fun c_315 => ?_) (fun c_315 => ?_)
                        · skip
                          exact absurd c_315 (by decide)
                        · skip
                          refine lv_aload_n hx hb dX1_look_230 rfl (lv_at hl 3 rfl) ?_
                          refine va_get (D := (dC, dI)) (ci := 1) (v := .int 9) (C := RX1) (T := TX1) (N := 17) hx hb hts hin0 hown hK hP 0 rfl rfl 4 (by decide) fl47 (fun _ h9 => h9) rfl dX1_look_231 ?_
                          refine lv_bipush (v := 9) hx hb dX1_look_234 (by decide) ?_
                          refine lv_icmp_eq (tgt := 248) hx hb dX1_look_236 (by decide) (fun c_316 => ?_) (fun c_316 => ?_)
                          · skip
                            refine lv_aload_n hx hb dX1_look_248 rfl (lv_at hl 3 rfl) ?_
                            refine lv_aload_n hx hb dX1_look_249 rfl (lv_at hl 3 rfl) ?_
                            refine va_get (D := (dC, dI)) (ci := 1) (v := .long (nv B a9)) (C := RX1) (T := TX1) (N := 17) hx hb hts hin0 hown hK hP 0 rfl rfl 5 (by decide) fl61 (fun _ h9 => h9) rfl dX1_look_250 ?_
                            refine va_put (D := (dC, dI)) (ci := 1) (v := .long (nv B a9)) (ty := .long) (C := RX1) (T := TX1) (N := 17) hx hb hts hin0 tyX1 tyX1_ok nmX1 hown hK hP hD hS 0 rfl rfl 8 (by decide) fl68 (fun _ h9 => h9) rfl (by decide +kernel) rfl rfl (Nat.le_of_ble_eq_true rfl) dX1_look_253 (fun H locs hP hD hS => ?_)
                            have hP : va_P (dC, dI) vwCl (w1 h a b cI cJ f g zt (nI n8) zc 9 (nv B a9) 0 (nI (hd (B a9))) (nv B a9) 0 zlk zlo zhi zlp zll zlv) H := hP
                            have hD : va_D A (w1 h a b cI cJ f g zt (nI n8) zc 9 (nv B a9) 0 (nI (hd (B a9))) (nv B a9) 0 zlk zlo zhi zlp zll zlv) := hD
                            refine lv_aload_n hx hb dX1_look_256 rfl (lv_at hl 3 rfl) ?_
                            refine va_get (D := (dC, dI)) (ci := 1) (v := .int 9) (C := RX1) (T := TX1) (N := 17) hx hb hts hin0 hown hK hP 0 rfl rfl 4 (by decide) fl47 (fun _ h9 => h9) rfl dX1_look_257 ?_
                            refine lv_bipush (v := 10) hx hb dX1_look_260 (by decide) ?_
                            refine lv_icmp_ne (tgt := 273) hx hb dX1_look_262 (by decide) (fun c_317 => ?_) (fun c_317 => ?_)
                            · skip
                              refine lv_aload_n hx hb dX1_look_273 rfl (lv_at hl 3 rfl) ?_
                              refine va_get (D := (dC, dI)) (ci := 1) (v := .int 9) (C := RX1) (T := TX1) (N := 17) hx hb hts hin0 hown hK hP 0 rfl rfl 4 (by decide) fl47 (fun _ h9 => h9) rfl dX1_look_274 ?_
                              refine lv_bipush (v := 11) hx hb dX1_look_277 (by decide) ?_
                              refine lv_icmp_ne (tgt := 294) hx hb dX1_look_279 (by decide) (fun c_318 => ?_) (fun c_318 => ?_)
                              · skip
                                have q7 : paL B a9 = nv B a9 := by simp [paL, hp, hk]
                                refine lv_iload_n hx hb dX1_look_294 rfl (lv_at hl 4 rfl) ?_
                                refine lv_aload_n hx hb dX1_look_295 rfl (lv_at hl 3 rfl) ?_
                                refine va_get (D := (dC, dI)) (ci := 1) (v := .int (nI (hd (B a9)))) (C := RX1) (T := TX1) (N := 17) hx hb hts hin0 hown hK hP 0 rfl rfl 7 (by decide) fl50 (fun _ h9 => h9) rfl dX1_look_296 ?_
                                refine lv_iadd hx hb dX1_look_299 ?_
                                refine lv_i2l hx hb dX1_look_300 rfl ?_
                                refine lv_aload_n hx hb dX1_look_301 rfl (lv_at hl 3 rfl) ?_
                                refine va_get (D := (dC, dI)) (ci := 1) (v := .long (nv B a9)) (C := RX1) (T := TX1) (N := 17) hx hb hts hin0 hown hK hP 0 rfl rfl 8 (by decide) fl68 (fun _ h9 => h9) rfl dX1_look_302 ?_
                                refine lv_ladd hx hb dX1_look_305 ?_
                                refine lv_aload_n hx hb dX1_look_306 rfl (lv_at hl 3 rfl) ?_
                                refine va_get (D := (dC, dI)) (ci := 1) (v := .int (nI n8)) (C := RX1) (T := TX1) (N := 17) hx hb hts hin0 hown hK hP 0 rfl rfl 2 (by decide) fl28 (fun _ h9 => h9) rfl dX1_look_307 ?_
                                refine lv_i2l hx hb dX1_look_310 rfl ?_
                                refine W.lcmp hx hb dX1_look_311 ?_
                                refine lv_if_le (tgt := 320) hx hb dX1_look_312 (by decide) (fun c_319 => ?_) (fun c_319 => ?_)
                                · skip
                                  have c_319 := (lg_cmp_le ((((nI a9) + (nI (hd (B a9)))).toInt64) + (nv B a9)) ((nI n8).toInt64)).mp c_319
                                  refine lv_iconst (v := 0) hx hb dX1_look_320 (by decide) ?_
                                  have hP9 : va_P (dC, dI) vwCl ((fun (u : Int32 × Int64 × Int32 × Int32 × Int64 × Int64) => w1 h a b cI cJ f g zt (nI n8) zc u.1 u.2.1 u.2.2.1 u.2.2.2.1 u.2.2.2.2.1 u.2.2.2.2.2 zlk zlo zhi zlp zll zlv) ((9, nv B a9, 0, nI (hd (B a9)), nv B a9, 0))) H := hP
                                  have hD9 : va_D A ((fun (u : Int32 × Int64 × Int32 × Int32 × Int64 × Int64) => w1 h a b cI cJ f g zt (nI n8) zc u.1 u.2.1 u.2.2.1 u.2.2.2.1 u.2.2.2.2.1 u.2.2.2.2.2 zlk zlo zhi zlp zll zlv) ((9, nv B a9, 0, nI (hd (B a9)), nv B a9, 0))) := hD
                                  exact W.iret (v := 0) hx hb hr (fun t ht hW => ⟨⟨0, (9, nv B a9, 0, nI (hd (B a9)), nv B a9, 0), rfl, (by have q8 := (lk_end hB hn8 q1 q2 q3 q6).1 (by rw [q7]; exact c_319); exact Or.inr ⟨by rw [q8]; exact nI_pos (by have := kd_le _ (hB a9); omega), rfl, by rw [hk]; rfl, rfl, fun z => absurd (hk.symm.trans z) (by decide), rfl, q7.symm, by simp [ch, hk]⟩), by rw [ht]; exact hP9, va_K.moved hW.alike hK, hD9⟩, hS.F ht⟩) hS.2.2 dX1_look_321
                                · skip
                                  have c_319 := (not_congr (lg_cmp_le ((((nI a9) + (nI (hd (B a9)))).toInt64) + (nv B a9)) ((nI n8).toInt64))).mp c_319
                                  refine lv_bipush (v := -2) hx hb dX1_look_315 (by decide) ?_
                                  refine lv_goto (tgt := 321) hx hb dX1_look_317 (by decide) ?_
                                  have hP9 : va_P (dC, dI) vwCl ((fun (u : Int32 × Int64 × Int32 × Int32 × Int64 × Int64) => w1 h a b cI cJ f g zt (nI n8) zc u.1 u.2.1 u.2.2.1 u.2.2.2.1 u.2.2.2.2.1 u.2.2.2.2.2 zlk zlo zhi zlp zll zlv) ((9, nv B a9, 0, nI (hd (B a9)), nv B a9, 0))) H := hP
                                  have hD9 : va_D A ((fun (u : Int32 × Int64 × Int32 × Int32 × Int64 × Int64) => w1 h a b cI cJ f g zt (nI n8) zc u.1 u.2.1 u.2.2.1 u.2.2.2.1 u.2.2.2.2.1 u.2.2.2.2.2 zlk zlo zhi zlp zll zlv) ((9, nv B a9, 0, nI (hd (B a9)), nv B a9, 0))) := hD
                                  exact W.iret (v := -2) hx hb hr (fun t ht hW => ⟨⟨-2, (9, nv B a9, 0, nI (hd (B a9)), nv B a9, 0), rfl, (lkneg ((lk_end hB hn8 q1 q2 q3 q6).2 (by rw [q7]; exact c_319)) (by decide)), by rw [ht]; exact hP9, va_K.moved hW.alike hK, hD9⟩, hS.F ht⟩) hS.2.2 dX1_look_321
                              · skip
                                exact absurd c_318 (by decide)
                            · skip
                              exact absurd c_317 (by decide)
                          · skip
                            exact absurd (by decide) c_316
                      · skip
                        have c_314 := (not_congr (lg_cmp_le (nv B a9) (2147483647 : Int64))).mp c_314
                        refine lv_bipush (v := -4) hx hb dX1_look_218 (by decide) ?_
                        have hP9 : va_P (dC, dI) vwCl ((fun (u : Int32 × Int64 × Int32 × Int32 × Int64 × Int64) => w1 h a b cI cJ f g zt (nI n8) zc u.1 u.2.1 u.2.2.1 u.2.2.2.1 u.2.2.2.2.1 u.2.2.2.2.2 zlk zlo zhi zlp zll zlv) ((9, nv B a9, 0, nI (hd (B a9)), 0, 0))) H := hP
                        have hD9 : va_D A ((fun (u : Int32 × Int64 × Int32 × Int32 × Int64 × Int64) => w1 h a b cI cJ f g zt (nI n8) zc u.1 u.2.1 u.2.2.1 u.2.2.2.1 u.2.2.2.2.1 u.2.2.2.2.2 zlk zlo zhi zlp zll zlv) ((9, nv B a9, 0, nI (hd (B a9)), 0, 0))) := hD
                        exact W.iret (v := -4) hx hb hr (fun t ht hW => ⟨⟨-4, (9, nv B a9, 0, nI (hd (B a9)), 0, 0), rfl, (lkneg (lk4 hB hn8 q1 q2 q3 (by rw [hk]; decide) c_314) (by decide)), by rw [ht]; exact hP9, va_K.moved hW.alike hK, hD9⟩, hS.F ht⟩) hS.2.2 dX1_look_220
                  · skip
                    exact absurd (by decide) c_312
                · skip
                  exact absurd c_311 (by decide)
              · skip
                exact absurd c_310 (by decide)
          · skip
            refine lv_bipush (v := -2) hx hb dX1_look_76 (by decide) ?_
            have hP9 : va_P (dC, dI) vwCl ((fun (u : Int32 × Int64 × Int32 × Int32 × Int64 × Int64) => w1 h a b cI cJ f g zt (nI n8) zc u.1 u.2.1 u.2.2.1 u.2.2.2.1 u.2.2.2.2.1 u.2.2.2.2.2 zlk zlo zhi zlp zll zlv) ((9, znu, zty, nI (hd (B a9)), zpa, zch))) H := hP
            have hD9 : va_D A ((fun (u : Int32 × Int64 × Int32 × Int32 × Int64 × Int64) => w1 h a b cI cJ f g zt (nI n8) zc u.1 u.2.1 u.2.2.1 u.2.2.2.1 u.2.2.2.2.1 u.2.2.2.2.2 zlk zlo zhi zlp zll zlv) ((9, znu, zty, nI (hd (B a9)), zpa, zch))) := hD
            exact W.iret (v := -2) hx hb hr (fun t ht hW => ⟨⟨-2, (9, znu, zty, nI (hd (B a9)), zpa, zch), rfl, (lkneg (lk3 hB hn8 q1 q2 (by have q4 := hd_le _ (hB a9); have z := (not_congr (nI_leI (a := a9 + hd (B a9)) (b := n8) (by omega) (by omega))).mp c_292; omega)) (by decide)), by rw [ht]; exact hP9, va_K.moved hW.alike hK, hD9⟩, hS.F ht⟩) hS.2.2 dX1_look_78
        · skip
          exact absurd c_289 (by decide)
      · skip
        have q2 : ¬ B a9 = 193 := fun z => c_3 (by rw [z]; rfl)
        refine lv_iload_n hx hb dX1_look_28 rfl (lv_at hl 0 rfl) ?_
        refine gsi (As := [.int (nI (B a9))]) (rest := []) ⟨hx, hb, hml, hown, hts⟩ (c_X1_widthOf l dC dI tk tw _ (B a9) (hB a9)) (va_cwS 1 hts gX1_look_X1_widthOf rfl rfl rfl (by decide +kernel) ⟨Nat.le_of_ble_eq_true rfl, Nat.le_of_ble_eq_true rfl⟩) hP hS hA hZ rfl hl.1 rfl (Nat.le_of_ble_eq_true rfl) dX1_look_29 ⟨Nat.le_of_ble_eq_true rfl, Nat.le_of_ble_eq_true rfl⟩ (fun r_321 H locs hw_320 hP hS => ?_)
        obtain rfl : r_321 = nI (wd (B a9)) := hw_320
        refine lv_istore_n (lv' := [(3, .int (nI (wd (B a9)))), (2, .int (nI (B a9))), (0, .ref h), (1, .int (nI a9))]) hx hb dX1_look_32 rfl hl (by decide) rfl (fun ls hl => ?_)
        refine lv_aload_n hx hb dX1_look_33 rfl (lv_at hl 2 rfl) ?_
        refine lv_iload_n hx hb dX1_look_34 rfl (lv_at hl 1 rfl) ?_
        refine gsi (As := [.int (nI (B a9))]) (rest := [.ref h]) ⟨hx, hb, hml, hown, hts⟩ (c_X1_kindOf l dC dI tk tw _ (B a9) (hB a9) q2) (va_cwS 1 hts gX1_look_X1_kindOf rfl rfl rfl (by decide +kernel) ⟨Nat.le_of_ble_eq_true rfl, Nat.le_of_ble_eq_true rfl⟩) hP hS hA hZ rfl hl.1 rfl (Nat.le_of_ble_eq_true rfl) dX1_look_35 ⟨Nat.le_of_ble_eq_true rfl, Nat.le_of_ble_eq_true rfl⟩ (fun r_323 H locs hw_322 hP hS => ?_)
        obtain rfl : r_323 = 10 := hw_322.trans (by rw [hk]; rfl)
        refine va_put (D := (dC, dI)) (ci := 1) (v := .int 10) (ty := .int) (C := RX1) (T := TX1) (N := 17) hx hb hts hin0 tyX1 tyX1_ok nmX1 hown hK hP hD hS 0 rfl rfl 4 (by decide) fl47 (fun _ h9 => h9) rfl (by decide +kernel) rfl rfl (Nat.le_of_ble_eq_true rfl) dX1_look_38 (fun H locs hP hD hS => ?_)
        have hP : va_P (dC, dI) vwCl (w1 h a b cI cJ f g zt (nI n8) zc 10 znu zty zhd zpa zch zlk zlo zhi zlp zll zlv) H := hP
        have hD : va_D A (w1 h a b cI cJ f g zt (nI n8) zc 10 znu zty zhd zpa zch zlk zlo zhi zlp zll zlv) := hD
        refine lv_aload_n hx hb dX1_look_41 rfl (lv_at hl 2 rfl) ?_
        refine lv_iconst (v := 1) hx hb dX1_look_42 (by decide) ?_
        refine lv_iload_n hx hb dX1_look_43 rfl (lv_at hl 0 rfl) ?_
        refine lv_iadd hx hb dX1_look_44 ?_
        refine lv_aload_n hx hb dX1_look_45 rfl (lv_at hl 2 rfl) ?_
        refine va_get (D := (dC, dI)) (ci := 1) (v := .int 10) (C := RX1) (T := TX1) (N := 17) hx hb hts hin0 hown hK hP 0 rfl rfl 4 (by decide) fl47 (fun _ h9 => h9) rfl dX1_look_46 ?_
        refine lv_bipush (v := 12) hx hb dX1_look_49 (by decide) ?_
        refine lv_icmp_ne (tgt := 58) hx hb dX1_look_51 (by decide) (fun c_324 => ?_) (fun c_324 => ?_)
        · skip
          refine lv_iconst (v := 0) hx hb dX1_look_58 (by decide) ?_
          refine lv_iadd hx hb dX1_look_59 ?_
          have e_325 : ((1 + (nI (wd (B a9)))) + 0 : Int32) = nI (hd (B a9)) := hdn (by rw [hk]; decide)
          rw [e_325]
          refine va_put (D := (dC, dI)) (ci := 1) (v := .int (nI (hd (B a9)))) (ty := .int) (C := RX1) (T := TX1) (N := 17) hx hb hts hin0 tyX1 tyX1_ok nmX1 hown hK hP hD hS 0 rfl rfl 7 (by decide) fl50 (fun _ h9 => h9) rfl (by decide +kernel) rfl rfl (Nat.le_of_ble_eq_true rfl) dX1_look_60 (fun H locs hP hD hS => ?_)
          have hP : va_P (dC, dI) vwCl (w1 h a b cI cJ f g zt (nI n8) zc 10 znu zty (nI (hd (B a9))) zpa zch zlk zlo zhi zlp zll zlv) H := hP
          have hD : va_D A (w1 h a b cI cJ f g zt (nI n8) zc 10 znu zty (nI (hd (B a9))) zpa zch zlk zlo zhi zlp zll zlv) := hD
          refine lv_iload_n hx hb dX1_look_63 rfl (lv_at hl 3 rfl) ?_
          refine lv_aload_n hx hb dX1_look_64 rfl (lv_at hl 2 rfl) ?_
          refine va_get (D := (dC, dI)) (ci := 1) (v := .int (nI (hd (B a9)))) (C := RX1) (T := TX1) (N := 17) hx hb hts hin0 hown hK hP 0 rfl rfl 7 (by decide) fl50 (fun _ h9 => h9) rfl dX1_look_65 ?_
          refine lv_iadd hx hb dX1_look_68 ?_
          have e_326 : ((nI a9) + (nI (hd (B a9))) : Int32) = nI (a9 + hd (B a9)) := nI_add _ _
          rw [e_326]
          refine lv_aload_n hx hb dX1_look_69 rfl (lv_at hl 2 rfl) ?_
          refine va_get (D := (dC, dI)) (ci := 1) (v := .int (nI n8)) (C := RX1) (T := TX1) (N := 17) hx hb hts hin0 hown hK hP 0 rfl rfl 2 (by decide) fl28 (fun _ h9 => h9) rfl dX1_look_70 ?_
          refine lv_icmp_le (tgt := 79) hx hb dX1_look_73 (by decide) (fun c_327 => ?_) (fun c_327 => ?_)
          · skip
            have q4 := hd_le _ (hB a9)
            have q3 : a9 + hd (B a9) ≤ n8 := (nI_leI (by omega) (by omega)).mp c_327
            refine lv_aload_n hx hb dX1_look_79 rfl (lv_at hl 2 rfl) ?_
            refine lv_iload_n hx hb dX1_look_80 rfl (lv_at hl 0 rfl) ?_
            refine lv_if_ne (tgt := 91) hx hb dX1_look_81 (by decide) (fun c_328 => ?_) (fun c_328 => ?_)
            · skip
              have q5 : ¬ wd (B a9) = 0 := fun z => c_328 (by rw [z]; rfl)
              refine lv_aload_n hx hb dX1_look_91 rfl (lv_at hl 2 rfl) ?_
              refine lv_iload_n hx hb dX1_look_92 rfl (lv_at hl 3 rfl) ?_
              refine lv_iconst (v := 1) hx hb dX1_look_93 (by decide) ?_
              refine lv_iadd hx hb dX1_look_94 ?_
              refine lv_iload_n hx hb dX1_look_95 rfl (lv_at hl 0 rfl) ?_
              have e_331 : ((nI a9) + 1 : Int32) = nI (a9 + 1) := nI_1 a9
              rw [e_331]
              refine gvl (As := [.int (nI (a9 + 1)), .int (nI (wd (B a9)))]) (rest := [.ref h]) ⟨hx, hb, hml, hown, hts⟩ (c_X1_numberAt l dC dI tk tw h a b cI cJ _ f g zt (nI n8) zc 10 znu zty (nI (hd (B a9))) zpa zch zlk zlo zhi zlp zll zlv B (a9 + 1) (wd (B a9)) (by omega) (fun j hj => hf9 j (by omega))) (cwV 2 hts gX1_look_X1_numberAt rfl rfl rfl (by decide +kernel) ⟨Nat.le_of_ble_eq_true rfl, Nat.le_of_ble_eq_true rfl⟩) hK hP hD hS hA hZ (q0 := 0) (ci := 1) rfl rfl rfl rfl hl.1 rfl (Nat.le_of_ble_eq_true rfl) dX1_look_96 ⟨Nat.le_of_ble_eq_true rfl, Nat.le_of_ble_eq_true rfl⟩ (fun r_330 u_332 H locs hw_329 hP hD hS => ?_)
              obtain rfl : r_330 = nv B a9 := hw_329.trans (nv_w1 q5 (by rw [hk]; decide)).symm
              refine va_put (D := (dC, dI)) (ci := 1) (v := .long (nv B a9)) (ty := .long) (C := RX1) (T := TX1) (N := 17) hx hb hts hin0 tyX1 tyX1_ok nmX1 hown hK hP hD hS 0 rfl rfl 5 (by decide) fl61 (fun _ h9 => h9) rfl (by decide +kernel) rfl rfl (Nat.le_of_ble_eq_true rfl) dX1_look_99 (fun H locs hP hD hS => ?_)
              have hP : va_P (dC, dI) vwCl (w1 h a b cI cJ f g zt (nI n8) zc 10 (nv B a9) zty (nI (hd (B a9))) zpa zch zlk zlo zhi zlp zll zlv) H := hP
              have hD : va_D A (w1 h a b cI cJ f g zt (nI n8) zc 10 (nv B a9) zty (nI (hd (B a9))) zpa zch zlk zlo zhi zlp zll zlv) := hD
              refine lv_aload_n hx hb dX1_look_102 rfl (lv_at hl 2 rfl) ?_
              refine va_get (D := (dC, dI)) (ci := 1) (v := .int 10) (C := RX1) (T := TX1) (N := 17) hx hb hts hin0 hown hK hP 0 rfl rfl 4 (by decide) fl47 (fun _ h9 => h9) rfl dX1_look_103 ?_
              refine lv_iconst (v := 5) hx hb dX1_look_106 (by decide) ?_
              refine lv_icmp_ne (tgt := 138) hx hb dX1_look_107 (by decide) (fun c_333 => ?_) (fun c_333 => ?_)
              · skip
                refine lv_aload_n hx hb dX1_look_138 rfl (lv_at hl 2 rfl) ?_
                refine va_get (D := (dC, dI)) (ci := 1) (v := .int 10) (C := RX1) (T := TX1) (N := 17) hx hb hts hin0 hown hK hP 0 rfl rfl 4 (by decide) fl47 (fun _ h9 => h9) rfl dX1_look_139 ?_
                refine lv_bipush (v := 12) hx hb dX1_look_142 (by decide) ?_
                refine lv_icmp_ne (tgt := 163) hx hb dX1_look_144 (by decide) (fun c_334 => ?_) (fun c_334 => ?_)
                · skip
                  refine lv_iconst (v := 0) hx hb dX1_look_163 (by decide) ?_
                  refine lv_istore (lv' := [(4, .int 0), (3, .int (nI (wd (B a9)))), (2, .int (nI (B a9))), (0, .ref h), (1, .int (nI a9))]) hx hb dX1_look_164 hl (by decide) rfl (fun ls hl => ?_)
                  refine lv_aload_n hx hb dX1_look_166 rfl (lv_at hl 3 rfl) ?_
                  refine lv_iload hx hb dX1_look_167 (lv_at hl 0 rfl) ?_
                  refine lv_bipush (v := 127) hx hb dX1_look_169 (by decide) ?_
                  refine lv_icmp_le (tgt := 183) hx hb dX1_look_171 (by decide) (fun c_335 => ?_) (fun c_335 => ?_)
                  · skip
                    refine lv_iload hx hb dX1_look_183 (lv_at hl 0 rfl) ?_
                    refine va_put (D := (dC, dI)) (ci := 1) (v := .int 0) (ty := .int) (C := RX1) (T := TX1) (N := 17) hx hb hts hin0 tyX1 tyX1_ok nmX1 hown hK hP hD hS 0 rfl rfl 6 (by decide) fl65 (fun _ h9 => h9) rfl (by decide +kernel) rfl rfl (Nat.le_of_ble_eq_true rfl) dX1_look_185 (fun H locs hP hD hS => ?_)
                    have hP : va_P (dC, dI) vwCl (w1 h a b cI cJ f g zt (nI n8) zc 10 (nv B a9) 0 (nI (hd (B a9))) zpa zch zlk zlo zhi zlp zll zlv) H := hP
                    have hD : va_D A (w1 h a b cI cJ f g zt (nI n8) zc 10 (nv B a9) 0 (nI (hd (B a9))) zpa zch zlk zlo zhi zlp zll zlv) := hD
                    refine lv_aload_n hx hb dX1_look_188 rfl (lv_at hl 3 rfl) ?_
                    refine lv_lconst (v := 0) hx hb dX1_look_189 (by decide) ?_
                    refine va_put (D := (dC, dI)) (ci := 1) (v := .long 0) (ty := .long) (C := RX1) (T := TX1) (N := 17) hx hb hts hin0 tyX1 tyX1_ok nmX1 hown hK hP hD hS 0 rfl rfl 8 (by decide) fl68 (fun _ h9 => h9) rfl (by decide +kernel) rfl rfl (Nat.le_of_ble_eq_true rfl) dX1_look_190 (fun H locs hP hD hS => ?_)
                    have hP : va_P (dC, dI) vwCl (w1 h a b cI cJ f g zt (nI n8) zc 10 (nv B a9) 0 (nI (hd (B a9))) 0 zch zlk zlo zhi zlp zll zlv) H := hP
                    have hD : va_D A (w1 h a b cI cJ f g zt (nI n8) zc 10 (nv B a9) 0 (nI (hd (B a9))) 0 zch zlk zlo zhi zlp zll zlv) := hD
                    refine lv_aload_n hx hb dX1_look_193 rfl (lv_at hl 3 rfl) ?_
                    refine lv_lconst (v := 0) hx hb dX1_look_194 (by decide) ?_
                    refine va_put (D := (dC, dI)) (ci := 1) (v := .long 0) (ty := .long) (C := RX1) (T := TX1) (N := 17) hx hb hts hin0 tyX1 tyX1_ok nmX1 hown hK hP hD hS 0 rfl rfl 9 (by decide) fl71 (fun _ h9 => h9) rfl (by decide +kernel) rfl rfl (Nat.le_of_ble_eq_true rfl) dX1_look_195 (fun H locs hP hD hS => ?_)
                    have hP : va_P (dC, dI) vwCl (w1 h a b cI cJ f g zt (nI n8) zc 10 (nv B a9) 0 (nI (hd (B a9))) 0 0 zlk zlo zhi zlp zll zlv) H := hP
                    have hD : va_D A (w1 h a b cI cJ f g zt (nI n8) zc 10 (nv B a9) 0 (nI (hd (B a9))) 0 0 zlk zlo zhi zlp zll zlv) := hD
                    refine lv_aload_n hx hb dX1_look_198 rfl (lv_at hl 3 rfl) ?_
                    refine va_get (D := (dC, dI)) (ci := 1) (v := .int 10) (C := RX1) (T := TX1) (N := 17) hx hb hts hin0 hown hK hP 0 rfl rfl 4 (by decide) fl47 (fun _ h9 => h9) rfl dX1_look_199 ?_
                    refine lv_bipush (v := 7) hx hb dX1_look_202 (by decide) ?_
                    refine lv_icmp_le (tgt := 221) hx hb dX1_look_204 (by decide) (fun c_336 => ?_) (fun c_336 => ?_)
                    · skip
                      exact absurd c_336 (by decide)
                    · skip
                      refine lv_aload_n hx hb dX1_look_207 rfl (lv_at hl 3 rfl) ?_
                      refine va_get (D := (dC, dI)) (ci := 1) (v := .long (nv B a9)) (C := RX1) (T := TX1) (N := 17) hx hb hts hin0 hown hK hP 0 rfl rfl 5 (by decide) fl61 (fun _ h9 => h9) rfl dX1_look_208 ?_
                      refine lv_ldc2 (v := 2147483647) hx hb hown (hts (.constantLong RX1 74 (2147483647)) (by decide +kernel)) dX1_look_211 ?_
                      refine W.lcmp hx hb dX1_look_214 ?_
                      refine lv_if_le (tgt := 221) hx hb dX1_look_215 (by decide) (fun c_337 => ?_) (fun c_337 => ?_)
                      · skip
                        have c_337 := (lg_cmp_le (nv B a9) (2147483647 : Int64)).mp c_337
                        have q6 : 8 ≤ kd (B a9) → nv B a9 ≤ 2147483647 := fun _ => c_337
                        refine lv_aload_n hx hb dX1_look_221 rfl (lv_at hl 3 rfl) ?_
                        refine va_get (D := (dC, dI)) (ci := 1) (v := .int 10) (C := RX1) (T := TX1) (N := 17) hx hb hts hin0 hown hK hP 0 rfl rfl 4 (by decide) fl47 (fun _ h9 => h9) rfl dX1_look_222 ?_
                        refine lv_bipush (v := 8) hx hb dX1_look_225 (by decide) ?_
                        refine lv_icmp_eq (tgt := 248) hx hb dX1_look_227 (by decide) (fun c_338 => ?_) (fun c_338 => ?_)
                        · skip
                          exact absurd c_338 (by decide)
                        · skip
                          refine lv_aload_n hx hb dX1_look_230 rfl (lv_at hl 3 rfl) ?_
                          refine va_get (D := (dC, dI)) (ci := 1) (v := .int 10) (C := RX1) (T := TX1) (N := 17) hx hb hts hin0 hown hK hP 0 rfl rfl 4 (by decide) fl47 (fun _ h9 => h9) rfl dX1_look_231 ?_
                          refine lv_bipush (v := 9) hx hb dX1_look_234 (by decide) ?_
                          refine lv_icmp_eq (tgt := 248) hx hb dX1_look_236 (by decide) (fun c_339 => ?_) (fun c_339 => ?_)
                          · skip
                            exact absurd c_339 (by decide)
                          · skip
                            refine lv_aload_n hx hb dX1_look_239 rfl (lv_at hl 3 rfl) ?_
                            refine va_get (D := (dC, dI)) (ci := 1) (v := .int 10) (C := RX1) (T := TX1) (N := 17) hx hb hts hin0 hown hK hP 0 rfl rfl 4 (by decide) fl47 (fun _ h9 => h9) rfl dX1_look_240 ?_
                            refine lv_bipush (v := 12) hx hb dX1_look_243 (by decide) ?_
                            refine lv_icmp_ne (tgt := 256) hx hb dX1_look_245 (by decide) (fun c_340 => ?_) (fun c_340 => ?_)
                            · skip
                              refine lv_aload_n hx hb dX1_look_256 rfl (lv_at hl 3 rfl) ?_
                              refine va_get (D := (dC, dI)) (ci := 1) (v := .int 10) (C := RX1) (T := TX1) (N := 17) hx hb hts hin0 hown hK hP 0 rfl rfl 4 (by decide) fl47 (fun _ h9 => h9) rfl dX1_look_257 ?_
                              refine lv_bipush (v := 10) hx hb dX1_look_260 (by decide) ?_
                              refine lv_icmp_ne (tgt := 273) hx hb dX1_look_262 (by decide) (fun c_341 => ?_) (fun c_341 => ?_)
                              · skip
                                exact absurd (by decide) c_341
                              · skip
                                refine lv_aload_n hx hb dX1_look_265 rfl (lv_at hl 3 rfl) ?_
                                refine lv_aload_n hx hb dX1_look_266 rfl (lv_at hl 3 rfl) ?_
                                refine va_get (D := (dC, dI)) (ci := 1) (v := .long (nv B a9)) (C := RX1) (T := TX1) (N := 17) hx hb hts hin0 hown hK hP 0 rfl rfl 5 (by decide) fl61 (fun _ h9 => h9) rfl dX1_look_267 ?_
                                refine va_put (D := (dC, dI)) (ci := 1) (v := .long (nv B a9)) (ty := .long) (C := RX1) (T := TX1) (N := 17) hx hb hts hin0 tyX1 tyX1_ok nmX1 hown hK hP hD hS 0 rfl rfl 9 (by decide) fl71 (fun _ h9 => h9) rfl (by decide +kernel) rfl rfl (Nat.le_of_ble_eq_true rfl) dX1_look_270 (fun H locs hP hD hS => ?_)
                                have hP : va_P (dC, dI) vwCl (w1 h a b cI cJ f g zt (nI n8) zc 10 (nv B a9) 0 (nI (hd (B a9))) 0 (nv B a9) zlk zlo zhi zlp zll zlv) H := hP
                                have hD : va_D A (w1 h a b cI cJ f g zt (nI n8) zc 10 (nv B a9) 0 (nI (hd (B a9))) 0 (nv B a9) zlk zlo zhi zlp zll zlv) := hD
                                refine lv_aload_n hx hb dX1_look_273 rfl (lv_at hl 3 rfl) ?_
                                refine va_get (D := (dC, dI)) (ci := 1) (v := .int 10) (C := RX1) (T := TX1) (N := 17) hx hb hts hin0 hown hK hP 0 rfl rfl 4 (by decide) fl47 (fun _ h9 => h9) rfl dX1_look_274 ?_
                                refine lv_bipush (v := 11) hx hb dX1_look_277 (by decide) ?_
                                refine lv_icmp_ne (tgt := 294) hx hb dX1_look_279 (by decide) (fun c_342 => ?_) (fun c_342 => ?_)
                                · skip
                                  have q7 : paL B a9 = 0 := by simp [paL, hp, hk]
                                  refine lv_iload_n hx hb dX1_look_294 rfl (lv_at hl 4 rfl) ?_
                                  refine lv_aload_n hx hb dX1_look_295 rfl (lv_at hl 3 rfl) ?_
                                  refine va_get (D := (dC, dI)) (ci := 1) (v := .int (nI (hd (B a9)))) (C := RX1) (T := TX1) (N := 17) hx hb hts hin0 hown hK hP 0 rfl rfl 7 (by decide) fl50 (fun _ h9 => h9) rfl dX1_look_296 ?_
                                  refine lv_iadd hx hb dX1_look_299 ?_
                                  refine lv_i2l hx hb dX1_look_300 rfl ?_
                                  refine lv_aload_n hx hb dX1_look_301 rfl (lv_at hl 3 rfl) ?_
                                  refine va_get (D := (dC, dI)) (ci := 1) (v := .long 0) (C := RX1) (T := TX1) (N := 17) hx hb hts hin0 hown hK hP 0 rfl rfl 8 (by decide) fl68 (fun _ h9 => h9) rfl dX1_look_302 ?_
                                  refine lv_ladd hx hb dX1_look_305 ?_
                                  refine lv_aload_n hx hb dX1_look_306 rfl (lv_at hl 3 rfl) ?_
                                  refine va_get (D := (dC, dI)) (ci := 1) (v := .int (nI n8)) (C := RX1) (T := TX1) (N := 17) hx hb hts hin0 hown hK hP 0 rfl rfl 2 (by decide) fl28 (fun _ h9 => h9) rfl dX1_look_307 ?_
                                  refine lv_i2l hx hb dX1_look_310 rfl ?_
                                  refine W.lcmp hx hb dX1_look_311 ?_
                                  refine lv_if_le (tgt := 320) hx hb dX1_look_312 (by decide) (fun c_343 => ?_) (fun c_343 => ?_)
                                  · skip
                                    have c_343 := (lg_cmp_le ((((nI a9) + (nI (hd (B a9)))).toInt64) + 0) ((nI n8).toInt64)).mp c_343
                                    refine lv_iconst (v := 0) hx hb dX1_look_320 (by decide) ?_
                                    have hP9 : va_P (dC, dI) vwCl ((fun (u : Int32 × Int64 × Int32 × Int32 × Int64 × Int64) => w1 h a b cI cJ f g zt (nI n8) zc u.1 u.2.1 u.2.2.1 u.2.2.2.1 u.2.2.2.2.1 u.2.2.2.2.2 zlk zlo zhi zlp zll zlv) ((10, nv B a9, 0, nI (hd (B a9)), 0, nv B a9))) H := hP
                                    have hD9 : va_D A ((fun (u : Int32 × Int64 × Int32 × Int32 × Int64 × Int64) => w1 h a b cI cJ f g zt (nI n8) zc u.1 u.2.1 u.2.2.1 u.2.2.2.1 u.2.2.2.2.1 u.2.2.2.2.2 zlk zlo zhi zlp zll zlv) ((10, nv B a9, 0, nI (hd (B a9)), 0, nv B a9))) := hD
                                    exact W.iret (v := 0) hx hb hr (fun t ht hW => ⟨⟨0, (10, nv B a9, 0, nI (hd (B a9)), 0, nv B a9), rfl, (by have q8 := (lk_end hB hn8 q1 q2 q3 q6).1 (by rw [q7]; exact c_343); exact Or.inr ⟨by rw [q8]; exact nI_pos (by have := kd_le _ (hB a9); omega), rfl, by rw [hk]; rfl, rfl, fun z => absurd (hk.symm.trans z) (by decide), rfl, q7.symm, by simp [ch, hk]⟩), by rw [ht]; exact hP9, va_K.moved hW.alike hK, hD9⟩, hS.F ht⟩) hS.2.2 dX1_look_321
                                  · skip
                                    have c_343 := (not_congr (lg_cmp_le ((((nI a9) + (nI (hd (B a9)))).toInt64) + 0) ((nI n8).toInt64))).mp c_343
                                    refine lv_bipush (v := -2) hx hb dX1_look_315 (by decide) ?_
                                    refine lv_goto (tgt := 321) hx hb dX1_look_317 (by decide) ?_
                                    have hP9 : va_P (dC, dI) vwCl ((fun (u : Int32 × Int64 × Int32 × Int32 × Int64 × Int64) => w1 h a b cI cJ f g zt (nI n8) zc u.1 u.2.1 u.2.2.1 u.2.2.2.1 u.2.2.2.2.1 u.2.2.2.2.2 zlk zlo zhi zlp zll zlv) ((10, nv B a9, 0, nI (hd (B a9)), 0, nv B a9))) H := hP
                                    have hD9 : va_D A ((fun (u : Int32 × Int64 × Int32 × Int32 × Int64 × Int64) => w1 h a b cI cJ f g zt (nI n8) zc u.1 u.2.1 u.2.2.1 u.2.2.2.1 u.2.2.2.2.1 u.2.2.2.2.2 zlk zlo zhi zlp zll zlv) ((10, nv B a9, 0, nI (hd (B a9)), 0, nv B a9))) := hD
                                    exact W.iret (v := -2) hx hb hr (fun t ht hW => ⟨⟨-2, (10, nv B a9, 0, nI (hd (B a9)), 0, nv B a9), rfl, (lkneg ((lk_end hB hn8 q1 q2 q3 q6).2 (by rw [q7]; exact c_343)) (by decide)), by rw [ht]; exact hP9, va_K.moved hW.alike hK, hD9⟩, hS.F ht⟩) hS.2.2 dX1_look_321
                                · skip
                                  exact absurd c_342 (by decide)
                            · skip
                              exact absurd c_340 (by decide)
                      · skip
                        have c_337 := (not_congr (lg_cmp_le (nv B a9) (2147483647 : Int64))).mp c_337
                        refine lv_bipush (v := -4) hx hb dX1_look_218 (by decide) ?_
                        have hP9 : va_P (dC, dI) vwCl ((fun (u : Int32 × Int64 × Int32 × Int32 × Int64 × Int64) => w1 h a b cI cJ f g zt (nI n8) zc u.1 u.2.1 u.2.2.1 u.2.2.2.1 u.2.2.2.2.1 u.2.2.2.2.2 zlk zlo zhi zlp zll zlv) ((10, nv B a9, 0, nI (hd (B a9)), 0, 0))) H := hP
                        have hD9 : va_D A ((fun (u : Int32 × Int64 × Int32 × Int32 × Int64 × Int64) => w1 h a b cI cJ f g zt (nI n8) zc u.1 u.2.1 u.2.2.1 u.2.2.2.1 u.2.2.2.2.1 u.2.2.2.2.2 zlk zlo zhi zlp zll zlv) ((10, nv B a9, 0, nI (hd (B a9)), 0, 0))) := hD
                        exact W.iret (v := -4) hx hb hr (fun t ht hW => ⟨⟨-4, (10, nv B a9, 0, nI (hd (B a9)), 0, 0), rfl, (lkneg (lk4 hB hn8 q1 q2 q3 (by rw [hk]; decide) c_337) (by decide)), by rw [ht]; exact hP9, va_K.moved hW.alike hK, hD9⟩, hS.F ht⟩) hS.2.2 dX1_look_220
                  · skip
                    exact absurd (by decide) c_335
                · skip
                  exact absurd c_334 (by decide)
              · skip
                exact absurd c_333 (by decide)
            · skip
              have q5 : wd (B a9) = 0 := (nI_z (by omega)).mp c_328
              refine lv_iload_n hx hb dX1_look_84 rfl (lv_at hl 1 rfl) ?_
              refine gsl (As := [.int (nI (B a9))]) (rest := [.ref h]) ⟨hx, hb, hml, hown, hts⟩ (c_X1_ownNumber l dC dI tk tw _ (B a9) (hB a9)) (va_cwS 1 hts gX1_look_X1_ownNumber rfl rfl rfl (by decide +kernel) ⟨Nat.le_of_ble_eq_true rfl, Nat.le_of_ble_eq_true rfl⟩) hP hS hA hZ rfl hl.1 rfl (Nat.le_of_ble_eq_true rfl) dX1_look_85 ⟨Nat.le_of_ble_eq_true rfl, Nat.le_of_ble_eq_true rfl⟩ (fun r_345 H locs hw_344 hP hS => ?_)
              obtain rfl : r_345 = nv B a9 := hw_344.trans (nv_w0 q5).symm
              refine lv_goto (tgt := 99) hx hb dX1_look_88 (by decide) ?_
              refine va_put (D := (dC, dI)) (ci := 1) (v := .long (nv B a9)) (ty := .long) (C := RX1) (T := TX1) (N := 17) hx hb hts hin0 tyX1 tyX1_ok nmX1 hown hK hP hD hS 0 rfl rfl 5 (by decide) fl61 (fun _ h9 => h9) rfl (by decide +kernel) rfl rfl (Nat.le_of_ble_eq_true rfl) dX1_look_99 (fun H locs hP hD hS => ?_)
              have hP : va_P (dC, dI) vwCl (w1 h a b cI cJ f g zt (nI n8) zc 10 (nv B a9) zty (nI (hd (B a9))) zpa zch zlk zlo zhi zlp zll zlv) H := hP
              have hD : va_D A (w1 h a b cI cJ f g zt (nI n8) zc 10 (nv B a9) zty (nI (hd (B a9))) zpa zch zlk zlo zhi zlp zll zlv) := hD
              refine lv_aload_n hx hb dX1_look_102 rfl (lv_at hl 2 rfl) ?_
              refine va_get (D := (dC, dI)) (ci := 1) (v := .int 10) (C := RX1) (T := TX1) (N := 17) hx hb hts hin0 hown hK hP 0 rfl rfl 4 (by decide) fl47 (fun _ h9 => h9) rfl dX1_look_103 ?_
              refine lv_iconst (v := 5) hx hb dX1_look_106 (by decide) ?_
              refine lv_icmp_ne (tgt := 138) hx hb dX1_look_107 (by decide) (fun c_346 => ?_) (fun c_346 => ?_)
              · skip
                refine lv_aload_n hx hb dX1_look_138 rfl (lv_at hl 2 rfl) ?_
                refine va_get (D := (dC, dI)) (ci := 1) (v := .int 10) (C := RX1) (T := TX1) (N := 17) hx hb hts hin0 hown hK hP 0 rfl rfl 4 (by decide) fl47 (fun _ h9 => h9) rfl dX1_look_139 ?_
                refine lv_bipush (v := 12) hx hb dX1_look_142 (by decide) ?_
                refine lv_icmp_ne (tgt := 163) hx hb dX1_look_144 (by decide) (fun c_347 => ?_) (fun c_347 => ?_)
                · skip
                  refine lv_iconst (v := 0) hx hb dX1_look_163 (by decide) ?_
                  refine lv_istore (lv' := [(4, .int 0), (3, .int (nI (wd (B a9)))), (2, .int (nI (B a9))), (0, .ref h), (1, .int (nI a9))]) hx hb dX1_look_164 hl (by decide) rfl (fun ls hl => ?_)
                  refine lv_aload_n hx hb dX1_look_166 rfl (lv_at hl 3 rfl) ?_
                  refine lv_iload hx hb dX1_look_167 (lv_at hl 0 rfl) ?_
                  refine lv_bipush (v := 127) hx hb dX1_look_169 (by decide) ?_
                  refine lv_icmp_le (tgt := 183) hx hb dX1_look_171 (by decide) (fun c_348 => ?_) (fun c_348 => ?_)
                  · skip
                    refine lv_iload hx hb dX1_look_183 (lv_at hl 0 rfl) ?_
                    refine va_put (D := (dC, dI)) (ci := 1) (v := .int 0) (ty := .int) (C := RX1) (T := TX1) (N := 17) hx hb hts hin0 tyX1 tyX1_ok nmX1 hown hK hP hD hS 0 rfl rfl 6 (by decide) fl65 (fun _ h9 => h9) rfl (by decide +kernel) rfl rfl (Nat.le_of_ble_eq_true rfl) dX1_look_185 (fun H locs hP hD hS => ?_)
                    have hP : va_P (dC, dI) vwCl (w1 h a b cI cJ f g zt (nI n8) zc 10 (nv B a9) 0 (nI (hd (B a9))) zpa zch zlk zlo zhi zlp zll zlv) H := hP
                    have hD : va_D A (w1 h a b cI cJ f g zt (nI n8) zc 10 (nv B a9) 0 (nI (hd (B a9))) zpa zch zlk zlo zhi zlp zll zlv) := hD
                    refine lv_aload_n hx hb dX1_look_188 rfl (lv_at hl 3 rfl) ?_
                    refine lv_lconst (v := 0) hx hb dX1_look_189 (by decide) ?_
                    refine va_put (D := (dC, dI)) (ci := 1) (v := .long 0) (ty := .long) (C := RX1) (T := TX1) (N := 17) hx hb hts hin0 tyX1 tyX1_ok nmX1 hown hK hP hD hS 0 rfl rfl 8 (by decide) fl68 (fun _ h9 => h9) rfl (by decide +kernel) rfl rfl (Nat.le_of_ble_eq_true rfl) dX1_look_190 (fun H locs hP hD hS => ?_)
                    have hP : va_P (dC, dI) vwCl (w1 h a b cI cJ f g zt (nI n8) zc 10 (nv B a9) 0 (nI (hd (B a9))) 0 zch zlk zlo zhi zlp zll zlv) H := hP
                    have hD : va_D A (w1 h a b cI cJ f g zt (nI n8) zc 10 (nv B a9) 0 (nI (hd (B a9))) 0 zch zlk zlo zhi zlp zll zlv) := hD
                    refine lv_aload_n hx hb dX1_look_193 rfl (lv_at hl 3 rfl) ?_
                    refine lv_lconst (v := 0) hx hb dX1_look_194 (by decide) ?_
                    refine va_put (D := (dC, dI)) (ci := 1) (v := .long 0) (ty := .long) (C := RX1) (T := TX1) (N := 17) hx hb hts hin0 tyX1 tyX1_ok nmX1 hown hK hP hD hS 0 rfl rfl 9 (by decide) fl71 (fun _ h9 => h9) rfl (by decide +kernel) rfl rfl (Nat.le_of_ble_eq_true rfl) dX1_look_195 (fun H locs hP hD hS => ?_)
                    have hP : va_P (dC, dI) vwCl (w1 h a b cI cJ f g zt (nI n8) zc 10 (nv B a9) 0 (nI (hd (B a9))) 0 0 zlk zlo zhi zlp zll zlv) H := hP
                    have hD : va_D A (w1 h a b cI cJ f g zt (nI n8) zc 10 (nv B a9) 0 (nI (hd (B a9))) 0 0 zlk zlo zhi zlp zll zlv) := hD
                    refine lv_aload_n hx hb dX1_look_198 rfl (lv_at hl 3 rfl) ?_
                    refine va_get (D := (dC, dI)) (ci := 1) (v := .int 10) (C := RX1) (T := TX1) (N := 17) hx hb hts hin0 hown hK hP 0 rfl rfl 4 (by decide) fl47 (fun _ h9 => h9) rfl dX1_look_199 ?_
                    refine lv_bipush (v := 7) hx hb dX1_look_202 (by decide) ?_
                    refine lv_icmp_le (tgt := 221) hx hb dX1_look_204 (by decide) (fun c_349 => ?_) (fun c_349 => ?_)
                    · skip
                      exact absurd c_349 (by decide)
                    · skip
                      refine lv_aload_n hx hb dX1_look_207 rfl (lv_at hl 3 rfl) ?_
                      refine va_get (D := (dC, dI)) (ci := 1) (v := .long (nv B a9)) (C := RX1) (T := TX1) (N := 17) hx hb hts hin0 hown hK hP 0 rfl rfl 5 (by decide) fl61 (fun _ h9 => h9) rfl dX1_look_208 ?_
                      refine lv_ldc2 (v := 2147483647) hx hb hown (hts (.constantLong RX1 74 (2147483647)) (by decide +kernel)) dX1_look_211 ?_
                      refine W.lcmp hx hb dX1_look_214 ?_
                      refine lv_if_le (tgt := 221) hx hb dX1_look_215 (by decide) (fun c_350 => ?_) (fun c_350 => ?_)
                      · skip
                        have c_350 := (lg_cmp_le (nv B a9) (2147483647 : Int64)).mp c_350
                        have q6 : 8 ≤ kd (B a9) → nv B a9 ≤ 2147483647 := fun _ => c_350
                        refine lv_aload_n hx hb dX1_look_221 rfl (lv_at hl 3 rfl) ?_
                        refine va_get (D := (dC, dI)) (ci := 1) (v := .int 10) (C := RX1) (T := TX1) (N := 17) hx hb hts hin0 hown hK hP 0 rfl rfl 4 (by decide) fl47 (fun _ h9 => h9) rfl dX1_look_222 ?_
                        refine lv_bipush (v := 8) hx hb dX1_look_225 (by decide) ?_
                        refine lv_icmp_eq (tgt := 248) hx hb dX1_look_227 (by decide) (fun c_351 => ?_) (fun c_351 => ?_)
                        · skip
                          exact absurd c_351 (by decide)
                        · skip
                          refine lv_aload_n hx hb dX1_look_230 rfl (lv_at hl 3 rfl) ?_
                          refine va_get (D := (dC, dI)) (ci := 1) (v := .int 10) (C := RX1) (T := TX1) (N := 17) hx hb hts hin0 hown hK hP 0 rfl rfl 4 (by decide) fl47 (fun _ h9 => h9) rfl dX1_look_231 ?_
                          refine lv_bipush (v := 9) hx hb dX1_look_234 (by decide) ?_
                          refine lv_icmp_eq (tgt := 248) hx hb dX1_look_236 (by decide) (fun c_352 => ?_) (fun c_352 => ?_)
                          · skip
                            exact absurd c_352 (by decide)
                          · skip
                            refine lv_aload_n hx hb dX1_look_239 rfl (lv_at hl 3 rfl) ?_
                            refine va_get (D := (dC, dI)) (ci := 1) (v := .int 10) (C := RX1) (T := TX1) (N := 17) hx hb hts hin0 hown hK hP 0 rfl rfl 4 (by decide) fl47 (fun _ h9 => h9) rfl dX1_look_240 ?_
                            refine lv_bipush (v := 12) hx hb dX1_look_243 (by decide) ?_
                            refine lv_icmp_ne (tgt := 256) hx hb dX1_look_245 (by decide) (fun c_353 => ?_) (fun c_353 => ?_)
                            · skip
                              refine lv_aload_n hx hb dX1_look_256 rfl (lv_at hl 3 rfl) ?_
                              refine va_get (D := (dC, dI)) (ci := 1) (v := .int 10) (C := RX1) (T := TX1) (N := 17) hx hb hts hin0 hown hK hP 0 rfl rfl 4 (by decide) fl47 (fun _ h9 => h9) rfl dX1_look_257 ?_
                              refine lv_bipush (v := 10) hx hb dX1_look_260 (by decide) ?_
                              refine lv_icmp_ne (tgt := 273) hx hb dX1_look_262 (by decide) (fun c_354 => ?_) (fun c_354 => ?_)
                              · skip
                                exact absurd (by decide) c_354
                              · skip
                                refine lv_aload_n hx hb dX1_look_265 rfl (lv_at hl 3 rfl) ?_
                                refine lv_aload_n hx hb dX1_look_266 rfl (lv_at hl 3 rfl) ?_
                                refine va_get (D := (dC, dI)) (ci := 1) (v := .long (nv B a9)) (C := RX1) (T := TX1) (N := 17) hx hb hts hin0 hown hK hP 0 rfl rfl 5 (by decide) fl61 (fun _ h9 => h9) rfl dX1_look_267 ?_
                                refine va_put (D := (dC, dI)) (ci := 1) (v := .long (nv B a9)) (ty := .long) (C := RX1) (T := TX1) (N := 17) hx hb hts hin0 tyX1 tyX1_ok nmX1 hown hK hP hD hS 0 rfl rfl 9 (by decide) fl71 (fun _ h9 => h9) rfl (by decide +kernel) rfl rfl (Nat.le_of_ble_eq_true rfl) dX1_look_270 (fun H locs hP hD hS => ?_)
                                have hP : va_P (dC, dI) vwCl (w1 h a b cI cJ f g zt (nI n8) zc 10 (nv B a9) 0 (nI (hd (B a9))) 0 (nv B a9) zlk zlo zhi zlp zll zlv) H := hP
                                have hD : va_D A (w1 h a b cI cJ f g zt (nI n8) zc 10 (nv B a9) 0 (nI (hd (B a9))) 0 (nv B a9) zlk zlo zhi zlp zll zlv) := hD
                                refine lv_aload_n hx hb dX1_look_273 rfl (lv_at hl 3 rfl) ?_
                                refine va_get (D := (dC, dI)) (ci := 1) (v := .int 10) (C := RX1) (T := TX1) (N := 17) hx hb hts hin0 hown hK hP 0 rfl rfl 4 (by decide) fl47 (fun _ h9 => h9) rfl dX1_look_274 ?_
                                refine lv_bipush (v := 11) hx hb dX1_look_277 (by decide) ?_
                                refine lv_icmp_ne (tgt := 294) hx hb dX1_look_279 (by decide) (fun c_355 => ?_) (fun c_355 => ?_)
                                · skip
                                  have q7 : paL B a9 = 0 := by simp [paL, hp, hk]
                                  refine lv_iload_n hx hb dX1_look_294 rfl (lv_at hl 4 rfl) ?_
                                  refine lv_aload_n hx hb dX1_look_295 rfl (lv_at hl 3 rfl) ?_
                                  refine va_get (D := (dC, dI)) (ci := 1) (v := .int (nI (hd (B a9)))) (C := RX1) (T := TX1) (N := 17) hx hb hts hin0 hown hK hP 0 rfl rfl 7 (by decide) fl50 (fun _ h9 => h9) rfl dX1_look_296 ?_
                                  refine lv_iadd hx hb dX1_look_299 ?_
                                  refine lv_i2l hx hb dX1_look_300 rfl ?_
                                  refine lv_aload_n hx hb dX1_look_301 rfl (lv_at hl 3 rfl) ?_
                                  refine va_get (D := (dC, dI)) (ci := 1) (v := .long 0) (C := RX1) (T := TX1) (N := 17) hx hb hts hin0 hown hK hP 0 rfl rfl 8 (by decide) fl68 (fun _ h9 => h9) rfl dX1_look_302 ?_
                                  refine lv_ladd hx hb dX1_look_305 ?_
                                  refine lv_aload_n hx hb dX1_look_306 rfl (lv_at hl 3 rfl) ?_
                                  refine va_get (D := (dC, dI)) (ci := 1) (v := .int (nI n8)) (C := RX1) (T := TX1) (N := 17) hx hb hts hin0 hown hK hP 0 rfl rfl 2 (by decide) fl28 (fun _ h9 => h9) rfl dX1_look_307 ?_
                                  refine lv_i2l hx hb dX1_look_310 rfl ?_
                                  refine W.lcmp hx hb dX1_look_311 ?_
                                  refine lv_if_le (tgt := 320) hx hb dX1_look_312 (by decide) (fun c_356 => ?_) (fun c_356 => ?_)
                                  · skip
                                    have c_356 := (lg_cmp_le ((((nI a9) + (nI (hd (B a9)))).toInt64) + 0) ((nI n8).toInt64)).mp c_356
                                    refine lv_iconst (v := 0) hx hb dX1_look_320 (by decide) ?_
                                    have hP9 : va_P (dC, dI) vwCl ((fun (u : Int32 × Int64 × Int32 × Int32 × Int64 × Int64) => w1 h a b cI cJ f g zt (nI n8) zc u.1 u.2.1 u.2.2.1 u.2.2.2.1 u.2.2.2.2.1 u.2.2.2.2.2 zlk zlo zhi zlp zll zlv) ((10, nv B a9, 0, nI (hd (B a9)), 0, nv B a9))) H := hP
                                    have hD9 : va_D A ((fun (u : Int32 × Int64 × Int32 × Int32 × Int64 × Int64) => w1 h a b cI cJ f g zt (nI n8) zc u.1 u.2.1 u.2.2.1 u.2.2.2.1 u.2.2.2.2.1 u.2.2.2.2.2 zlk zlo zhi zlp zll zlv) ((10, nv B a9, 0, nI (hd (B a9)), 0, nv B a9))) := hD
                                    exact W.iret (v := 0) hx hb hr (fun t ht hW => ⟨⟨0, (10, nv B a9, 0, nI (hd (B a9)), 0, nv B a9), rfl, (by have q8 := (lk_end hB hn8 q1 q2 q3 q6).1 (by rw [q7]; exact c_356); exact Or.inr ⟨by rw [q8]; exact nI_pos (by have := kd_le _ (hB a9); omega), rfl, by rw [hk]; rfl, rfl, fun z => absurd (hk.symm.trans z) (by decide), rfl, q7.symm, by simp [ch, hk]⟩), by rw [ht]; exact hP9, va_K.moved hW.alike hK, hD9⟩, hS.F ht⟩) hS.2.2 dX1_look_321
                                  · skip
                                    have c_356 := (not_congr (lg_cmp_le ((((nI a9) + (nI (hd (B a9)))).toInt64) + 0) ((nI n8).toInt64))).mp c_356
                                    refine lv_bipush (v := -2) hx hb dX1_look_315 (by decide) ?_
                                    refine lv_goto (tgt := 321) hx hb dX1_look_317 (by decide) ?_
                                    have hP9 : va_P (dC, dI) vwCl ((fun (u : Int32 × Int64 × Int32 × Int32 × Int64 × Int64) => w1 h a b cI cJ f g zt (nI n8) zc u.1 u.2.1 u.2.2.1 u.2.2.2.1 u.2.2.2.2.1 u.2.2.2.2.2 zlk zlo zhi zlp zll zlv) ((10, nv B a9, 0, nI (hd (B a9)), 0, nv B a9))) H := hP
                                    have hD9 : va_D A ((fun (u : Int32 × Int64 × Int32 × Int32 × Int64 × Int64) => w1 h a b cI cJ f g zt (nI n8) zc u.1 u.2.1 u.2.2.1 u.2.2.2.1 u.2.2.2.2.1 u.2.2.2.2.2 zlk zlo zhi zlp zll zlv) ((10, nv B a9, 0, nI (hd (B a9)), 0, nv B a9))) := hD
                                    exact W.iret (v := -2) hx hb hr (fun t ht hW => ⟨⟨-2, (10, nv B a9, 0, nI (hd (B a9)), 0, nv B a9), rfl, (lkneg ((lk_end hB hn8 q1 q2 q3 q6).2 (by rw [q7]; exact c_356)) (by decide)), by rw [ht]; exact hP9, va_K.moved hW.alike hK, hD9⟩, hS.F ht⟩) hS.2.2 dX1_look_321
                                · skip
                                  exact absurd c_355 (by decide)
                            · skip
                              exact absurd c_353 (by decide)
                      · skip
                        have c_350 := (not_congr (lg_cmp_le (nv B a9) (2147483647 : Int64))).mp c_350
                        refine lv_bipush (v := -4) hx hb dX1_look_218 (by decide) ?_
                        have hP9 : va_P (dC, dI) vwCl ((fun (u : Int32 × Int64 × Int32 × Int32 × Int64 × Int64) => w1 h a b cI cJ f g zt (nI n8) zc u.1 u.2.1 u.2.2.1 u.2.2.2.1 u.2.2.2.2.1 u.2.2.2.2.2 zlk zlo zhi zlp zll zlv) ((10, nv B a9, 0, nI (hd (B a9)), 0, 0))) H := hP
                        have hD9 : va_D A ((fun (u : Int32 × Int64 × Int32 × Int32 × Int64 × Int64) => w1 h a b cI cJ f g zt (nI n8) zc u.1 u.2.1 u.2.2.1 u.2.2.2.1 u.2.2.2.2.1 u.2.2.2.2.2 zlk zlo zhi zlp zll zlv) ((10, nv B a9, 0, nI (hd (B a9)), 0, 0))) := hD
                        exact W.iret (v := -4) hx hb hr (fun t ht hW => ⟨⟨-4, (10, nv B a9, 0, nI (hd (B a9)), 0, 0), rfl, (lkneg (lk4 hB hn8 q1 q2 q3 (by rw [hk]; decide) c_350) (by decide)), by rw [ht]; exact hP9, va_K.moved hW.alike hK, hD9⟩, hS.F ht⟩) hS.2.2 dX1_look_220
                  · skip
                    exact absurd (by decide) c_348
                · skip
                  exact absurd c_347 (by decide)
              · skip
                exact absurd c_346 (by decide)
          · skip
            refine lv_bipush (v := -2) hx hb dX1_look_76 (by decide) ?_
            have hP9 : va_P (dC, dI) vwCl ((fun (u : Int32 × Int64 × Int32 × Int32 × Int64 × Int64) => w1 h a b cI cJ f g zt (nI n8) zc u.1 u.2.1 u.2.2.1 u.2.2.2.1 u.2.2.2.2.1 u.2.2.2.2.2 zlk zlo zhi zlp zll zlv) ((10, znu, zty, nI (hd (B a9)), zpa, zch))) H := hP
            have hD9 : va_D A ((fun (u : Int32 × Int64 × Int32 × Int32 × Int64 × Int64) => w1 h a b cI cJ f g zt (nI n8) zc u.1 u.2.1 u.2.2.1 u.2.2.2.1 u.2.2.2.2.1 u.2.2.2.2.2 zlk zlo zhi zlp zll zlv) ((10, znu, zty, nI (hd (B a9)), zpa, zch))) := hD
            exact W.iret (v := -2) hx hb hr (fun t ht hW => ⟨⟨-2, (10, znu, zty, nI (hd (B a9)), zpa, zch), rfl, (lkneg (lk3 hB hn8 q1 q2 (by have q4 := hd_le _ (hB a9); have z := (not_congr (nI_leI (a := a9 + hd (B a9)) (b := n8) (by omega) (by omega))).mp c_327; omega)) (by decide)), by rw [ht]; exact hP9, va_K.moved hW.alike hK, hD9⟩, hS.F ht⟩) hS.2.2 dX1_look_78
        · skip
          exact absurd c_324 (by decide)
      · skip
        have q2 : ¬ B a9 = 193 := fun z => c_3 (by rw [z]; rfl)
        refine lv_iload_n hx hb dX1_look_28 rfl (lv_at hl 0 rfl) ?_
        refine gsi (As := [.int (nI (B a9))]) (rest := []) ⟨hx, hb, hml, hown, hts⟩ (c_X1_widthOf l dC dI tk tw _ (B a9) (hB a9)) (va_cwS 1 hts gX1_look_X1_widthOf rfl rfl rfl (by decide +kernel) ⟨Nat.le_of_ble_eq_true rfl, Nat.le_of_ble_eq_true rfl⟩) hP hS hA hZ rfl hl.1 rfl (Nat.le_of_ble_eq_true rfl) dX1_look_29 ⟨Nat.le_of_ble_eq_true rfl, Nat.le_of_ble_eq_true rfl⟩ (fun r_358 H locs hw_357 hP hS => ?_)
        obtain rfl : r_358 = nI (wd (B a9)) := hw_357
        refine lv_istore_n (lv' := [(3, .int (nI (wd (B a9)))), (2, .int (nI (B a9))), (0, .ref h), (1, .int (nI a9))]) hx hb dX1_look_32 rfl hl (by decide) rfl (fun ls hl => ?_)
        refine lv_aload_n hx hb dX1_look_33 rfl (lv_at hl 2 rfl) ?_
        refine lv_iload_n hx hb dX1_look_34 rfl (lv_at hl 1 rfl) ?_
        refine gsi (As := [.int (nI (B a9))]) (rest := [.ref h]) ⟨hx, hb, hml, hown, hts⟩ (c_X1_kindOf l dC dI tk tw _ (B a9) (hB a9) q2) (va_cwS 1 hts gX1_look_X1_kindOf rfl rfl rfl (by decide +kernel) ⟨Nat.le_of_ble_eq_true rfl, Nat.le_of_ble_eq_true rfl⟩) hP hS hA hZ rfl hl.1 rfl (Nat.le_of_ble_eq_true rfl) dX1_look_35 ⟨Nat.le_of_ble_eq_true rfl, Nat.le_of_ble_eq_true rfl⟩ (fun r_360 H locs hw_359 hP hS => ?_)
        obtain rfl : r_360 = 11 := hw_359.trans (by rw [hk]; rfl)
        refine va_put (D := (dC, dI)) (ci := 1) (v := .int 11) (ty := .int) (C := RX1) (T := TX1) (N := 17) hx hb hts hin0 tyX1 tyX1_ok nmX1 hown hK hP hD hS 0 rfl rfl 4 (by decide) fl47 (fun _ h9 => h9) rfl (by decide +kernel) rfl rfl (Nat.le_of_ble_eq_true rfl) dX1_look_38 (fun H locs hP hD hS => ?_)
        have hP : va_P (dC, dI) vwCl (w1 h a b cI cJ f g zt (nI n8) zc 11 znu zty zhd zpa zch zlk zlo zhi zlp zll zlv) H := hP
        have hD : va_D A (w1 h a b cI cJ f g zt (nI n8) zc 11 znu zty zhd zpa zch zlk zlo zhi zlp zll zlv) := hD
        refine lv_aload_n hx hb dX1_look_41 rfl (lv_at hl 2 rfl) ?_
        refine lv_iconst (v := 1) hx hb dX1_look_42 (by decide) ?_
        refine lv_iload_n hx hb dX1_look_43 rfl (lv_at hl 0 rfl) ?_
        refine lv_iadd hx hb dX1_look_44 ?_
        refine lv_aload_n hx hb dX1_look_45 rfl (lv_at hl 2 rfl) ?_
        refine va_get (D := (dC, dI)) (ci := 1) (v := .int 11) (C := RX1) (T := TX1) (N := 17) hx hb hts hin0 hown hK hP 0 rfl rfl 4 (by decide) fl47 (fun _ h9 => h9) rfl dX1_look_46 ?_
        refine lv_bipush (v := 12) hx hb dX1_look_49 (by decide) ?_
        refine lv_icmp_ne (tgt := 58) hx hb dX1_look_51 (by decide) (fun c_361 => ?_) (fun c_361 => ?_)
        · skip
          refine lv_iconst (v := 0) hx hb dX1_look_58 (by decide) ?_
          refine lv_iadd hx hb dX1_look_59 ?_
          have e_362 : ((1 + (nI (wd (B a9)))) + 0 : Int32) = nI (hd (B a9)) := hdn (by rw [hk]; decide)
          rw [e_362]
          refine va_put (D := (dC, dI)) (ci := 1) (v := .int (nI (hd (B a9)))) (ty := .int) (C := RX1) (T := TX1) (N := 17) hx hb hts hin0 tyX1 tyX1_ok nmX1 hown hK hP hD hS 0 rfl rfl 7 (by decide) fl50 (fun _ h9 => h9) rfl (by decide +kernel) rfl rfl (Nat.le_of_ble_eq_true rfl) dX1_look_60 (fun H locs hP hD hS => ?_)
          have hP : va_P (dC, dI) vwCl (w1 h a b cI cJ f g zt (nI n8) zc 11 znu zty (nI (hd (B a9))) zpa zch zlk zlo zhi zlp zll zlv) H := hP
          have hD : va_D A (w1 h a b cI cJ f g zt (nI n8) zc 11 znu zty (nI (hd (B a9))) zpa zch zlk zlo zhi zlp zll zlv) := hD
          refine lv_iload_n hx hb dX1_look_63 rfl (lv_at hl 3 rfl) ?_
          refine lv_aload_n hx hb dX1_look_64 rfl (lv_at hl 2 rfl) ?_
          refine va_get (D := (dC, dI)) (ci := 1) (v := .int (nI (hd (B a9)))) (C := RX1) (T := TX1) (N := 17) hx hb hts hin0 hown hK hP 0 rfl rfl 7 (by decide) fl50 (fun _ h9 => h9) rfl dX1_look_65 ?_
          refine lv_iadd hx hb dX1_look_68 ?_
          have e_363 : ((nI a9) + (nI (hd (B a9))) : Int32) = nI (a9 + hd (B a9)) := nI_add _ _
          rw [e_363]
          refine lv_aload_n hx hb dX1_look_69 rfl (lv_at hl 2 rfl) ?_
          refine va_get (D := (dC, dI)) (ci := 1) (v := .int (nI n8)) (C := RX1) (T := TX1) (N := 17) hx hb hts hin0 hown hK hP 0 rfl rfl 2 (by decide) fl28 (fun _ h9 => h9) rfl dX1_look_70 ?_
          refine lv_icmp_le (tgt := 79) hx hb dX1_look_73 (by decide) (fun c_364 => ?_) (fun c_364 => ?_)
          · skip
            have q4 := hd_le _ (hB a9)
            have q3 : a9 + hd (B a9) ≤ n8 := (nI_leI (by omega) (by omega)).mp c_364
            refine lv_aload_n hx hb dX1_look_79 rfl (lv_at hl 2 rfl) ?_
            refine lv_iload_n hx hb dX1_look_80 rfl (lv_at hl 0 rfl) ?_
            refine lv_if_ne (tgt := 91) hx hb dX1_look_81 (by decide) (fun c_365 => ?_) (fun c_365 => ?_)
            · skip
              have q5 : ¬ wd (B a9) = 0 := fun z => c_365 (by rw [z]; rfl)
              refine lv_aload_n hx hb dX1_look_91 rfl (lv_at hl 2 rfl) ?_
              refine lv_iload_n hx hb dX1_look_92 rfl (lv_at hl 3 rfl) ?_
              refine lv_iconst (v := 1) hx hb dX1_look_93 (by decide) ?_
              refine lv_iadd hx hb dX1_look_94 ?_
              refine lv_iload_n hx hb dX1_look_95 rfl (lv_at hl 0 rfl) ?_
              have e_368 : ((nI a9) + 1 : Int32) = nI (a9 + 1) := nI_1 a9
              rw [e_368]
              refine gvl (As := [.int (nI (a9 + 1)), .int (nI (wd (B a9)))]) (rest := [.ref h]) ⟨hx, hb, hml, hown, hts⟩ (c_X1_numberAt l dC dI tk tw h a b cI cJ _ f g zt (nI n8) zc 11 znu zty (nI (hd (B a9))) zpa zch zlk zlo zhi zlp zll zlv B (a9 + 1) (wd (B a9)) (by omega) (fun j hj => hf9 j (by omega))) (cwV 2 hts gX1_look_X1_numberAt rfl rfl rfl (by decide +kernel) ⟨Nat.le_of_ble_eq_true rfl, Nat.le_of_ble_eq_true rfl⟩) hK hP hD hS hA hZ (q0 := 0) (ci := 1) rfl rfl rfl rfl hl.1 rfl (Nat.le_of_ble_eq_true rfl) dX1_look_96 ⟨Nat.le_of_ble_eq_true rfl, Nat.le_of_ble_eq_true rfl⟩ (fun r_367 u_369 H locs hw_366 hP hD hS => ?_)
              obtain rfl : r_367 = nv B a9 := hw_366.trans (nv_w1 q5 (by rw [hk]; decide)).symm
              refine va_put (D := (dC, dI)) (ci := 1) (v := .long (nv B a9)) (ty := .long) (C := RX1) (T := TX1) (N := 17) hx hb hts hin0 tyX1 tyX1_ok nmX1 hown hK hP hD hS 0 rfl rfl 5 (by decide) fl61 (fun _ h9 => h9) rfl (by decide +kernel) rfl rfl (Nat.le_of_ble_eq_true rfl) dX1_look_99 (fun H locs hP hD hS => ?_)
              have hP : va_P (dC, dI) vwCl (w1 h a b cI cJ f g zt (nI n8) zc 11 (nv B a9) zty (nI (hd (B a9))) zpa zch zlk zlo zhi zlp zll zlv) H := hP
              have hD : va_D A (w1 h a b cI cJ f g zt (nI n8) zc 11 (nv B a9) zty (nI (hd (B a9))) zpa zch zlk zlo zhi zlp zll zlv) := hD
              refine lv_aload_n hx hb dX1_look_102 rfl (lv_at hl 2 rfl) ?_
              refine va_get (D := (dC, dI)) (ci := 1) (v := .int 11) (C := RX1) (T := TX1) (N := 17) hx hb hts hin0 hown hK hP 0 rfl rfl 4 (by decide) fl47 (fun _ h9 => h9) rfl dX1_look_103 ?_
              refine lv_iconst (v := 5) hx hb dX1_look_106 (by decide) ?_
              refine lv_icmp_ne (tgt := 138) hx hb dX1_look_107 (by decide) (fun c_370 => ?_) (fun c_370 => ?_)
              · skip
                refine lv_aload_n hx hb dX1_look_138 rfl (lv_at hl 2 rfl) ?_
                refine va_get (D := (dC, dI)) (ci := 1) (v := .int 11) (C := RX1) (T := TX1) (N := 17) hx hb hts hin0 hown hK hP 0 rfl rfl 4 (by decide) fl47 (fun _ h9 => h9) rfl dX1_look_139 ?_
                refine lv_bipush (v := 12) hx hb dX1_look_142 (by decide) ?_
                refine lv_icmp_ne (tgt := 163) hx hb dX1_look_144 (by decide) (fun c_371 => ?_) (fun c_371 => ?_)
                · skip
                  refine lv_iconst (v := 0) hx hb dX1_look_163 (by decide) ?_
                  refine lv_istore (lv' := [(4, .int 0), (3, .int (nI (wd (B a9)))), (2, .int (nI (B a9))), (0, .ref h), (1, .int (nI a9))]) hx hb dX1_look_164 hl (by decide) rfl (fun ls hl => ?_)
                  refine lv_aload_n hx hb dX1_look_166 rfl (lv_at hl 3 rfl) ?_
                  refine lv_iload hx hb dX1_look_167 (lv_at hl 0 rfl) ?_
                  refine lv_bipush (v := 127) hx hb dX1_look_169 (by decide) ?_
                  refine lv_icmp_le (tgt := 183) hx hb dX1_look_171 (by decide) (fun c_372 => ?_) (fun c_372 => ?_)
                  · skip
                    refine lv_iload hx hb dX1_look_183 (lv_at hl 0 rfl) ?_
                    refine va_put (D := (dC, dI)) (ci := 1) (v := .int 0) (ty := .int) (C := RX1) (T := TX1) (N := 17) hx hb hts hin0 tyX1 tyX1_ok nmX1 hown hK hP hD hS 0 rfl rfl 6 (by decide) fl65 (fun _ h9 => h9) rfl (by decide +kernel) rfl rfl (Nat.le_of_ble_eq_true rfl) dX1_look_185 (fun H locs hP hD hS => ?_)
                    have hP : va_P (dC, dI) vwCl (w1 h a b cI cJ f g zt (nI n8) zc 11 (nv B a9) 0 (nI (hd (B a9))) zpa zch zlk zlo zhi zlp zll zlv) H := hP
                    have hD : va_D A (w1 h a b cI cJ f g zt (nI n8) zc 11 (nv B a9) 0 (nI (hd (B a9))) zpa zch zlk zlo zhi zlp zll zlv) := hD
                    refine lv_aload_n hx hb dX1_look_188 rfl (lv_at hl 3 rfl) ?_
                    refine lv_lconst (v := 0) hx hb dX1_look_189 (by decide) ?_
                    refine va_put (D := (dC, dI)) (ci := 1) (v := .long 0) (ty := .long) (C := RX1) (T := TX1) (N := 17) hx hb hts hin0 tyX1 tyX1_ok nmX1 hown hK hP hD hS 0 rfl rfl 8 (by decide) fl68 (fun _ h9 => h9) rfl (by decide +kernel) rfl rfl (Nat.le_of_ble_eq_true rfl) dX1_look_190 (fun H locs hP hD hS => ?_)
                    have hP : va_P (dC, dI) vwCl (w1 h a b cI cJ f g zt (nI n8) zc 11 (nv B a9) 0 (nI (hd (B a9))) 0 zch zlk zlo zhi zlp zll zlv) H := hP
                    have hD : va_D A (w1 h a b cI cJ f g zt (nI n8) zc 11 (nv B a9) 0 (nI (hd (B a9))) 0 zch zlk zlo zhi zlp zll zlv) := hD
                    refine lv_aload_n hx hb dX1_look_193 rfl (lv_at hl 3 rfl) ?_
                    refine lv_lconst (v := 0) hx hb dX1_look_194 (by decide) ?_
                    refine va_put (D := (dC, dI)) (ci := 1) (v := .long 0) (ty := .long) (C := RX1) (T := TX1) (N := 17) hx hb hts hin0 tyX1 tyX1_ok nmX1 hown hK hP hD hS 0 rfl rfl 9 (by decide) fl71 (fun _ h9 => h9) rfl (by decide +kernel) rfl rfl (Nat.le_of_ble_eq_true rfl) dX1_look_195 (fun H locs hP hD hS => ?_)
                    have hP : va_P (dC, dI) vwCl (w1 h a b cI cJ f g zt (nI n8) zc 11 (nv B a9) 0 (nI (hd (B a9))) 0 0 zlk zlo zhi zlp zll zlv) H := hP
                    have hD : va_D A (w1 h a b cI cJ f g zt (nI n8) zc 11 (nv B a9) 0 (nI (hd (B a9))) 0 0 zlk zlo zhi zlp zll zlv) := hD
                    refine lv_aload_n hx hb dX1_look_198 rfl (lv_at hl 3 rfl) ?_
                    refine va_get (D := (dC, dI)) (ci := 1) (v := .int 11) (C := RX1) (T := TX1) (N := 17) hx hb hts hin0 hown hK hP 0 rfl rfl 4 (by decide) fl47 (fun _ h9 => h9) rfl dX1_look_199 ?_
                    refine lv_bipush (v := 7) hx hb dX1_look_202 (by decide) ?_
                    refine lv_icmp_le (tgt := 221) hx hb dX1_look_204 (by decide) (fun c_373 => ?_) (fun c_373 => ?_)
                    · skip
                      exact absurd c_373 (by decide)
                    · skip
                      refine lv_aload_n hx hb dX1_look_207 rfl (lv_at hl 3 rfl) ?_
                      refine va_get (D := (dC, dI)) (ci := 1) (v := .long (nv B a9)) (C := RX1) (T := TX1) (N := 17) hx hb hts hin0 hown hK hP 0 rfl rfl 5 (by decide) fl61 (fun _ h9 => h9) rfl dX1_look_208 ?_
                      refine lv_ldc2 (v := 2147483647) hx hb hown (hts (.constantLong RX1 74 (2147483647)) (by decide +kernel)) dX1_look_211 ?_
                      refine W.lcmp hx hb dX1_look_214 ?_
                      refine lv_if_le (tgt := 221) hx hb dX1_look_215 (by decide) (fun c_374 => ?_) (fun c_374 => ?_)
                      · skip
                        have c_374 := (lg_cmp_le (nv B a9) (2147483647 : Int64)).mp c_374
                        have q6 : 8 ≤ kd (B a9) → nv B a9 ≤ 2147483647 := fun _ => c_374
                        refine lv_aload_n hx hb dX1_look_221 rfl (lv_at hl 3 rfl) ?_
                        refine va_get (D := (dC, dI)) (ci := 1) (v := .int 11) (C := RX1) (T := TX1) (N := 17) hx hb hts hin0 hown hK hP 0 rfl rfl 4 (by decide) fl47 (fun _ h9 => h9) rfl dX1_look_222 ?_
                        refine lv_bipush (v := 8) hx hb dX1_look_225 (by decide) ?_
                        refine lv_icmp_eq (tgt := 248) hx hb dX1_look_227 (by decide) (fun c_375 => ?_) (fun c_375 => ?_)
                        · skip
                          exact absurd c_375 (by decide)
                        · skip
                          refine lv_aload_n hx hb dX1_look_230 rfl (lv_at hl 3 rfl) ?_
                          refine va_get (D := (dC, dI)) (ci := 1) (v := .int 11) (C := RX1) (T := TX1) (N := 17) hx hb hts hin0 hown hK hP 0 rfl rfl 4 (by decide) fl47 (fun _ h9 => h9) rfl dX1_look_231 ?_
                          refine lv_bipush (v := 9) hx hb dX1_look_234 (by decide) ?_
                          refine lv_icmp_eq (tgt := 248) hx hb dX1_look_236 (by decide) (fun c_376 => ?_) (fun c_376 => ?_)
                          · skip
                            exact absurd c_376 (by decide)
                          · skip
                            refine lv_aload_n hx hb dX1_look_239 rfl (lv_at hl 3 rfl) ?_
                            refine va_get (D := (dC, dI)) (ci := 1) (v := .int 11) (C := RX1) (T := TX1) (N := 17) hx hb hts hin0 hown hK hP 0 rfl rfl 4 (by decide) fl47 (fun _ h9 => h9) rfl dX1_look_240 ?_
                            refine lv_bipush (v := 12) hx hb dX1_look_243 (by decide) ?_
                            refine lv_icmp_ne (tgt := 256) hx hb dX1_look_245 (by decide) (fun c_377 => ?_) (fun c_377 => ?_)
                            · skip
                              refine lv_aload_n hx hb dX1_look_256 rfl (lv_at hl 3 rfl) ?_
                              refine va_get (D := (dC, dI)) (ci := 1) (v := .int 11) (C := RX1) (T := TX1) (N := 17) hx hb hts hin0 hown hK hP 0 rfl rfl 4 (by decide) fl47 (fun _ h9 => h9) rfl dX1_look_257 ?_
                              refine lv_bipush (v := 10) hx hb dX1_look_260 (by decide) ?_
                              refine lv_icmp_ne (tgt := 273) hx hb dX1_look_262 (by decide) (fun c_378 => ?_) (fun c_378 => ?_)
                              · skip
                                refine lv_aload_n hx hb dX1_look_273 rfl (lv_at hl 3 rfl) ?_
                                refine va_get (D := (dC, dI)) (ci := 1) (v := .int 11) (C := RX1) (T := TX1) (N := 17) hx hb hts hin0 hown hK hP 0 rfl rfl 4 (by decide) fl47 (fun _ h9 => h9) rfl dX1_look_274 ?_
                                refine lv_bipush (v := 11) hx hb dX1_look_277 (by decide) ?_
                                refine lv_icmp_ne (tgt := 294) hx hb dX1_look_279 (by decide) (fun c_379 => ?_) (fun c_379 => ?_)
                                · skip
                                  exact absurd (by decide) c_379
                                · skip
                                  refine lv_aload_n hx hb dX1_look_282 rfl (lv_at hl 3 rfl) ?_
                                  refine lv_ldc2 (v := 2) hx hb hown (hts (.constantLong RX1 76 (2)) (by decide +kernel)) dX1_look_283 ?_
                                  refine lv_aload_n hx hb dX1_look_286 rfl (lv_at hl 3 rfl) ?_
                                  refine va_get (D := (dC, dI)) (ci := 1) (v := .long (nv B a9)) (C := RX1) (T := TX1) (N := 17) hx hb hts hin0 hown hK hP 0 rfl rfl 5 (by decide) fl61 (fun _ h9 => h9) rfl dX1_look_287 ?_
                                  refine lv_lmul hx hb dX1_look_290 ?_
                                  refine va_put (D := (dC, dI)) (ci := 1) (v := .long (2 * (nv B a9))) (ty := .long) (C := RX1) (T := TX1) (N := 17) hx hb hts hin0 tyX1 tyX1_ok nmX1 hown hK hP hD hS 0 rfl rfl 9 (by decide) fl71 (fun _ h9 => h9) rfl (by decide +kernel) rfl rfl (Nat.le_of_ble_eq_true rfl) dX1_look_291 (fun H locs hP hD hS => ?_)
                                  have hP : va_P (dC, dI) vwCl (w1 h a b cI cJ f g zt (nI n8) zc 11 (nv B a9) 0 (nI (hd (B a9))) 0 (2 * (nv B a9)) zlk zlo zhi zlp zll zlv) H := hP
                                  have hD : va_D A (w1 h a b cI cJ f g zt (nI n8) zc 11 (nv B a9) 0 (nI (hd (B a9))) 0 (2 * (nv B a9)) zlk zlo zhi zlp zll zlv) := hD
                                  have q7 : paL B a9 = 0 := by simp [paL, hp, hk]
                                  refine lv_iload_n hx hb dX1_look_294 rfl (lv_at hl 4 rfl) ?_
                                  refine lv_aload_n hx hb dX1_look_295 rfl (lv_at hl 3 rfl) ?_
                                  refine va_get (D := (dC, dI)) (ci := 1) (v := .int (nI (hd (B a9)))) (C := RX1) (T := TX1) (N := 17) hx hb hts hin0 hown hK hP 0 rfl rfl 7 (by decide) fl50 (fun _ h9 => h9) rfl dX1_look_296 ?_
                                  refine lv_iadd hx hb dX1_look_299 ?_
                                  refine lv_i2l hx hb dX1_look_300 rfl ?_
                                  refine lv_aload_n hx hb dX1_look_301 rfl (lv_at hl 3 rfl) ?_
                                  refine va_get (D := (dC, dI)) (ci := 1) (v := .long 0) (C := RX1) (T := TX1) (N := 17) hx hb hts hin0 hown hK hP 0 rfl rfl 8 (by decide) fl68 (fun _ h9 => h9) rfl dX1_look_302 ?_
                                  refine lv_ladd hx hb dX1_look_305 ?_
                                  refine lv_aload_n hx hb dX1_look_306 rfl (lv_at hl 3 rfl) ?_
                                  refine va_get (D := (dC, dI)) (ci := 1) (v := .int (nI n8)) (C := RX1) (T := TX1) (N := 17) hx hb hts hin0 hown hK hP 0 rfl rfl 2 (by decide) fl28 (fun _ h9 => h9) rfl dX1_look_307 ?_
                                  refine lv_i2l hx hb dX1_look_310 rfl ?_
                                  refine W.lcmp hx hb dX1_look_311 ?_
                                  refine lv_if_le (tgt := 320) hx hb dX1_look_312 (by decide) (fun c_380 => ?_) (fun c_380 => ?_)
                                  · skip
                                    have c_380 := (lg_cmp_le ((((nI a9) + (nI (hd (B a9)))).toInt64) + 0) ((nI n8).toInt64)).mp c_380
                                    refine lv_iconst (v := 0) hx hb dX1_look_320 (by decide) ?_
                                    have hP9 : va_P (dC, dI) vwCl ((fun (u : Int32 × Int64 × Int32 × Int32 × Int64 × Int64) => w1 h a b cI cJ f g zt (nI n8) zc u.1 u.2.1 u.2.2.1 u.2.2.2.1 u.2.2.2.2.1 u.2.2.2.2.2 zlk zlo zhi zlp zll zlv) ((11, nv B a9, 0, nI (hd (B a9)), 0, 2 * (nv B a9)))) H := hP
                                    have hD9 : va_D A ((fun (u : Int32 × Int64 × Int32 × Int32 × Int64 × Int64) => w1 h a b cI cJ f g zt (nI n8) zc u.1 u.2.1 u.2.2.1 u.2.2.2.1 u.2.2.2.2.1 u.2.2.2.2.2 zlk zlo zhi zlp zll zlv) ((11, nv B a9, 0, nI (hd (B a9)), 0, 2 * (nv B a9)))) := hD
                                    exact W.iret (v := 0) hx hb hr (fun t ht hW => ⟨⟨0, (11, nv B a9, 0, nI (hd (B a9)), 0, 2 * (nv B a9)), rfl, (by have q8 := (lk_end hB hn8 q1 q2 q3 q6).1 (by rw [q7]; exact c_380); exact Or.inr ⟨by rw [q8]; exact nI_pos (by have := kd_le _ (hB a9); omega), rfl, by rw [hk]; rfl, rfl, fun z => absurd (hk.symm.trans z) (by decide), rfl, q7.symm, by simp [ch, hk]⟩), by rw [ht]; exact hP9, va_K.moved hW.alike hK, hD9⟩, hS.F ht⟩) hS.2.2 dX1_look_321
                                  · skip
                                    have c_380 := (not_congr (lg_cmp_le ((((nI a9) + (nI (hd (B a9)))).toInt64) + 0) ((nI n8).toInt64))).mp c_380
                                    refine lv_bipush (v := -2) hx hb dX1_look_315 (by decide) ?_
                                    refine lv_goto (tgt := 321) hx hb dX1_look_317 (by decide) ?_
                                    have hP9 : va_P (dC, dI) vwCl ((fun (u : Int32 × Int64 × Int32 × Int32 × Int64 × Int64) => w1 h a b cI cJ f g zt (nI n8) zc u.1 u.2.1 u.2.2.1 u.2.2.2.1 u.2.2.2.2.1 u.2.2.2.2.2 zlk zlo zhi zlp zll zlv) ((11, nv B a9, 0, nI (hd (B a9)), 0, 2 * (nv B a9)))) H := hP
                                    have hD9 : va_D A ((fun (u : Int32 × Int64 × Int32 × Int32 × Int64 × Int64) => w1 h a b cI cJ f g zt (nI n8) zc u.1 u.2.1 u.2.2.1 u.2.2.2.1 u.2.2.2.2.1 u.2.2.2.2.2 zlk zlo zhi zlp zll zlv) ((11, nv B a9, 0, nI (hd (B a9)), 0, 2 * (nv B a9)))) := hD
                                    exact W.iret (v := -2) hx hb hr (fun t ht hW => ⟨⟨-2, (11, nv B a9, 0, nI (hd (B a9)), 0, 2 * (nv B a9)), rfl, (lkneg ((lk_end hB hn8 q1 q2 q3 q6).2 (by rw [q7]; exact c_380)) (by decide)), by rw [ht]; exact hP9, va_K.moved hW.alike hK, hD9⟩, hS.F ht⟩) hS.2.2 dX1_look_321
                              · skip
                                exact absurd c_378 (by decide)
                            · skip
                              exact absurd c_377 (by decide)
                      · skip
                        have c_374 := (not_congr (lg_cmp_le (nv B a9) (2147483647 : Int64))).mp c_374
                        refine lv_bipush (v := -4) hx hb dX1_look_218 (by decide) ?_
                        have hP9 : va_P (dC, dI) vwCl ((fun (u : Int32 × Int64 × Int32 × Int32 × Int64 × Int64) => w1 h a b cI cJ f g zt (nI n8) zc u.1 u.2.1 u.2.2.1 u.2.2.2.1 u.2.2.2.2.1 u.2.2.2.2.2 zlk zlo zhi zlp zll zlv) ((11, nv B a9, 0, nI (hd (B a9)), 0, 0))) H := hP
                        have hD9 : va_D A ((fun (u : Int32 × Int64 × Int32 × Int32 × Int64 × Int64) => w1 h a b cI cJ f g zt (nI n8) zc u.1 u.2.1 u.2.2.1 u.2.2.2.1 u.2.2.2.2.1 u.2.2.2.2.2 zlk zlo zhi zlp zll zlv) ((11, nv B a9, 0, nI (hd (B a9)), 0, 0))) := hD
                        exact W.iret (v := -4) hx hb hr (fun t ht hW => ⟨⟨-4, (11, nv B a9, 0, nI (hd (B a9)), 0, 0), rfl, (lkneg (lk4 hB hn8 q1 q2 q3 (by rw [hk]; decide) c_374) (by decide)), by rw [ht]; exact hP9, va_K.moved hW.alike hK, hD9⟩, hS.F ht⟩) hS.2.2 dX1_look_220
                  · skip
                    exact absurd (by decide) c_372
                · skip
                  exact absurd c_371 (by decide)
              · skip
                exact absurd c_370 (by decide)
            · skip
              have q5 : wd (B a9) = 0 := (nI_z (by omega)).mp c_365
              refine lv_iload_n hx hb dX1_look_84 rfl (lv_at hl 1 rfl) ?_
              refine gsl (As := [.int (nI (B a9))]) (rest := [.ref h]) ⟨hx, hb, hml, hown, hts⟩ (c_X1_ownNumber l dC dI tk tw _ (B a9) (hB a9)) (va_cwS 1 hts gX1_look_X1_ownNumber rfl rfl rfl (by decide +kernel) ⟨Nat.le_of_ble_eq_true rfl, Nat.le_of_ble_eq_true rfl⟩) hP hS hA hZ rfl hl.1 rfl (Nat.le_of_ble_eq_true rfl) dX1_look_85 ⟨Nat.le_of_ble_eq_true rfl, Nat.le_of_ble_eq_true rfl⟩ (fun r_382 H locs hw_381 hP hS => ?_)
              obtain rfl : r_382 = nv B a9 := hw_381.trans (nv_w0 q5).symm
              refine lv_goto (tgt := 99) hx hb dX1_look_88 (by decide) ?_
              refine va_put (D := (dC, dI)) (ci := 1) (v := .long (nv B a9)) (ty := .long) (C := RX1) (T := TX1) (N := 17) hx hb hts hin0 tyX1 tyX1_ok nmX1 hown hK hP hD hS 0 rfl rfl 5 (by decide) fl61 (fun _ h9 => h9) rfl (by decide +kernel) rfl rfl (Nat.le_of_ble_eq_true rfl) dX1_look_99 (fun H locs hP hD hS => ?_)
              have hP : va_P (dC, dI) vwCl (w1 h a b cI cJ f g zt (nI n8) zc 11 (nv B a9) zty (nI (hd (B a9))) zpa zch zlk zlo zhi zlp zll zlv) H := hP
              have hD : va_D A (w1 h a b cI cJ f g zt (nI n8) zc 11 (nv B a9) zty (nI (hd (B a9))) zpa zch zlk zlo zhi zlp zll zlv) := hD
              refine lv_aload_n hx hb dX1_look_102 rfl (lv_at hl 2 rfl) ?_
              refine va_get (D := (dC, dI)) (ci := 1) (v := .int 11) (C := RX1) (T := TX1) (N := 17) hx hb hts hin0 hown hK hP 0 rfl rfl 4 (by decide) fl47 (fun _ h9 => h9) rfl dX1_look_103 ?_
              refine lv_iconst (v := 5) hx hb dX1_look_106 (by decide) ?_
              refine lv_icmp_ne (tgt := 138) hx hb dX1_look_107 (by decide) (fun c_383 => ?_) (fun c_383 => ?_)
              · skip
                refine lv_aload_n hx hb dX1_look_138 rfl (lv_at hl 2 rfl) ?_
                refine va_get (D := (dC, dI)) (ci := 1) (v := .int 11) (C := RX1) (T := TX1) (N := 17) hx hb hts hin0 hown hK hP 0 rfl rfl 4 (by decide) fl47 (fun _ h9 => h9) rfl dX1_look_139 ?_
                refine lv_bipush (v := 12) hx hb dX1_look_142 (by decide) ?_
                refine lv_icmp_ne (tgt := 163) hx hb dX1_look_144 (by decide) (fun c_384 => ?_) (fun c_384 => ?_)
                · skip
                  refine lv_iconst (v := 0) hx hb dX1_look_163 (by decide) ?_
                  refine lv_istore (lv' := [(4, .int 0), (3, .int (nI (wd (B a9)))), (2, .int (nI (B a9))), (0, .ref h), (1, .int (nI a9))]) hx hb dX1_look_164 hl (by decide) rfl (fun ls hl => ?_)
                  refine lv_aload_n hx hb dX1_look_166 rfl (lv_at hl 3 rfl) ?_
                  refine lv_iload hx hb dX1_look_167 (lv_at hl 0 rfl) ?_
                  refine lv_bipush (v := 127) hx hb dX1_look_169 (by decide) ?_
                  refine lv_icmp_le (tgt := 183) hx hb dX1_look_171 (by decide) (fun c_385 => ?_) (fun c_385 => ?_)
                  · skip
                    refine lv_iload hx hb dX1_look_183 (lv_at hl 0 rfl) ?_
                    refine va_put (D := (dC, dI)) (ci := 1) (v := .int 0) (ty := .int) (C := RX1) (T := TX1) (N := 17) hx hb hts hin0 tyX1 tyX1_ok nmX1 hown hK hP hD hS 0 rfl rfl 6 (by decide) fl65 (fun _ h9 => h9) rfl (by decide +kernel) rfl rfl (Nat.le_of_ble_eq_true rfl) dX1_look_185 (fun H locs hP hD hS => ?_)
                    have hP : va_P (dC, dI) vwCl (w1 h a b cI cJ f g zt (nI n8) zc 11 (nv B a9) 0 (nI (hd (B a9))) zpa zch zlk zlo zhi zlp zll zlv) H := hP
                    have hD : va_D A (w1 h a b cI cJ f g zt (nI n8) zc 11 (nv B a9) 0 (nI (hd (B a9))) zpa zch zlk zlo zhi zlp zll zlv) := hD
                    refine lv_aload_n hx hb dX1_look_188 rfl (lv_at hl 3 rfl) ?_
                    refine lv_lconst (v := 0) hx hb dX1_look_189 (by decide) ?_
                    refine va_put (D := (dC, dI)) (ci := 1) (v := .long 0) (ty := .long) (C := RX1) (T := TX1) (N := 17) hx hb hts hin0 tyX1 tyX1_ok nmX1 hown hK hP hD hS 0 rfl rfl 8 (by decide) fl68 (fun _ h9 => h9) rfl (by decide +kernel) rfl rfl (Nat.le_of_ble_eq_true rfl) dX1_look_190 (fun H locs hP hD hS => ?_)
                    have hP : va_P (dC, dI) vwCl (w1 h a b cI cJ f g zt (nI n8) zc 11 (nv B a9) 0 (nI (hd (B a9))) 0 zch zlk zlo zhi zlp zll zlv) H := hP
                    have hD : va_D A (w1 h a b cI cJ f g zt (nI n8) zc 11 (nv B a9) 0 (nI (hd (B a9))) 0 zch zlk zlo zhi zlp zll zlv) := hD
                    refine lv_aload_n hx hb dX1_look_193 rfl (lv_at hl 3 rfl) ?_
                    refine lv_lconst (v := 0) hx hb dX1_look_194 (by decide) ?_
                    refine va_put (D := (dC, dI)) (ci := 1) (v := .long 0) (ty := .long) (C := RX1) (T := TX1) (N := 17) hx hb hts hin0 tyX1 tyX1_ok nmX1 hown hK hP hD hS 0 rfl rfl 9 (by decide) fl71 (fun _ h9 => h9) rfl (by decide +kernel) rfl rfl (Nat.le_of_ble_eq_true rfl) dX1_look_195 (fun H locs hP hD hS => ?_)
                    have hP : va_P (dC, dI) vwCl (w1 h a b cI cJ f g zt (nI n8) zc 11 (nv B a9) 0 (nI (hd (B a9))) 0 0 zlk zlo zhi zlp zll zlv) H := hP
                    have hD : va_D A (w1 h a b cI cJ f g zt (nI n8) zc 11 (nv B a9) 0 (nI (hd (B a9))) 0 0 zlk zlo zhi zlp zll zlv) := hD
                    refine lv_aload_n hx hb dX1_look_198 rfl (lv_at hl 3 rfl) ?_
                    refine va_get (D := (dC, dI)) (ci := 1) (v := .int 11) (C := RX1) (T := TX1) (N := 17) hx hb hts hin0 hown hK hP 0 rfl rfl 4 (by decide) fl47 (fun _ h9 => h9) rfl dX1_look_199 ?_
                    refine lv_bipush (v := 7) hx hb dX1_look_202 (by decide) ?_
                    refine lv_icmp_le (tgt := 221) hx hb dX1_look_204 (by decide) (fun c_386 => ?_) (fun c_386 => ?_)
                    · skip
                      exact absurd c_386 (by decide)
                    · skip
                      refine lv_aload_n hx hb dX1_look_207 rfl (lv_at hl 3 rfl) ?_
                      refine va_get (D := (dC, dI)) (ci := 1) (v := .long (nv B a9)) (C := RX1) (T := TX1) (N := 17) hx hb hts hin0 hown hK hP 0 rfl rfl 5 (by decide) fl61 (fun _ h9 => h9) rfl dX1_look_208 ?_
                      refine lv_ldc2 (v := 2147483647) hx hb hown (hts (.constantLong RX1 74 (2147483647)) (by decide +kernel)) dX1_look_211 ?_
                      refine W.lcmp hx hb dX1_look_214 ?_
                      refine lv_if_le (tgt := 221) hx hb dX1_look_215 (by decide) (fun c_387 => ?_) (fun c_387 => ?_)
                      · skip
                        have c_387 := (lg_cmp_le (nv B a9) (2147483647 : Int64)).mp c_387
                        have q6 : 8 ≤ kd (B a9) → nv B a9 ≤ 2147483647 := fun _ => c_387
                        refine lv_aload_n hx hb dX1_look_221 rfl (lv_at hl 3 rfl) ?_
                        refine va_get (D := (dC, dI)) (ci := 1) (v := .int 11) (C := RX1) (T := TX1) (N := 17) hx hb hts hin0 hown hK hP 0 rfl rfl 4 (by decide) fl47 (fun _ h9 => h9) rfl dX1_look_222 ?_
                        refine lv_bipush (v := 8) hx hb dX1_look_225 (by decide) ?_
                        refine lv_icmp_eq (tgt := 248) hx hb dX1_look_227 (by decide) (fun c_388 => ?_) (fun c_388 => ?_)
                        · skip
                          exact absurd c_388 (by decide)
                        · skip
                          refine lv_aload_n hx hb dX1_look_230 rfl (lv_at hl 3 rfl) ?_
                          refine va_get (D := (dC, dI)) (ci := 1) (v := .int 11) (C := RX1) (T := TX1) (N := 17) hx hb hts hin0 hown hK hP 0 rfl rfl 4 (by decide) fl47 (fun _ h9 => h9) rfl dX1_look_231 ?_
                          refine lv_bipush (v := 9) hx hb dX1_look_234 (by decide) ?_
                          refine lv_icmp_eq (tgt := 248) hx hb dX1_look_236 (by decide) (fun c_389 => ?_) (fun c_389 => ?_)
                          · skip
                            exact absurd c_389 (by decide)
                          · skip
                            refine lv_aload_n hx hb dX1_look_239 rfl (lv_at hl 3 rfl) ?_
                            refine va_get (D := (dC, dI)) (ci := 1) (v := .int 11) (C := RX1) (T := TX1) (N := 17) hx hb hts hin0 hown hK hP 0 rfl rfl 4 (by decide) fl47 (fun _ h9 => h9) rfl dX1_look_240 ?_
                            refine lv_bipush (v := 12) hx hb dX1_look_243 (by decide) ?_
                            refine lv_icmp_ne (tgt := 256) hx hb dX1_look_245 (by decide) (fun c_390 => ?_) (fun c_390 => ?_)
                            · skip
                              refine lv_aload_n hx hb dX1_look_256 rfl (lv_at hl 3 rfl) ?_
                              refine va_get (D := (dC, dI)) (ci := 1) (v := .int 11) (C := RX1) (T := TX1) (N := 17) hx hb hts hin0 hown hK hP 0 rfl rfl 4 (by decide) fl47 (fun _ h9 => h9) rfl dX1_look_257 ?_
                              refine lv_bipush (v := 10) hx hb dX1_look_260 (by decide) ?_
                              refine lv_icmp_ne (tgt := 273) hx hb dX1_look_262 (by decide) (fun c_391 => ?_) (fun c_391 => ?_)
                              · skip
                                refine lv_aload_n hx hb dX1_look_273 rfl (lv_at hl 3 rfl) ?_
                                refine va_get (D := (dC, dI)) (ci := 1) (v := .int 11) (C := RX1) (T := TX1) (N := 17) hx hb hts hin0 hown hK hP 0 rfl rfl 4 (by decide) fl47 (fun _ h9 => h9) rfl dX1_look_274 ?_
                                refine lv_bipush (v := 11) hx hb dX1_look_277 (by decide) ?_
                                refine lv_icmp_ne (tgt := 294) hx hb dX1_look_279 (by decide) (fun c_392 => ?_) (fun c_392 => ?_)
                                · skip
                                  exact absurd (by decide) c_392
                                · skip
                                  refine lv_aload_n hx hb dX1_look_282 rfl (lv_at hl 3 rfl) ?_
                                  refine lv_ldc2 (v := 2) hx hb hown (hts (.constantLong RX1 76 (2)) (by decide +kernel)) dX1_look_283 ?_
                                  refine lv_aload_n hx hb dX1_look_286 rfl (lv_at hl 3 rfl) ?_
                                  refine va_get (D := (dC, dI)) (ci := 1) (v := .long (nv B a9)) (C := RX1) (T := TX1) (N := 17) hx hb hts hin0 hown hK hP 0 rfl rfl 5 (by decide) fl61 (fun _ h9 => h9) rfl dX1_look_287 ?_
                                  refine lv_lmul hx hb dX1_look_290 ?_
                                  refine va_put (D := (dC, dI)) (ci := 1) (v := .long (2 * (nv B a9))) (ty := .long) (C := RX1) (T := TX1) (N := 17) hx hb hts hin0 tyX1 tyX1_ok nmX1 hown hK hP hD hS 0 rfl rfl 9 (by decide) fl71 (fun _ h9 => h9) rfl (by decide +kernel) rfl rfl (Nat.le_of_ble_eq_true rfl) dX1_look_291 (fun H locs hP hD hS => ?_)
                                  have hP : va_P (dC, dI) vwCl (w1 h a b cI cJ f g zt (nI n8) zc 11 (nv B a9) 0 (nI (hd (B a9))) 0 (2 * (nv B a9)) zlk zlo zhi zlp zll zlv) H := hP
                                  have hD : va_D A (w1 h a b cI cJ f g zt (nI n8) zc 11 (nv B a9) 0 (nI (hd (B a9))) 0 (2 * (nv B a9)) zlk zlo zhi zlp zll zlv) := hD
                                  have q7 : paL B a9 = 0 := by simp [paL, hp, hk]
                                  refine lv_iload_n hx hb dX1_look_294 rfl (lv_at hl 4 rfl) ?_
                                  refine lv_aload_n hx hb dX1_look_295 rfl (lv_at hl 3 rfl) ?_
                                  refine va_get (D := (dC, dI)) (ci := 1) (v := .int (nI (hd (B a9)))) (C := RX1) (T := TX1) (N := 17) hx hb hts hin0 hown hK hP 0 rfl rfl 7 (by decide) fl50 (fun _ h9 => h9) rfl dX1_look_296 ?_
                                  refine lv_iadd hx hb dX1_look_299 ?_
                                  refine lv_i2l hx hb dX1_look_300 rfl ?_
                                  refine lv_aload_n hx hb dX1_look_301 rfl (lv_at hl 3 rfl) ?_
                                  refine va_get (D := (dC, dI)) (ci := 1) (v := .long 0) (C := RX1) (T := TX1) (N := 17) hx hb hts hin0 hown hK hP 0 rfl rfl 8 (by decide) fl68 (fun _ h9 => h9) rfl dX1_look_302 ?_
                                  refine lv_ladd hx hb dX1_look_305 ?_
                                  refine lv_aload_n hx hb dX1_look_306 rfl (lv_at hl 3 rfl) ?_
                                  refine va_get (D := (dC, dI)) (ci := 1) (v := .int (nI n8)) (C := RX1) (T := TX1) (N := 17) hx hb hts hin0 hown hK hP 0 rfl rfl 2 (by decide) fl28 (fun _ h9 => h9) rfl dX1_look_307 ?_
                                  refine lv_i2l hx hb dX1_look_310 rfl ?_
                                  refine W.lcmp hx hb dX1_look_311 ?_
                                  refine lv_if_le (tgt := 320) hx hb dX1_look_312 (by decide) (fun c_393 => ?_) (fun c_393 => ?_)
                                  · skip
                                    have c_393 := (lg_cmp_le ((((nI a9) + (nI (hd (B a9)))).toInt64) + 0) ((nI n8).toInt64)).mp c_393
                                    refine lv_iconst (v := 0) hx hb dX1_look_320 (by decide) ?_
                                    have hP9 : va_P (dC, dI) vwCl ((fun (u : Int32 × Int64 × Int32 × Int32 × Int64 × Int64) => w1 h a b cI cJ f g zt (nI n8) zc u.1 u.2.1 u.2.2.1 u.2.2.2.1 u.2.2.2.2.1 u.2.2.2.2.2 zlk zlo zhi zlp zll zlv) ((11, nv B a9, 0, nI (hd (B a9)), 0, 2 * (nv B a9)))) H := hP
                                    have hD9 : va_D A ((fun (u : Int32 × Int64 × Int32 × Int32 × Int64 × Int64) => w1 h a b cI cJ f g zt (nI n8) zc u.1 u.2.1 u.2.2.1 u.2.2.2.1 u.2.2.2.2.1 u.2.2.2.2.2 zlk zlo zhi zlp zll zlv) ((11, nv B a9, 0, nI (hd (B a9)), 0, 2 * (nv B a9)))) := hD
                                    exact W.iret (v := 0) hx hb hr (fun t ht hW => ⟨⟨0, (11, nv B a9, 0, nI (hd (B a9)), 0, 2 * (nv B a9)), rfl, (by have q8 := (lk_end hB hn8 q1 q2 q3 q6).1 (by rw [q7]; exact c_393); exact Or.inr ⟨by rw [q8]; exact nI_pos (by have := kd_le _ (hB a9); omega), rfl, by rw [hk]; rfl, rfl, fun z => absurd (hk.symm.trans z) (by decide), rfl, q7.symm, by simp [ch, hk]⟩), by rw [ht]; exact hP9, va_K.moved hW.alike hK, hD9⟩, hS.F ht⟩) hS.2.2 dX1_look_321
                                  · skip
                                    have c_393 := (not_congr (lg_cmp_le ((((nI a9) + (nI (hd (B a9)))).toInt64) + 0) ((nI n8).toInt64))).mp c_393
                                    refine lv_bipush (v := -2) hx hb dX1_look_315 (by decide) ?_
                                    refine lv_goto (tgt := 321) hx hb dX1_look_317 (by decide) ?_
                                    have hP9 : va_P (dC, dI) vwCl ((fun (u : Int32 × Int64 × Int32 × Int32 × Int64 × Int64) => w1 h a b cI cJ f g zt (nI n8) zc u.1 u.2.1 u.2.2.1 u.2.2.2.1 u.2.2.2.2.1 u.2.2.2.2.2 zlk zlo zhi zlp zll zlv) ((11, nv B a9, 0, nI (hd (B a9)), 0, 2 * (nv B a9)))) H := hP
                                    have hD9 : va_D A ((fun (u : Int32 × Int64 × Int32 × Int32 × Int64 × Int64) => w1 h a b cI cJ f g zt (nI n8) zc u.1 u.2.1 u.2.2.1 u.2.2.2.1 u.2.2.2.2.1 u.2.2.2.2.2 zlk zlo zhi zlp zll zlv) ((11, nv B a9, 0, nI (hd (B a9)), 0, 2 * (nv B a9)))) := hD
                                    exact W.iret (v := -2) hx hb hr (fun t ht hW => ⟨⟨-2, (11, nv B a9, 0, nI (hd (B a9)), 0, 2 * (nv B a9)), rfl, (lkneg ((lk_end hB hn8 q1 q2 q3 q6).2 (by rw [q7]; exact c_393)) (by decide)), by rw [ht]; exact hP9, va_K.moved hW.alike hK, hD9⟩, hS.F ht⟩) hS.2.2 dX1_look_321
                              · skip
                                exact absurd c_391 (by decide)
                            · skip
                              exact absurd c_390 (by decide)
                      · skip
                        have c_387 := (not_congr (lg_cmp_le (nv B a9) (2147483647 : Int64))).mp c_387
                        refine lv_bipush (v := -4) hx hb dX1_look_218 (by decide) ?_
                        have hP9 : va_P (dC, dI) vwCl ((fun (u : Int32 × Int64 × Int32 × Int32 × Int64 × Int64) => w1 h a b cI cJ f g zt (nI n8) zc u.1 u.2.1 u.2.2.1 u.2.2.2.1 u.2.2.2.2.1 u.2.2.2.2.2 zlk zlo zhi zlp zll zlv) ((11, nv B a9, 0, nI (hd (B a9)), 0, 0))) H := hP
                        have hD9 : va_D A ((fun (u : Int32 × Int64 × Int32 × Int32 × Int64 × Int64) => w1 h a b cI cJ f g zt (nI n8) zc u.1 u.2.1 u.2.2.1 u.2.2.2.1 u.2.2.2.2.1 u.2.2.2.2.2 zlk zlo zhi zlp zll zlv) ((11, nv B a9, 0, nI (hd (B a9)), 0, 0))) := hD
                        exact W.iret (v := -4) hx hb hr (fun t ht hW => ⟨⟨-4, (11, nv B a9, 0, nI (hd (B a9)), 0, 0), rfl, (lkneg (lk4 hB hn8 q1 q2 q3 (by rw [hk]; decide) c_387) (by decide)), by rw [ht]; exact hP9, va_K.moved hW.alike hK, hD9⟩, hS.F ht⟩) hS.2.2 dX1_look_220
                  · skip
                    exact absurd (by decide) c_385
                · skip
                  exact absurd c_384 (by decide)
              · skip
                exact absurd c_383 (by decide)
          · skip
            refine lv_bipush (v := -2) hx hb dX1_look_76 (by decide) ?_
            have hP9 : va_P (dC, dI) vwCl ((fun (u : Int32 × Int64 × Int32 × Int32 × Int64 × Int64) => w1 h a b cI cJ f g zt (nI n8) zc u.1 u.2.1 u.2.2.1 u.2.2.2.1 u.2.2.2.2.1 u.2.2.2.2.2 zlk zlo zhi zlp zll zlv) ((11, znu, zty, nI (hd (B a9)), zpa, zch))) H := hP
            have hD9 : va_D A ((fun (u : Int32 × Int64 × Int32 × Int32 × Int64 × Int64) => w1 h a b cI cJ f g zt (nI n8) zc u.1 u.2.1 u.2.2.1 u.2.2.2.1 u.2.2.2.2.1 u.2.2.2.2.2 zlk zlo zhi zlp zll zlv) ((11, znu, zty, nI (hd (B a9)), zpa, zch))) := hD
            exact W.iret (v := -2) hx hb hr (fun t ht hW => ⟨⟨-2, (11, znu, zty, nI (hd (B a9)), zpa, zch), rfl, (lkneg (lk3 hB hn8 q1 q2 (by have q4 := hd_le _ (hB a9); have z := (not_congr (nI_leI (a := a9 + hd (B a9)) (b := n8) (by omega) (by omega))).mp c_364; omega)) (by decide)), by rw [ht]; exact hP9, va_K.moved hW.alike hK, hD9⟩, hS.F ht⟩) hS.2.2 dX1_look_78
        · skip
          exact absurd c_361 (by decide)
      · skip
        have q2 : ¬ B a9 = 193 := fun z => c_3 (by rw [z]; rfl)
        refine lv_iload_n hx hb dX1_look_28 rfl (lv_at hl 0 rfl) ?_
        refine gsi (As := [.int (nI (B a9))]) (rest := []) ⟨hx, hb, hml, hown, hts⟩ (c_X1_widthOf l dC dI tk tw _ (B a9) (hB a9)) (va_cwS 1 hts gX1_look_X1_widthOf rfl rfl rfl (by decide +kernel) ⟨Nat.le_of_ble_eq_true rfl, Nat.le_of_ble_eq_true rfl⟩) hP hS hA hZ rfl hl.1 rfl (Nat.le_of_ble_eq_true rfl) dX1_look_29 ⟨Nat.le_of_ble_eq_true rfl, Nat.le_of_ble_eq_true rfl⟩ (fun r_395 H locs hw_394 hP hS => ?_)
        obtain rfl : r_395 = nI (wd (B a9)) := hw_394
        refine lv_istore_n (lv' := [(3, .int (nI (wd (B a9)))), (2, .int (nI (B a9))), (0, .ref h), (1, .int (nI a9))]) hx hb dX1_look_32 rfl hl (by decide) rfl (fun ls hl => ?_)
        refine lv_aload_n hx hb dX1_look_33 rfl (lv_at hl 2 rfl) ?_
        refine lv_iload_n hx hb dX1_look_34 rfl (lv_at hl 1 rfl) ?_
        refine gsi (As := [.int (nI (B a9))]) (rest := [.ref h]) ⟨hx, hb, hml, hown, hts⟩ (c_X1_kindOf l dC dI tk tw _ (B a9) (hB a9) q2) (va_cwS 1 hts gX1_look_X1_kindOf rfl rfl rfl (by decide +kernel) ⟨Nat.le_of_ble_eq_true rfl, Nat.le_of_ble_eq_true rfl⟩) hP hS hA hZ rfl hl.1 rfl (Nat.le_of_ble_eq_true rfl) dX1_look_35 ⟨Nat.le_of_ble_eq_true rfl, Nat.le_of_ble_eq_true rfl⟩ (fun r_397 H locs hw_396 hP hS => ?_)
        obtain rfl : r_397 = 12 := hw_396.trans (by rw [hk]; rfl)
        refine va_put (D := (dC, dI)) (ci := 1) (v := .int 12) (ty := .int) (C := RX1) (T := TX1) (N := 17) hx hb hts hin0 tyX1 tyX1_ok nmX1 hown hK hP hD hS 0 rfl rfl 4 (by decide) fl47 (fun _ h9 => h9) rfl (by decide +kernel) rfl rfl (Nat.le_of_ble_eq_true rfl) dX1_look_38 (fun H locs hP hD hS => ?_)
        have hP : va_P (dC, dI) vwCl (w1 h a b cI cJ f g zt (nI n8) zc 12 znu zty zhd zpa zch zlk zlo zhi zlp zll zlv) H := hP
        have hD : va_D A (w1 h a b cI cJ f g zt (nI n8) zc 12 znu zty zhd zpa zch zlk zlo zhi zlp zll zlv) := hD
        refine lv_aload_n hx hb dX1_look_41 rfl (lv_at hl 2 rfl) ?_
        refine lv_iconst (v := 1) hx hb dX1_look_42 (by decide) ?_
        refine lv_iload_n hx hb dX1_look_43 rfl (lv_at hl 0 rfl) ?_
        refine lv_iadd hx hb dX1_look_44 ?_
        refine lv_aload_n hx hb dX1_look_45 rfl (lv_at hl 2 rfl) ?_
        refine va_get (D := (dC, dI)) (ci := 1) (v := .int 12) (C := RX1) (T := TX1) (N := 17) hx hb hts hin0 hown hK hP 0 rfl rfl 4 (by decide) fl47 (fun _ h9 => h9) rfl dX1_look_46 ?_
        refine lv_bipush (v := 12) hx hb dX1_look_49 (by decide) ?_
        refine lv_icmp_ne (tgt := 58) hx hb dX1_look_51 (by decide) (fun c_398 => ?_) (fun c_398 => ?_)
        · skip
          exact absurd (by decide) c_398
        · skip
          refine lv_iconst (v := 1) hx hb dX1_look_54 (by decide) ?_
          refine lv_goto (tgt := 59) hx hb dX1_look_55 (by decide) ?_
          refine lv_iadd hx hb dX1_look_59 ?_
          have e_399 : ((1 + (nI (wd (B a9)))) + 1 : Int32) = nI (hd (B a9)) := hd12 hk
          rw [e_399]
          refine va_put (D := (dC, dI)) (ci := 1) (v := .int (nI (hd (B a9)))) (ty := .int) (C := RX1) (T := TX1) (N := 17) hx hb hts hin0 tyX1 tyX1_ok nmX1 hown hK hP hD hS 0 rfl rfl 7 (by decide) fl50 (fun _ h9 => h9) rfl (by decide +kernel) rfl rfl (Nat.le_of_ble_eq_true rfl) dX1_look_60 (fun H locs hP hD hS => ?_)
          have hP : va_P (dC, dI) vwCl (w1 h a b cI cJ f g zt (nI n8) zc 12 znu zty (nI (hd (B a9))) zpa zch zlk zlo zhi zlp zll zlv) H := hP
          have hD : va_D A (w1 h a b cI cJ f g zt (nI n8) zc 12 znu zty (nI (hd (B a9))) zpa zch zlk zlo zhi zlp zll zlv) := hD
          refine lv_iload_n hx hb dX1_look_63 rfl (lv_at hl 3 rfl) ?_
          refine lv_aload_n hx hb dX1_look_64 rfl (lv_at hl 2 rfl) ?_
          refine va_get (D := (dC, dI)) (ci := 1) (v := .int (nI (hd (B a9)))) (C := RX1) (T := TX1) (N := 17) hx hb hts hin0 hown hK hP 0 rfl rfl 7 (by decide) fl50 (fun _ h9 => h9) rfl dX1_look_65 ?_
          refine lv_iadd hx hb dX1_look_68 ?_
          have e_400 : ((nI a9) + (nI (hd (B a9))) : Int32) = nI (a9 + hd (B a9)) := nI_add _ _
          rw [e_400]
          refine lv_aload_n hx hb dX1_look_69 rfl (lv_at hl 2 rfl) ?_
          refine va_get (D := (dC, dI)) (ci := 1) (v := .int (nI n8)) (C := RX1) (T := TX1) (N := 17) hx hb hts hin0 hown hK hP 0 rfl rfl 2 (by decide) fl28 (fun _ h9 => h9) rfl dX1_look_70 ?_
          refine lv_icmp_le (tgt := 79) hx hb dX1_look_73 (by decide) (fun c_401 => ?_) (fun c_401 => ?_)
          · skip
            have q4 := hd_le _ (hB a9)
            have q3 : a9 + hd (B a9) ≤ n8 := (nI_leI (by omega) (by omega)).mp c_401
            refine lv_aload_n hx hb dX1_look_79 rfl (lv_at hl 2 rfl) ?_
            refine lv_iload_n hx hb dX1_look_80 rfl (lv_at hl 0 rfl) ?_
            refine lv_if_ne (tgt := 91) hx hb dX1_look_81 (by decide) (fun c_402 => ?_) (fun c_402 => ?_)
            · skip
              have q5 : ¬ wd (B a9) = 0 := fun z => c_402 (by rw [z]; rfl)
              refine lv_aload_n hx hb dX1_look_91 rfl (lv_at hl 2 rfl) ?_
              refine lv_iload_n hx hb dX1_look_92 rfl (lv_at hl 3 rfl) ?_
              refine lv_iconst (v := 1) hx hb dX1_look_93 (by decide) ?_
              refine lv_iadd hx hb dX1_look_94 ?_
              refine lv_iload_n hx hb dX1_look_95 rfl (lv_at hl 0 rfl) ?_
              have e_405 : ((nI a9) + 1 : Int32) = nI (a9 + 1) := nI_1 a9
              rw [e_405]
              refine gvl (As := [.int (nI (a9 + 1)), .int (nI (wd (B a9)))]) (rest := [.ref h]) ⟨hx, hb, hml, hown, hts⟩ (c_X1_numberAt l dC dI tk tw h a b cI cJ _ f g zt (nI n8) zc 12 znu zty (nI (hd (B a9))) zpa zch zlk zlo zhi zlp zll zlv B (a9 + 1) (wd (B a9)) (by omega) (fun j hj => hf9 j (by omega))) (cwV 2 hts gX1_look_X1_numberAt rfl rfl rfl (by decide +kernel) ⟨Nat.le_of_ble_eq_true rfl, Nat.le_of_ble_eq_true rfl⟩) hK hP hD hS hA hZ (q0 := 0) (ci := 1) rfl rfl rfl rfl hl.1 rfl (Nat.le_of_ble_eq_true rfl) dX1_look_96 ⟨Nat.le_of_ble_eq_true rfl, Nat.le_of_ble_eq_true rfl⟩ (fun r_404 u_406 H locs hw_403 hP hD hS => ?_)
              obtain rfl : r_404 = nv B a9 := hw_403.trans (nv_w1 q5 (by rw [hk]; decide)).symm
              refine va_put (D := (dC, dI)) (ci := 1) (v := .long (nv B a9)) (ty := .long) (C := RX1) (T := TX1) (N := 17) hx hb hts hin0 tyX1 tyX1_ok nmX1 hown hK hP hD hS 0 rfl rfl 5 (by decide) fl61 (fun _ h9 => h9) rfl (by decide +kernel) rfl rfl (Nat.le_of_ble_eq_true rfl) dX1_look_99 (fun H locs hP hD hS => ?_)
              have hP : va_P (dC, dI) vwCl (w1 h a b cI cJ f g zt (nI n8) zc 12 (nv B a9) zty (nI (hd (B a9))) zpa zch zlk zlo zhi zlp zll zlv) H := hP
              have hD : va_D A (w1 h a b cI cJ f g zt (nI n8) zc 12 (nv B a9) zty (nI (hd (B a9))) zpa zch zlk zlo zhi zlp zll zlv) := hD
              refine lv_aload_n hx hb dX1_look_102 rfl (lv_at hl 2 rfl) ?_
              refine va_get (D := (dC, dI)) (ci := 1) (v := .int 12) (C := RX1) (T := TX1) (N := 17) hx hb hts hin0 hown hK hP 0 rfl rfl 4 (by decide) fl47 (fun _ h9 => h9) rfl dX1_look_103 ?_
              refine lv_iconst (v := 5) hx hb dX1_look_106 (by decide) ?_
              refine lv_icmp_ne (tgt := 138) hx hb dX1_look_107 (by decide) (fun c_407 => ?_) (fun c_407 => ?_)
              · skip
                refine lv_aload_n hx hb dX1_look_138 rfl (lv_at hl 2 rfl) ?_
                refine va_get (D := (dC, dI)) (ci := 1) (v := .int 12) (C := RX1) (T := TX1) (N := 17) hx hb hts hin0 hown hK hP 0 rfl rfl 4 (by decide) fl47 (fun _ h9 => h9) rfl dX1_look_139 ?_
                refine lv_bipush (v := 12) hx hb dX1_look_142 (by decide) ?_
                refine lv_icmp_ne (tgt := 163) hx hb dX1_look_144 (by decide) (fun c_408 => ?_) (fun c_408 => ?_)
                · skip
                  exact absurd (by decide) c_408
                · skip
                  refine lv_aload_n hx hb dX1_look_147 rfl (lv_at hl 2 rfl) ?_
                  refine va_get (D := (dC, dI)) (ci := 1) (v := .ref a) (C := RX1) (T := TX1) (N := 17) hx hb hts hin0 hown hK hP 0 rfl rfl 1 (by decide) fl7 (fun _ h9 => h9) rfl dX1_look_148 ?_
                  refine lv_iload_n hx hb dX1_look_151 rfl (lv_at hl 3 rfl) ?_
                  refine lv_aload_n hx hb dX1_look_152 rfl (lv_at hl 2 rfl) ?_
                  refine va_get (D := (dC, dI)) (ci := 1) (v := .int (nI (hd (B a9)))) (C := RX1) (T := TX1) (N := 17) hx hb hts hin0 hown hK hP 0 rfl rfl 7 (by decide) fl50 (fun _ h9 => h9) rfl dX1_look_153 ?_
                  refine lv_iadd hx hb dX1_look_156 ?_
                  refine lv_iconst (v := 1) hx hb dX1_look_157 (by decide) ?_
                  refine lv_isub hx hb dX1_look_158 ?_
                  have e_409 : (((nI a9) + (nI (hd (B a9)))) - 1 : Int32) = nI (a9 + hd (B a9) - 1) := nI_am1 q4.1
                  rw [e_409]
                  refine va_iald hx hb hK hP 1 0 rfl rfl (vp_in_nI (by omega) (by decide)) dX1_look_159 ?_
                  have e_410 : (f (nI (a9 + hd (B a9) - 1)).toNatClampNeg : Int32) = nI (B (a9 + hd (B a9) - 1)) := by rw [nI_clamp (by omega)]; exact hf9 _ (by omega)
                  rw [e_410]
                  refine lv_goto (tgt := 164) hx hb dX1_look_160 (by decide) ?_
                  refine lv_istore (lv' := [(4, .int (nI (B (a9 + hd (B a9) - 1)))), (3, .int (nI (wd (B a9)))), (2, .int (nI (B a9))), (0, .ref h), (1, .int (nI a9))]) hx hb dX1_look_164 hl (by decide) rfl (fun ls hl => ?_)
                  refine lv_aload_n hx hb dX1_look_166 rfl (lv_at hl 3 rfl) ?_
                  refine lv_iload hx hb dX1_look_167 (lv_at hl 0 rfl) ?_
                  refine lv_bipush (v := 127) hx hb dX1_look_169 (by decide) ?_
                  refine lv_icmp_le (tgt := 183) hx hb dX1_look_171 (by decide) (fun c_411 => ?_) (fun c_411 => ?_)
                  · skip
                    refine lv_iload hx hb dX1_look_183 (lv_at hl 0 rfl) ?_
                    refine va_put (D := (dC, dI)) (ci := 1) (v := .int (nI (B (a9 + hd (B a9) - 1)))) (ty := .int) (C := RX1) (T := TX1) (N := 17) hx hb hts hin0 tyX1 tyX1_ok nmX1 hown hK hP hD hS 0 rfl rfl 6 (by decide) fl65 (fun _ h9 => h9) rfl (by decide +kernel) rfl rfl (Nat.le_of_ble_eq_true rfl) dX1_look_185 (fun H locs hP hD hS => ?_)
                    have hP : va_P (dC, dI) vwCl (w1 h a b cI cJ f g zt (nI n8) zc 12 (nv B a9) (nI (B (a9 + hd (B a9) - 1))) (nI (hd (B a9))) zpa zch zlk zlo zhi zlp zll zlv) H := hP
                    have hD : va_D A (w1 h a b cI cJ f g zt (nI n8) zc 12 (nv B a9) (nI (B (a9 + hd (B a9) - 1))) (nI (hd (B a9))) zpa zch zlk zlo zhi zlp zll zlv) := hD
                    refine lv_aload_n hx hb dX1_look_188 rfl (lv_at hl 3 rfl) ?_
                    refine lv_lconst (v := 0) hx hb dX1_look_189 (by decide) ?_
                    refine va_put (D := (dC, dI)) (ci := 1) (v := .long 0) (ty := .long) (C := RX1) (T := TX1) (N := 17) hx hb hts hin0 tyX1 tyX1_ok nmX1 hown hK hP hD hS 0 rfl rfl 8 (by decide) fl68 (fun _ h9 => h9) rfl (by decide +kernel) rfl rfl (Nat.le_of_ble_eq_true rfl) dX1_look_190 (fun H locs hP hD hS => ?_)
                    have hP : va_P (dC, dI) vwCl (w1 h a b cI cJ f g zt (nI n8) zc 12 (nv B a9) (nI (B (a9 + hd (B a9) - 1))) (nI (hd (B a9))) 0 zch zlk zlo zhi zlp zll zlv) H := hP
                    have hD : va_D A (w1 h a b cI cJ f g zt (nI n8) zc 12 (nv B a9) (nI (B (a9 + hd (B a9) - 1))) (nI (hd (B a9))) 0 zch zlk zlo zhi zlp zll zlv) := hD
                    refine lv_aload_n hx hb dX1_look_193 rfl (lv_at hl 3 rfl) ?_
                    refine lv_lconst (v := 0) hx hb dX1_look_194 (by decide) ?_
                    refine va_put (D := (dC, dI)) (ci := 1) (v := .long 0) (ty := .long) (C := RX1) (T := TX1) (N := 17) hx hb hts hin0 tyX1 tyX1_ok nmX1 hown hK hP hD hS 0 rfl rfl 9 (by decide) fl71 (fun _ h9 => h9) rfl (by decide +kernel) rfl rfl (Nat.le_of_ble_eq_true rfl) dX1_look_195 (fun H locs hP hD hS => ?_)
                    have hP : va_P (dC, dI) vwCl (w1 h a b cI cJ f g zt (nI n8) zc 12 (nv B a9) (nI (B (a9 + hd (B a9) - 1))) (nI (hd (B a9))) 0 0 zlk zlo zhi zlp zll zlv) H := hP
                    have hD : va_D A (w1 h a b cI cJ f g zt (nI n8) zc 12 (nv B a9) (nI (B (a9 + hd (B a9) - 1))) (nI (hd (B a9))) 0 0 zlk zlo zhi zlp zll zlv) := hD
                    refine lv_aload_n hx hb dX1_look_198 rfl (lv_at hl 3 rfl) ?_
                    refine va_get (D := (dC, dI)) (ci := 1) (v := .int 12) (C := RX1) (T := TX1) (N := 17) hx hb hts hin0 hown hK hP 0 rfl rfl 4 (by decide) fl47 (fun _ h9 => h9) rfl dX1_look_199 ?_
                    refine lv_bipush (v := 7) hx hb dX1_look_202 (by decide) ?_
                    refine lv_icmp_le (tgt := 221) hx hb dX1_look_204 (by decide) (fun c_412 => ?_) (fun c_412 => ?_)
                    · skip
                      exact absurd c_412 (by decide)
                    · skip
                      refine lv_aload_n hx hb dX1_look_207 rfl (lv_at hl 3 rfl) ?_
                      refine va_get (D := (dC, dI)) (ci := 1) (v := .long (nv B a9)) (C := RX1) (T := TX1) (N := 17) hx hb hts hin0 hown hK hP 0 rfl rfl 5 (by decide) fl61 (fun _ h9 => h9) rfl dX1_look_208 ?_
                      refine lv_ldc2 (v := 2147483647) hx hb hown (hts (.constantLong RX1 74 (2147483647)) (by decide +kernel)) dX1_look_211 ?_
                      refine W.lcmp hx hb dX1_look_214 ?_
                      refine lv_if_le (tgt := 221) hx hb dX1_look_215 (by decide) (fun c_413 => ?_) (fun c_413 => ?_)
                      · skip
                        have c_413 := (lg_cmp_le (nv B a9) (2147483647 : Int64)).mp c_413
                        have q6 : 8 ≤ kd (B a9) → nv B a9 ≤ 2147483647 := fun _ => c_413
                        refine lv_aload_n hx hb dX1_look_221 rfl (lv_at hl 3 rfl) ?_
                        refine va_get (D := (dC, dI)) (ci := 1) (v := .int 12) (C := RX1) (T := TX1) (N := 17) hx hb hts hin0 hown hK hP 0 rfl rfl 4 (by decide) fl47 (fun _ h9 => h9) rfl dX1_look_222 ?_
                        refine lv_bipush (v := 8) hx hb dX1_look_225 (by decide) ?_
                        refine lv_icmp_eq (tgt := 248) hx hb dX1_look_227 (by decide) (fun c_414 => ?_) (fun c_414 => ?_)
                        · skip
                          exact absurd c_414 (by decide)
                        · skip
                          refine lv_aload_n hx hb dX1_look_230 rfl (lv_at hl 3 rfl) ?_
                          refine va_get (D := (dC, dI)) (ci := 1) (v := .int 12) (C := RX1) (T := TX1) (N := 17) hx hb hts hin0 hown hK hP 0 rfl rfl 4 (by decide) fl47 (fun _ h9 => h9) rfl dX1_look_231 ?_
                          refine lv_bipush (v := 9) hx hb dX1_look_234 (by decide) ?_
                          refine lv_icmp_eq (tgt := 248) hx hb dX1_look_236 (by decide) (fun c_415 => ?_) (fun c_415 => ?_)
                          · skip
                            exact absurd c_415 (by decide)
                          · skip
                            refine lv_aload_n hx hb dX1_look_239 rfl (lv_at hl 3 rfl) ?_
                            refine va_get (D := (dC, dI)) (ci := 1) (v := .int 12) (C := RX1) (T := TX1) (N := 17) hx hb hts hin0 hown hK hP 0 rfl rfl 4 (by decide) fl47 (fun _ h9 => h9) rfl dX1_look_240 ?_
                            refine lv_bipush (v := 12) hx hb dX1_look_243 (by decide) ?_
                            refine lv_icmp_ne (tgt := 256) hx hb dX1_look_245 (by decide) (fun c_416 => ?_) (fun c_416 => ?_)
                            · skip
                              exact absurd (by decide) c_416
                            · skip
                              refine lv_aload_n hx hb dX1_look_248 rfl (lv_at hl 3 rfl) ?_
                              refine lv_aload_n hx hb dX1_look_249 rfl (lv_at hl 3 rfl) ?_
                              refine va_get (D := (dC, dI)) (ci := 1) (v := .long (nv B a9)) (C := RX1) (T := TX1) (N := 17) hx hb hts hin0 hown hK hP 0 rfl rfl 5 (by decide) fl61 (fun _ h9 => h9) rfl dX1_look_250 ?_
                              refine va_put (D := (dC, dI)) (ci := 1) (v := .long (nv B a9)) (ty := .long) (C := RX1) (T := TX1) (N := 17) hx hb hts hin0 tyX1 tyX1_ok nmX1 hown hK hP hD hS 0 rfl rfl 8 (by decide) fl68 (fun _ h9 => h9) rfl (by decide +kernel) rfl rfl (Nat.le_of_ble_eq_true rfl) dX1_look_253 (fun H locs hP hD hS => ?_)
                              have hP : va_P (dC, dI) vwCl (w1 h a b cI cJ f g zt (nI n8) zc 12 (nv B a9) (nI (B (a9 + hd (B a9) - 1))) (nI (hd (B a9))) (nv B a9) 0 zlk zlo zhi zlp zll zlv) H := hP
                              have hD : va_D A (w1 h a b cI cJ f g zt (nI n8) zc 12 (nv B a9) (nI (B (a9 + hd (B a9) - 1))) (nI (hd (B a9))) (nv B a9) 0 zlk zlo zhi zlp zll zlv) := hD
                              refine lv_aload_n hx hb dX1_look_256 rfl (lv_at hl 3 rfl) ?_
                              refine va_get (D := (dC, dI)) (ci := 1) (v := .int 12) (C := RX1) (T := TX1) (N := 17) hx hb hts hin0 hown hK hP 0 rfl rfl 4 (by decide) fl47 (fun _ h9 => h9) rfl dX1_look_257 ?_
                              refine lv_bipush (v := 10) hx hb dX1_look_260 (by decide) ?_
                              refine lv_icmp_ne (tgt := 273) hx hb dX1_look_262 (by decide) (fun c_417 => ?_) (fun c_417 => ?_)
                              · skip
                                refine lv_aload_n hx hb dX1_look_273 rfl (lv_at hl 3 rfl) ?_
                                refine va_get (D := (dC, dI)) (ci := 1) (v := .int 12) (C := RX1) (T := TX1) (N := 17) hx hb hts hin0 hown hK hP 0 rfl rfl 4 (by decide) fl47 (fun _ h9 => h9) rfl dX1_look_274 ?_
                                refine lv_bipush (v := 11) hx hb dX1_look_277 (by decide) ?_
                                refine lv_icmp_ne (tgt := 294) hx hb dX1_look_279 (by decide) (fun c_418 => ?_) (fun c_418 => ?_)
                                · skip
                                  have q7 : paL B a9 = nv B a9 := by simp [paL, hp, hk]
                                  refine lv_iload_n hx hb dX1_look_294 rfl (lv_at hl 4 rfl) ?_
                                  refine lv_aload_n hx hb dX1_look_295 rfl (lv_at hl 3 rfl) ?_
                                  refine va_get (D := (dC, dI)) (ci := 1) (v := .int (nI (hd (B a9)))) (C := RX1) (T := TX1) (N := 17) hx hb hts hin0 hown hK hP 0 rfl rfl 7 (by decide) fl50 (fun _ h9 => h9) rfl dX1_look_296 ?_
                                  refine lv_iadd hx hb dX1_look_299 ?_
                                  refine lv_i2l hx hb dX1_look_300 rfl ?_
                                  refine lv_aload_n hx hb dX1_look_301 rfl (lv_at hl 3 rfl) ?_
                                  refine va_get (D := (dC, dI)) (ci := 1) (v := .long (nv B a9)) (C := RX1) (T := TX1) (N := 17) hx hb hts hin0 hown hK hP 0 rfl rfl 8 (by decide) fl68 (fun _ h9 => h9) rfl dX1_look_302 ?_
                                  refine lv_ladd hx hb dX1_look_305 ?_
                                  refine lv_aload_n hx hb dX1_look_306 rfl (lv_at hl 3 rfl) ?_
                                  refine va_get (D := (dC, dI)) (ci := 1) (v := .int (nI n8)) (C := RX1) (T := TX1) (N := 17) hx hb hts hin0 hown hK hP 0 rfl rfl 2 (by decide) fl28 (fun _ h9 => h9) rfl dX1_look_307 ?_
                                  refine lv_i2l hx hb dX1_look_310 rfl ?_
                                  refine W.lcmp hx hb dX1_look_311 ?_
                                  refine lv_if_le (tgt := 320) hx hb dX1_look_312 (by decide) (fun c_419 => ?_) (fun c_419 => ?_)
                                  · skip
                                    have c_419 := (lg_cmp_le ((((nI a9) + (nI (hd (B a9)))).toInt64) + (nv B a9)) ((nI n8).toInt64)).mp c_419
                                    refine lv_iconst (v := 0) hx hb dX1_look_320 (by decide) ?_
                                    have hP9 : va_P (dC, dI) vwCl ((fun (u : Int32 × Int64 × Int32 × Int32 × Int64 × Int64) => w1 h a b cI cJ f g zt (nI n8) zc u.1 u.2.1 u.2.2.1 u.2.2.2.1 u.2.2.2.2.1 u.2.2.2.2.2 zlk zlo zhi zlp zll zlv) ((12, nv B a9, nI (B (a9 + hd (B a9) - 1)), nI (hd (B a9)), nv B a9, 0))) H := hP
                                    have hD9 : va_D A ((fun (u : Int32 × Int64 × Int32 × Int32 × Int64 × Int64) => w1 h a b cI cJ f g zt (nI n8) zc u.1 u.2.1 u.2.2.1 u.2.2.2.1 u.2.2.2.2.1 u.2.2.2.2.2 zlk zlo zhi zlp zll zlv) ((12, nv B a9, nI (B (a9 + hd (B a9) - 1)), nI (hd (B a9)), nv B a9, 0))) := hD
                                    exact W.iret (v := 0) hx hb hr (fun t ht hW => ⟨⟨0, (12, nv B a9, nI (B (a9 + hd (B a9) - 1)), nI (hd (B a9)), nv B a9, 0), rfl, (by have q8 := (lk_end hB hn8 q1 q2 q3 q6).1 (by rw [q7]; exact c_419); exact Or.inr ⟨by rw [q8]; exact nI_pos (by have := kd_le _ (hB a9); omega), rfl, by rw [hk]; rfl, rfl, fun _ => by unfold tyS; rw [if_pos c_411], rfl, q7.symm, by simp [ch, hk]⟩), by rw [ht]; exact hP9, va_K.moved hW.alike hK, hD9⟩, hS.F ht⟩) hS.2.2 dX1_look_321
                                  · skip
                                    have c_419 := (not_congr (lg_cmp_le ((((nI a9) + (nI (hd (B a9)))).toInt64) + (nv B a9)) ((nI n8).toInt64))).mp c_419
                                    refine lv_bipush (v := -2) hx hb dX1_look_315 (by decide) ?_
                                    refine lv_goto (tgt := 321) hx hb dX1_look_317 (by decide) ?_
                                    have hP9 : va_P (dC, dI) vwCl ((fun (u : Int32 × Int64 × Int32 × Int32 × Int64 × Int64) => w1 h a b cI cJ f g zt (nI n8) zc u.1 u.2.1 u.2.2.1 u.2.2.2.1 u.2.2.2.2.1 u.2.2.2.2.2 zlk zlo zhi zlp zll zlv) ((12, nv B a9, nI (B (a9 + hd (B a9) - 1)), nI (hd (B a9)), nv B a9, 0))) H := hP
                                    have hD9 : va_D A ((fun (u : Int32 × Int64 × Int32 × Int32 × Int64 × Int64) => w1 h a b cI cJ f g zt (nI n8) zc u.1 u.2.1 u.2.2.1 u.2.2.2.1 u.2.2.2.2.1 u.2.2.2.2.2 zlk zlo zhi zlp zll zlv) ((12, nv B a9, nI (B (a9 + hd (B a9) - 1)), nI (hd (B a9)), nv B a9, 0))) := hD
                                    exact W.iret (v := -2) hx hb hr (fun t ht hW => ⟨⟨-2, (12, nv B a9, nI (B (a9 + hd (B a9) - 1)), nI (hd (B a9)), nv B a9, 0), rfl, (lkneg ((lk_end hB hn8 q1 q2 q3 q6).2 (by rw [q7]; exact c_419)) (by decide)), by rw [ht]; exact hP9, va_K.moved hW.alike hK, hD9⟩, hS.F ht⟩) hS.2.2 dX1_look_321
                                · skip
                                  exact absurd c_418 (by decide)
                              · skip
                                exact absurd c_417 (by decide)
                      · skip
                        have c_413 := (not_congr (lg_cmp_le (nv B a9) (2147483647 : Int64))).mp c_413
                        refine lv_bipush (v := -4) hx hb dX1_look_218 (by decide) ?_
                        have hP9 : va_P (dC, dI) vwCl ((fun (u : Int32 × Int64 × Int32 × Int32 × Int64 × Int64) => w1 h a b cI cJ f g zt (nI n8) zc u.1 u.2.1 u.2.2.1 u.2.2.2.1 u.2.2.2.2.1 u.2.2.2.2.2 zlk zlo zhi zlp zll zlv) ((12, nv B a9, nI (B (a9 + hd (B a9) - 1)), nI (hd (B a9)), 0, 0))) H := hP
                        have hD9 : va_D A ((fun (u : Int32 × Int64 × Int32 × Int32 × Int64 × Int64) => w1 h a b cI cJ f g zt (nI n8) zc u.1 u.2.1 u.2.2.1 u.2.2.2.1 u.2.2.2.2.1 u.2.2.2.2.2 zlk zlo zhi zlp zll zlv) ((12, nv B a9, nI (B (a9 + hd (B a9) - 1)), nI (hd (B a9)), 0, 0))) := hD
                        exact W.iret (v := -4) hx hb hr (fun t ht hW => ⟨⟨-4, (12, nv B a9, nI (B (a9 + hd (B a9) - 1)), nI (hd (B a9)), 0, 0), rfl, (lkneg (lk4 hB hn8 q1 q2 q3 (by rw [hk]; decide) c_413) (by decide)), by rw [ht]; exact hP9, va_K.moved hW.alike hK, hD9⟩, hS.F ht⟩) hS.2.2 dX1_look_220
                  · skip
                    refine lv_iload hx hb dX1_look_174 (lv_at hl 0 rfl) ?_
                    refine lv_sipush (v := 256) hx hb dX1_look_176 (by decide) ?_
                    refine lv_isub hx hb dX1_look_179 ?_
                    refine lv_goto (tgt := 185) hx hb dX1_look_180 (by decide) ?_
                    refine va_put (D := (dC, dI)) (ci := 1) (v := .int ((nI (B (a9 + hd (B a9) - 1))) - 256)) (ty := .int) (C := RX1) (T := TX1) (N := 17) hx hb hts hin0 tyX1 tyX1_ok nmX1 hown hK hP hD hS 0 rfl rfl 6 (by decide) fl65 (fun _ h9 => h9) rfl (by decide +kernel) rfl rfl (Nat.le_of_ble_eq_true rfl) dX1_look_185 (fun H locs hP hD hS => ?_)
                    have hP : va_P (dC, dI) vwCl (w1 h a b cI cJ f g zt (nI n8) zc 12 (nv B a9) ((nI (B (a9 + hd (B a9) - 1))) - 256) (nI (hd (B a9))) zpa zch zlk zlo zhi zlp zll zlv) H := hP
                    have hD : va_D A (w1 h a b cI cJ f g zt (nI n8) zc 12 (nv B a9) ((nI (B (a9 + hd (B a9) - 1))) - 256) (nI (hd (B a9))) zpa zch zlk zlo zhi zlp zll zlv) := hD
                    refine lv_aload_n hx hb dX1_look_188 rfl (lv_at hl 3 rfl) ?_
                    refine lv_lconst (v := 0) hx hb dX1_look_189 (by decide) ?_
                    refine va_put (D := (dC, dI)) (ci := 1) (v := .long 0) (ty := .long) (C := RX1) (T := TX1) (N := 17) hx hb hts hin0 tyX1 tyX1_ok nmX1 hown hK hP hD hS 0 rfl rfl 8 (by decide) fl68 (fun _ h9 => h9) rfl (by decide +kernel) rfl rfl (Nat.le_of_ble_eq_true rfl) dX1_look_190 (fun H locs hP hD hS => ?_)
                    have hP : va_P (dC, dI) vwCl (w1 h a b cI cJ f g zt (nI n8) zc 12 (nv B a9) ((nI (B (a9 + hd (B a9) - 1))) - 256) (nI (hd (B a9))) 0 zch zlk zlo zhi zlp zll zlv) H := hP
                    have hD : va_D A (w1 h a b cI cJ f g zt (nI n8) zc 12 (nv B a9) ((nI (B (a9 + hd (B a9) - 1))) - 256) (nI (hd (B a9))) 0 zch zlk zlo zhi zlp zll zlv) := hD
                    refine lv_aload_n hx hb dX1_look_193 rfl (lv_at hl 3 rfl) ?_
                    refine lv_lconst (v := 0) hx hb dX1_look_194 (by decide) ?_
                    refine va_put (D := (dC, dI)) (ci := 1) (v := .long 0) (ty := .long) (C := RX1) (T := TX1) (N := 17) hx hb hts hin0 tyX1 tyX1_ok nmX1 hown hK hP hD hS 0 rfl rfl 9 (by decide) fl71 (fun _ h9 => h9) rfl (by decide +kernel) rfl rfl (Nat.le_of_ble_eq_true rfl) dX1_look_195 (fun H locs hP hD hS => ?_)
                    have hP : va_P (dC, dI) vwCl (w1 h a b cI cJ f g zt (nI n8) zc 12 (nv B a9) ((nI (B (a9 + hd (B a9) - 1))) - 256) (nI (hd (B a9))) 0 0 zlk zlo zhi zlp zll zlv) H := hP
                    have hD : va_D A (w1 h a b cI cJ f g zt (nI n8) zc 12 (nv B a9) ((nI (B (a9 + hd (B a9) - 1))) - 256) (nI (hd (B a9))) 0 0 zlk zlo zhi zlp zll zlv) := hD
                    refine lv_aload_n hx hb dX1_look_198 rfl (lv_at hl 3 rfl) ?_
                    refine va_get (D := (dC, dI)) (ci := 1) (v := .int 12) (C := RX1) (T := TX1) (N := 17) hx hb hts hin0 hown hK hP 0 rfl rfl 4 (by decide) fl47 (fun _ h9 => h9) rfl dX1_look_199 ?_
                    refine lv_bipush (v := 7) hx hb dX1_look_202 (by decide) ?_
                    refine lv_icmp_le (tgt := 221) hx hb dX1_look_204 (by decide) (fun c_420 => ?_) (fun c_420 => ?_)
                    · skip
                      exact absurd c_420 (by decide)
                    · skip
                      refine lv_aload_n hx hb dX1_look_207 rfl (lv_at hl 3 rfl) ?_
                      refine va_get (D := (dC, dI)) (ci := 1) (v := .long (nv B a9)) (C := RX1) (T := TX1) (N := 17) hx hb hts hin0 hown hK hP 0 rfl rfl 5 (by decide) fl61 (fun _ h9 => h9) rfl dX1_look_208 ?_
                      refine lv_ldc2 (v := 2147483647) hx hb hown (hts (.constantLong RX1 74 (2147483647)) (by decide +kernel)) dX1_look_211 ?_
                      refine W.lcmp hx hb dX1_look_214 ?_
                      refine lv_if_le (tgt := 221) hx hb dX1_look_215 (by decide) (fun c_421 => ?_) (fun c_421 => ?_)
                      · skip
                        have c_421 := (lg_cmp_le (nv B a9) (2147483647 : Int64)).mp c_421
                        have q6 : 8 ≤ kd (B a9) → nv B a9 ≤ 2147483647 := fun _ => c_421
                        refine lv_aload_n hx hb dX1_look_221 rfl (lv_at hl 3 rfl) ?_
                        refine va_get (D := (dC, dI)) (ci := 1) (v := .int 12) (C := RX1) (T := TX1) (N := 17) hx hb hts hin0 hown hK hP 0 rfl rfl 4 (by decide) fl47 (fun _ h9 => h9) rfl dX1_look_222 ?_
                        refine lv_bipush (v := 8) hx hb dX1_look_225 (by decide) ?_
                        refine lv_icmp_eq (tgt := 248) hx hb dX1_look_227 (by decide) (fun c_422 => ?_) (fun c_422 => ?_)
                        · skip
                          exact absurd c_422 (by decide)
                        · skip
                          refine lv_aload_n hx hb dX1_look_230 rfl (lv_at hl 3 rfl) ?_
                          refine va_get (D := (dC, dI)) (ci := 1) (v := .int 12) (C := RX1) (T := TX1) (N := 17) hx hb hts hin0 hown hK hP 0 rfl rfl 4 (by decide) fl47 (fun _ h9 => h9) rfl dX1_look_231 ?_
                          refine lv_bipush (v := 9) hx hb dX1_look_234 (by decide) ?_
                          refine lv_icmp_eq (tgt := 248) hx hb dX1_look_236 (by decide) (fun c_423 => ?_) (fun c_423 => ?_)
                          · skip
                            exact absurd c_423 (by decide)
                          · skip
                            refine lv_aload_n hx hb dX1_look_239 rfl (lv_at hl 3 rfl) ?_
                            refine va_get (D := (dC, dI)) (ci := 1) (v := .int 12) (C := RX1) (T := TX1) (N := 17) hx hb hts hin0 hown hK hP 0 rfl rfl 4 (by decide) fl47 (fun _ h9 => h9) rfl dX1_look_240 ?_
                            refine lv_bipush (v := 12) hx hb dX1_look_243 (by decide) ?_
                            refine lv_icmp_ne (tgt := 256) hx hb dX1_look_245 (by decide) (fun c_424 => ?_) (fun c_424 => ?_)
                            · skip
                              exact absurd (by decide) c_424
                            · skip
                              refine lv_aload_n hx hb dX1_look_248 rfl (lv_at hl 3 rfl) ?_
                              refine lv_aload_n hx hb dX1_look_249 rfl (lv_at hl 3 rfl) ?_
                              refine va_get (D := (dC, dI)) (ci := 1) (v := .long (nv B a9)) (C := RX1) (T := TX1) (N := 17) hx hb hts hin0 hown hK hP 0 rfl rfl 5 (by decide) fl61 (fun _ h9 => h9) rfl dX1_look_250 ?_
                              refine va_put (D := (dC, dI)) (ci := 1) (v := .long (nv B a9)) (ty := .long) (C := RX1) (T := TX1) (N := 17) hx hb hts hin0 tyX1 tyX1_ok nmX1 hown hK hP hD hS 0 rfl rfl 8 (by decide) fl68 (fun _ h9 => h9) rfl (by decide +kernel) rfl rfl (Nat.le_of_ble_eq_true rfl) dX1_look_253 (fun H locs hP hD hS => ?_)
                              have hP : va_P (dC, dI) vwCl (w1 h a b cI cJ f g zt (nI n8) zc 12 (nv B a9) ((nI (B (a9 + hd (B a9) - 1))) - 256) (nI (hd (B a9))) (nv B a9) 0 zlk zlo zhi zlp zll zlv) H := hP
                              have hD : va_D A (w1 h a b cI cJ f g zt (nI n8) zc 12 (nv B a9) ((nI (B (a9 + hd (B a9) - 1))) - 256) (nI (hd (B a9))) (nv B a9) 0 zlk zlo zhi zlp zll zlv) := hD
                              refine lv_aload_n hx hb dX1_look_256 rfl (lv_at hl 3 rfl) ?_
                              refine va_get (D := (dC, dI)) (ci := 1) (v := .int 12) (C := RX1) (T := TX1) (N := 17) hx hb hts hin0 hown hK hP 0 rfl rfl 4 (by decide) fl47 (fun _ h9 => h9) rfl dX1_look_257 ?_
                              refine lv_bipush (v := 10) hx hb dX1_look_260 (by decide) ?_
                              refine lv_icmp_ne (tgt := 273) hx hb dX1_look_262 (by decide) (fun c_425 => ?_) (fun c_425 => ?_)
                              · skip
                                refine lv_aload_n hx hb dX1_look_273 rfl (lv_at hl 3 rfl) ?_
                                refine va_get (D := (dC, dI)) (ci := 1) (v := .int 12) (C := RX1) (T := TX1) (N := 17) hx hb hts hin0 hown hK hP 0 rfl rfl 4 (by decide) fl47 (fun _ h9 => h9) rfl dX1_look_274 ?_
                                refine lv_bipush (v := 11) hx hb dX1_look_277 (by decide) ?_
                                refine lv_icmp_ne (tgt := 294) hx hb dX1_look_279 (by decide) (fun c_426 => ?_) (fun c_426 => ?_)
                                · skip
                                  have q7 : paL B a9 = nv B a9 := by simp [paL, hp, hk]
                                  refine lv_iload_n hx hb dX1_look_294 rfl (lv_at hl 4 rfl) ?_
                                  refine lv_aload_n hx hb dX1_look_295 rfl (lv_at hl 3 rfl) ?_
                                  refine va_get (D := (dC, dI)) (ci := 1) (v := .int (nI (hd (B a9)))) (C := RX1) (T := TX1) (N := 17) hx hb hts hin0 hown hK hP 0 rfl rfl 7 (by decide) fl50 (fun _ h9 => h9) rfl dX1_look_296 ?_
                                  refine lv_iadd hx hb dX1_look_299 ?_
                                  refine lv_i2l hx hb dX1_look_300 rfl ?_
                                  refine lv_aload_n hx hb dX1_look_301 rfl (lv_at hl 3 rfl) ?_
                                  refine va_get (D := (dC, dI)) (ci := 1) (v := .long (nv B a9)) (C := RX1) (T := TX1) (N := 17) hx hb hts hin0 hown hK hP 0 rfl rfl 8 (by decide) fl68 (fun _ h9 => h9) rfl dX1_look_302 ?_
                                  refine lv_ladd hx hb dX1_look_305 ?_
                                  refine lv_aload_n hx hb dX1_look_306 rfl (lv_at hl 3 rfl) ?_
                                  refine va_get (D := (dC, dI)) (ci := 1) (v := .int (nI n8)) (C := RX1) (T := TX1) (N := 17) hx hb hts hin0 hown hK hP 0 rfl rfl 2 (by decide) fl28 (fun _ h9 => h9) rfl dX1_look_307 ?_
                                  refine lv_i2l hx hb dX1_look_310 rfl ?_
                                  refine W.lcmp hx hb dX1_look_311 ?_
                                  refine lv_if_le (tgt := 320) hx hb dX1_look_312 (by decide) (fun c_427 => ?_) (fun c_427 => ?_)
                                  · skip
                                    have c_427 := (lg_cmp_le ((((nI a9) + (nI (hd (B a9)))).toInt64) + (nv B a9)) ((nI n8).toInt64)).mp c_427
                                    refine lv_iconst (v := 0) hx hb dX1_look_320 (by decide) ?_
                                    have hP9 : va_P (dC, dI) vwCl ((fun (u : Int32 × Int64 × Int32 × Int32 × Int64 × Int64) => w1 h a b cI cJ f g zt (nI n8) zc u.1 u.2.1 u.2.2.1 u.2.2.2.1 u.2.2.2.2.1 u.2.2.2.2.2 zlk zlo zhi zlp zll zlv) ((12, nv B a9, (nI (B (a9 + hd (B a9) - 1))) - 256, nI (hd (B a9)), nv B a9, 0))) H := hP
                                    have hD9 : va_D A ((fun (u : Int32 × Int64 × Int32 × Int32 × Int64 × Int64) => w1 h a b cI cJ f g zt (nI n8) zc u.1 u.2.1 u.2.2.1 u.2.2.2.1 u.2.2.2.2.1 u.2.2.2.2.2 zlk zlo zhi zlp zll zlv) ((12, nv B a9, (nI (B (a9 + hd (B a9) - 1))) - 256, nI (hd (B a9)), nv B a9, 0))) := hD
                                    exact W.iret (v := 0) hx hb hr (fun t ht hW => ⟨⟨0, (12, nv B a9, (nI (B (a9 + hd (B a9) - 1))) - 256, nI (hd (B a9)), nv B a9, 0), rfl, (by have q8 := (lk_end hB hn8 q1 q2 q3 q6).1 (by rw [q7]; exact c_427); exact Or.inr ⟨by rw [q8]; exact nI_pos (by have := kd_le _ (hB a9); omega), rfl, by rw [hk]; rfl, rfl, fun _ => by unfold tyS; rw [if_neg c_411], rfl, q7.symm, by simp [ch, hk]⟩), by rw [ht]; exact hP9, va_K.moved hW.alike hK, hD9⟩, hS.F ht⟩) hS.2.2 dX1_look_321
                                  · skip
                                    have c_427 := (not_congr (lg_cmp_le ((((nI a9) + (nI (hd (B a9)))).toInt64) + (nv B a9)) ((nI n8).toInt64))).mp c_427
                                    refine lv_bipush (v := -2) hx hb dX1_look_315 (by decide) ?_
                                    refine lv_goto (tgt := 321) hx hb dX1_look_317 (by decide) ?_
                                    have hP9 : va_P (dC, dI) vwCl ((fun (u : Int32 × Int64 × Int32 × Int32 × Int64 × Int64) => w1 h a b cI cJ f g zt (nI n8) zc u.1 u.2.1 u.2.2.1 u.2.2.2.1 u.2.2.2.2.1 u.2.2.2.2.2 zlk zlo zhi zlp zll zlv) ((12, nv B a9, (nI (B (a9 + hd (B a9) - 1))) - 256, nI (hd (B a9)), nv B a9, 0))) H := hP
                                    have hD9 : va_D A ((fun (u : Int32 × Int64 × Int32 × Int32 × Int64 × Int64) => w1 h a b cI cJ f g zt (nI n8) zc u.1 u.2.1 u.2.2.1 u.2.2.2.1 u.2.2.2.2.1 u.2.2.2.2.2 zlk zlo zhi zlp zll zlv) ((12, nv B a9, (nI (B (a9 + hd (B a9) - 1))) - 256, nI (hd (B a9)), nv B a9, 0))) := hD
                                    exact W.iret (v := -2) hx hb hr (fun t ht hW => ⟨⟨-2, (12, nv B a9, (nI (B (a9 + hd (B a9) - 1))) - 256, nI (hd (B a9)), nv B a9, 0), rfl, (lkneg ((lk_end hB hn8 q1 q2 q3 q6).2 (by rw [q7]; exact c_427)) (by decide)), by rw [ht]; exact hP9, va_K.moved hW.alike hK, hD9⟩, hS.F ht⟩) hS.2.2 dX1_look_321
                                · skip
                                  exact absurd c_426 (by decide)
                              · skip
                                exact absurd c_425 (by decide)
                      · skip
                        have c_421 := (not_congr (lg_cmp_le (nv B a9) (2147483647 : Int64))).mp c_421
                        refine lv_bipush (v := -4) hx hb dX1_look_218 (by decide) ?_
                        have hP9 : va_P (dC, dI) vwCl ((fun (u : Int32 × Int64 × Int32 × Int32 × Int64 × Int64) => w1 h a b cI cJ f g zt (nI n8) zc u.1 u.2.1 u.2.2.1 u.2.2.2.1 u.2.2.2.2.1 u.2.2.2.2.2 zlk zlo zhi zlp zll zlv) ((12, nv B a9, (nI (B (a9 + hd (B a9) - 1))) - 256, nI (hd (B a9)), 0, 0))) H := hP
                        have hD9 : va_D A ((fun (u : Int32 × Int64 × Int32 × Int32 × Int64 × Int64) => w1 h a b cI cJ f g zt (nI n8) zc u.1 u.2.1 u.2.2.1 u.2.2.2.1 u.2.2.2.2.1 u.2.2.2.2.2 zlk zlo zhi zlp zll zlv) ((12, nv B a9, (nI (B (a9 + hd (B a9) - 1))) - 256, nI (hd (B a9)), 0, 0))) := hD
                        exact W.iret (v := -4) hx hb hr (fun t ht hW => ⟨⟨-4, (12, nv B a9, (nI (B (a9 + hd (B a9) - 1))) - 256, nI (hd (B a9)), 0, 0), rfl, (lkneg (lk4 hB hn8 q1 q2 q3 (by rw [hk]; decide) c_421) (by decide)), by rw [ht]; exact hP9, va_K.moved hW.alike hK, hD9⟩, hS.F ht⟩) hS.2.2 dX1_look_220
              · skip
                exact absurd c_407 (by decide)
            · skip
              have q5 : wd (B a9) = 0 := (nI_z (by omega)).mp c_402
              refine lv_iload_n hx hb dX1_look_84 rfl (lv_at hl 1 rfl) ?_
              refine gsl (As := [.int (nI (B a9))]) (rest := [.ref h]) ⟨hx, hb, hml, hown, hts⟩ (c_X1_ownNumber l dC dI tk tw _ (B a9) (hB a9)) (va_cwS 1 hts gX1_look_X1_ownNumber rfl rfl rfl (by decide +kernel) ⟨Nat.le_of_ble_eq_true rfl, Nat.le_of_ble_eq_true rfl⟩) hP hS hA hZ rfl hl.1 rfl (Nat.le_of_ble_eq_true rfl) dX1_look_85 ⟨Nat.le_of_ble_eq_true rfl, Nat.le_of_ble_eq_true rfl⟩ (fun r_429 H locs hw_428 hP hS => ?_)
              obtain rfl : r_429 = nv B a9 := hw_428.trans (nv_w0 q5).symm
              refine lv_goto (tgt := 99) hx hb dX1_look_88 (by decide) ?_
              refine va_put (D := (dC, dI)) (ci := 1) (v := .long (nv B a9)) (ty := .long) (C := RX1) (T := TX1) (N := 17) hx hb hts hin0 tyX1 tyX1_ok nmX1 hown hK hP hD hS 0 rfl rfl 5 (by decide) fl61 (fun _ h9 => h9) rfl (by decide +kernel) rfl rfl (Nat.le_of_ble_eq_true rfl) dX1_look_99 (fun H locs hP hD hS => ?_)
              have hP : va_P (dC, dI) vwCl (w1 h a b cI cJ f g zt (nI n8) zc 12 (nv B a9) zty (nI (hd (B a9))) zpa zch zlk zlo zhi zlp zll zlv) H := hP
              have hD : va_D A (w1 h a b cI cJ f g zt (nI n8) zc 12 (nv B a9) zty (nI (hd (B a9))) zpa zch zlk zlo zhi zlp zll zlv) := hD
              refine lv_aload_n hx hb dX1_look_102 rfl (lv_at hl 2 rfl) ?_
              refine va_get (D := (dC, dI)) (ci := 1) (v := .int 12) (C := RX1) (T := TX1) (N := 17) hx hb hts hin0 hown hK hP 0 rfl rfl 4 (by decide) fl47 (fun _ h9 => h9) rfl dX1_look_103 ?_
              refine lv_iconst (v := 5) hx hb dX1_look_106 (by decide) ?_
              refine lv_icmp_ne (tgt := 138) hx hb dX1_look_107 (by decide) (fun c_430 => ?_) (fun c_430 => ?_)
              · skip
                refine lv_aload_n hx hb dX1_look_138 rfl (lv_at hl 2 rfl) ?_
                refine va_get (D := (dC, dI)) (ci := 1) (v := .int 12) (C := RX1) (T := TX1) (N := 17) hx hb hts hin0 hown hK hP 0 rfl rfl 4 (by decide) fl47 (fun _ h9 => h9) rfl dX1_look_139 ?_
                refine lv_bipush (v := 12) hx hb dX1_look_142 (by decide) ?_
                refine lv_icmp_ne (tgt := 163) hx hb dX1_look_144 (by decide) (fun c_431 => ?_) (fun c_431 => ?_)
                · skip
                  exact absurd (by decide) c_431
                · skip
                  refine lv_aload_n hx hb dX1_look_147 rfl (lv_at hl 2 rfl) ?_
                  refine va_get (D := (dC, dI)) (ci := 1) (v := .ref a) (C := RX1) (T := TX1) (N := 17) hx hb hts hin0 hown hK hP 0 rfl rfl 1 (by decide) fl7 (fun _ h9 => h9) rfl dX1_look_148 ?_
                  refine lv_iload_n hx hb dX1_look_151 rfl (lv_at hl 3 rfl) ?_
                  refine lv_aload_n hx hb dX1_look_152 rfl (lv_at hl 2 rfl) ?_
                  refine va_get (D := (dC, dI)) (ci := 1) (v := .int (nI (hd (B a9)))) (C := RX1) (T := TX1) (N := 17) hx hb hts hin0 hown hK hP 0 rfl rfl 7 (by decide) fl50 (fun _ h9 => h9) rfl dX1_look_153 ?_
                  refine lv_iadd hx hb dX1_look_156 ?_
                  refine lv_iconst (v := 1) hx hb dX1_look_157 (by decide) ?_
                  refine lv_isub hx hb dX1_look_158 ?_
                  have e_432 : (((nI a9) + (nI (hd (B a9)))) - 1 : Int32) = nI (a9 + hd (B a9) - 1) := nI_am1 q4.1
                  rw [e_432]
                  refine va_iald hx hb hK hP 1 0 rfl rfl (vp_in_nI (by omega) (by decide)) dX1_look_159 ?_
                  have e_433 : (f (nI (a9 + hd (B a9) - 1)).toNatClampNeg : Int32) = nI (B (a9 + hd (B a9) - 1)) := by rw [nI_clamp (by omega)]; exact hf9 _ (by omega)
                  rw [e_433]
                  refine lv_goto (tgt := 164) hx hb dX1_look_160 (by decide) ?_
                  refine lv_istore (lv' := [(4, .int (nI (B (a9 + hd (B a9) - 1)))), (3, .int (nI (wd (B a9)))), (2, .int (nI (B a9))), (0, .ref h), (1, .int (nI a9))]) hx hb dX1_look_164 hl (by decide) rfl (fun ls hl => ?_)
                  refine lv_aload_n hx hb dX1_look_166 rfl (lv_at hl 3 rfl) ?_
                  refine lv_iload hx hb dX1_look_167 (lv_at hl 0 rfl) ?_
                  refine lv_bipush (v := 127) hx hb dX1_look_169 (by decide) ?_
                  refine lv_icmp_le (tgt := 183) hx hb dX1_look_171 (by decide) (fun c_434 => ?_) (fun c_434 => ?_)
                  · skip
                    refine lv_iload hx hb dX1_look_183 (lv_at hl 0 rfl) ?_
                    refine va_put (D := (dC, dI)) (ci := 1) (v := .int (nI (B (a9 + hd (B a9) - 1)))) (ty := .int) (C := RX1) (T := TX1) (N := 17) hx hb hts hin0 tyX1 tyX1_ok nmX1 hown hK hP hD hS 0 rfl rfl 6 (by decide) fl65 (fun _ h9 => h9) rfl (by decide +kernel) rfl rfl (Nat.le_of_ble_eq_true rfl) dX1_look_185 (fun H locs hP hD hS => ?_)
                    have hP : va_P (dC, dI) vwCl (w1 h a b cI cJ f g zt (nI n8) zc 12 (nv B a9) (nI (B (a9 + hd (B a9) - 1))) (nI (hd (B a9))) zpa zch zlk zlo zhi zlp zll zlv) H := hP
                    have hD : va_D A (w1 h a b cI cJ f g zt (nI n8) zc 12 (nv B a9) (nI (B (a9 + hd (B a9) - 1))) (nI (hd (B a9))) zpa zch zlk zlo zhi zlp zll zlv) := hD
                    refine lv_aload_n hx hb dX1_look_188 rfl (lv_at hl 3 rfl) ?_
                    refine lv_lconst (v := 0) hx hb dX1_look_189 (by decide) ?_
                    refine va_put (D := (dC, dI)) (ci := 1) (v := .long 0) (ty := .long) (C := RX1) (T := TX1) (N := 17) hx hb hts hin0 tyX1 tyX1_ok nmX1 hown hK hP hD hS 0 rfl rfl 8 (by decide) fl68 (fun _ h9 => h9) rfl (by decide +kernel) rfl rfl (Nat.le_of_ble_eq_true rfl) dX1_look_190 (fun H locs hP hD hS => ?_)
                    have hP : va_P (dC, dI) vwCl (w1 h a b cI cJ f g zt (nI n8) zc 12 (nv B a9) (nI (B (a9 + hd (B a9) - 1))) (nI (hd (B a9))) 0 zch zlk zlo zhi zlp zll zlv) H := hP
                    have hD : va_D A (w1 h a b cI cJ f g zt (nI n8) zc 12 (nv B a9) (nI (B (a9 + hd (B a9) - 1))) (nI (hd (B a9))) 0 zch zlk zlo zhi zlp zll zlv) := hD
                    refine lv_aload_n hx hb dX1_look_193 rfl (lv_at hl 3 rfl) ?_
                    refine lv_lconst (v := 0) hx hb dX1_look_194 (by decide) ?_
                    refine va_put (D := (dC, dI)) (ci := 1) (v := .long 0) (ty := .long) (C := RX1) (T := TX1) (N := 17) hx hb hts hin0 tyX1 tyX1_ok nmX1 hown hK hP hD hS 0 rfl rfl 9 (by decide) fl71 (fun _ h9 => h9) rfl (by decide +kernel) rfl rfl (Nat.le_of_ble_eq_true rfl) dX1_look_195 (fun H locs hP hD hS => ?_)
                    have hP : va_P (dC, dI) vwCl (w1 h a b cI cJ f g zt (nI n8) zc 12 (nv B a9) (nI (B (a9 + hd (B a9) - 1))) (nI (hd (B a9))) 0 0 zlk zlo zhi zlp zll zlv) H := hP
                    have hD : va_D A (w1 h a b cI cJ f g zt (nI n8) zc 12 (nv B a9) (nI (B (a9 + hd (B a9) - 1))) (nI (hd (B a9))) 0 0 zlk zlo zhi zlp zll zlv) := hD
                    refine lv_aload_n hx hb dX1_look_198 rfl (lv_at hl 3 rfl) ?_
                    refine va_get (D := (dC, dI)) (ci := 1) (v := .int 12) (C := RX1) (T := TX1) (N := 17) hx hb hts hin0 hown hK hP 0 rfl rfl 4 (by decide) fl47 (fun _ h9 => h9) rfl dX1_look_199 ?_
                    refine lv_bipush (v := 7) hx hb dX1_look_202 (by decide) ?_
                    refine lv_icmp_le (tgt := 221) hx hb dX1_look_204 (by decide) (fun c_435 => ?_) (fun c_435 => ?_)
                    · skip
                      exact absurd c_435 (by decide)
                    · skip
                      refine lv_aload_n hx hb dX1_look_207 rfl (lv_at hl 3 rfl) ?_
                      refine va_get (D := (dC, dI)) (ci := 1) (v := .long (nv B a9)) (C := RX1) (T := TX1) (N := 17) hx hb hts hin0 hown hK hP 0 rfl rfl 5 (by decide) fl61 (fun _ h9 => h9) rfl dX1_look_208 ?_
                      refine lv_ldc2 (v := 2147483647) hx hb hown (hts (.constantLong RX1 74 (2147483647)) (by decide +kernel)) dX1_look_211 ?_
                      refine W.lcmp hx hb dX1_look_214 ?_
                      refine lv_if_le (tgt := 221) hx hb dX1_look_215 (by decide) (fun c_436 => ?_) (fun c_436 => ?_)
                      · skip
                        have c_436 := (lg_cmp_le (nv B a9) (2147483647 : Int64)).mp c_436
                        have q6 : 8 ≤ kd (B a9) → nv B a9 ≤ 2147483647 := fun _ => c_436
                        refine lv_aload_n hx hb dX1_look_221 rfl (lv_at hl 3 rfl) ?_
                        refine va_get (D := (dC, dI)) (ci := 1) (v := .int 12) (C := RX1) (T := TX1) (N := 17) hx hb hts hin0 hown hK hP 0 rfl rfl 4 (by decide) fl47 (fun _ h9 => h9) rfl dX1_look_222 ?_
                        refine lv_bipush (v := 8) hx hb dX1_look_225 (by decide) ?_
                        refine lv_icmp_eq (tgt := 248) hx hb dX1_look_227 (by decide) (fun c_437 => ?_) (fun c_437 => ?_)
                        · skip
                          exact absurd c_437 (by decide)
                        · skip
                          refine lv_aload_n hx hb dX1_look_230 rfl (lv_at hl 3 rfl) ?_
                          refine va_get (D := (dC, dI)) (ci := 1) (v := .int 12) (C := RX1) (T := TX1) (N := 17) hx hb hts hin0 hown hK hP 0 rfl rfl 4 (by decide) fl47 (fun _ h9 => h9) rfl dX1_look_231 ?_
                          refine lv_bipush (v := 9) hx hb dX1_look_234 (by decide) ?_
                          refine lv_icmp_eq (tgt := 248) hx hb dX1_look_236 (by decide) (fun c_438 => ?_) (fun c_438 => ?_)
                          · skip
                            exact absurd c_438 (by decide)
                          · skip
                            refine lv_aload_n hx hb dX1_look_239 rfl (lv_at hl 3 rfl) ?_
                            refine va_get (D := (dC, dI)) (ci := 1) (v := .int 12) (C := RX1) (T := TX1) (N := 17) hx hb hts hin0 hown hK hP 0 rfl rfl 4 (by decide) fl47 (fun _ h9 => h9) rfl dX1_look_240 ?_
                            refine lv_bipush (v := 12) hx hb dX1_look_243 (by decide) ?_
                            refine lv_icmp_ne (tgt := 256) hx hb dX1_look_245 (by decide) (fun c_439 => ?_) (fun c_439 => ?_)
                            · skip
                              exact absurd (by decide) c_439
                            · skip
                              refine lv_aload_n hx hb dX1_look_248 rfl (lv_at hl 3 rfl) ?_
                              refine lv_aload_n hx hb dX1_look_249 rfl (lv_at hl 3 rfl) ?_
                              refine va_get (D := (dC, dI)) (ci := 1) (v := .long (nv B a9)) (C := RX1) (T := TX1) (N := 17) hx hb hts hin0 hown hK hP 0 rfl rfl 5 (by decide) fl61 (fun _ h9 => h9) rfl dX1_look_250 ?_
                              refine va_put (D := (dC, dI)) (ci := 1) (v := .long (nv B a9)) (ty := .long) (C := RX1) (T := TX1) (N := 17) hx hb hts hin0 tyX1 tyX1_ok nmX1 hown hK hP hD hS 0 rfl rfl 8 (by decide) fl68 (fun _ h9 => h9) rfl (by decide +kernel) rfl rfl (Nat.le_of_ble_eq_true rfl) dX1_look_253 (fun H locs hP hD hS => ?_)
                              have hP : va_P (dC, dI) vwCl (w1 h a b cI cJ f g zt (nI n8) zc 12 (nv B a9) (nI (B (a9 + hd (B a9) - 1))) (nI (hd (B a9))) (nv B a9) 0 zlk zlo zhi zlp zll zlv) H := hP
                              have hD : va_D A (w1 h a b cI cJ f g zt (nI n8) zc 12 (nv B a9) (nI (B (a9 + hd (B a9) - 1))) (nI (hd (B a9))) (nv B a9) 0 zlk zlo zhi zlp zll zlv) := hD
                              refine lv_aload_n hx hb dX1_look_256 rfl (lv_at hl 3 rfl) ?_
                              refine va_get (D := (dC, dI)) (ci := 1) (v := .int 12) (C := RX1) (T := TX1) (N := 17) hx hb hts hin0 hown hK hP 0 rfl rfl 4 (by decide) fl47 (fun _ h9 => h9) rfl dX1_look_257 ?_
                              refine lv_bipush (v := 10) hx hb dX1_look_260 (by decide) ?_
                              refine lv_icmp_ne (tgt := 273) hx hb dX1_look_262 (by decide) (fun c_440 => ?_) (fun c_440 => ?_)
                              · skip
                                refine lv_aload_n hx hb dX1_look_273 rfl (lv_at hl 3 rfl) ?_
                                refine va_get (D := (dC, dI)) (ci := 1) (v := .int 12) (C := RX1) (T := TX1) (N := 17) hx hb hts hin0 hown hK hP 0 rfl rfl 4 (by decide) fl47 (fun _ h9 => h9) rfl dX1_look_274 ?_
                                refine lv_bipush (v := 11) hx hb dX1_look_277 (by decide) ?_
                                refine lv_icmp_ne (tgt := 294) hx hb dX1_look_279 (by decide) (fun c_441 => ?_) (fun c_441 => ?_)
                                · skip
                                  have q7 : paL B a9 = nv B a9 := by simp [paL, hp, hk]
                                  refine lv_iload_n hx hb dX1_look_294 rfl (lv_at hl 4 rfl) ?_
                                  refine lv_aload_n hx hb dX1_look_295 rfl (lv_at hl 3 rfl) ?_
                                  refine va_get (D := (dC, dI)) (ci := 1) (v := .int (nI (hd (B a9)))) (C := RX1) (T := TX1) (N := 17) hx hb hts hin0 hown hK hP 0 rfl rfl 7 (by decide) fl50 (fun _ h9 => h9) rfl dX1_look_296 ?_
                                  refine lv_iadd hx hb dX1_look_299 ?_
                                  refine lv_i2l hx hb dX1_look_300 rfl ?_
                                  refine lv_aload_n hx hb dX1_look_301 rfl (lv_at hl 3 rfl) ?_
                                  refine va_get (D := (dC, dI)) (ci := 1) (v := .long (nv B a9)) (C := RX1) (T := TX1) (N := 17) hx hb hts hin0 hown hK hP 0 rfl rfl 8 (by decide) fl68 (fun _ h9 => h9) rfl dX1_look_302 ?_
                                  refine lv_ladd hx hb dX1_look_305 ?_
                                  refine lv_aload_n hx hb dX1_look_306 rfl (lv_at hl 3 rfl) ?_
                                  refine va_get (D := (dC, dI)) (ci := 1) (v := .int (nI n8)) (C := RX1) (T := TX1) (N := 17) hx hb hts hin0 hown hK hP 0 rfl rfl 2 (by decide) fl28 (fun _ h9 => h9) rfl dX1_look_307 ?_
                                  refine lv_i2l hx hb dX1_look_310 rfl ?_
                                  refine W.lcmp hx hb dX1_look_311 ?_
                                  refine lv_if_le (tgt := 320) hx hb dX1_look_312 (by decide) (fun c_442 => ?_) (fun c_442 => ?_)
                                  · skip
                                    have c_442 := (lg_cmp_le ((((nI a9) + (nI (hd (B a9)))).toInt64) + (nv B a9)) ((nI n8).toInt64)).mp c_442
                                    refine lv_iconst (v := 0) hx hb dX1_look_320 (by decide) ?_
                                    have hP9 : va_P (dC, dI) vwCl ((fun (u : Int32 × Int64 × Int32 × Int32 × Int64 × Int64) => w1 h a b cI cJ f g zt (nI n8) zc u.1 u.2.1 u.2.2.1 u.2.2.2.1 u.2.2.2.2.1 u.2.2.2.2.2 zlk zlo zhi zlp zll zlv) ((12, nv B a9, nI (B (a9 + hd (B a9) - 1)), nI (hd (B a9)), nv B a9, 0))) H := hP
                                    have hD9 : va_D A ((fun (u : Int32 × Int64 × Int32 × Int32 × Int64 × Int64) => w1 h a b cI cJ f g zt (nI n8) zc u.1 u.2.1 u.2.2.1 u.2.2.2.1 u.2.2.2.2.1 u.2.2.2.2.2 zlk zlo zhi zlp zll zlv) ((12, nv B a9, nI (B (a9 + hd (B a9) - 1)), nI (hd (B a9)), nv B a9, 0))) := hD
                                    exact W.iret (v := 0) hx hb hr (fun t ht hW => ⟨⟨0, (12, nv B a9, nI (B (a9 + hd (B a9) - 1)), nI (hd (B a9)), nv B a9, 0), rfl, (by have q8 := (lk_end hB hn8 q1 q2 q3 q6).1 (by rw [q7]; exact c_442); exact Or.inr ⟨by rw [q8]; exact nI_pos (by have := kd_le _ (hB a9); omega), rfl, by rw [hk]; rfl, rfl, fun _ => by unfold tyS; rw [if_pos c_434], rfl, q7.symm, by simp [ch, hk]⟩), by rw [ht]; exact hP9, va_K.moved hW.alike hK, hD9⟩, hS.F ht⟩) hS.2.2 dX1_look_321
                                  · skip
                                    have c_442 := (not_congr (lg_cmp_le ((((nI a9) + (nI (hd (B a9)))).toInt64) + (nv B a9)) ((nI n8).toInt64))).mp c_442
                                    refine lv_bipush (v := -2) hx hb dX1_look_315 (by decide) ?_
                                    refine lv_goto (tgt := 321) hx hb dX1_look_317 (by decide) ?_
                                    have hP9 : va_P (dC, dI) vwCl ((fun (u : Int32 × Int64 × Int32 × Int32 × Int64 × Int64) => w1 h a b cI cJ f g zt (nI n8) zc u.1 u.2.1 u.2.2.1 u.2.2.2.1 u.2.2.2.2.1 u.2.2.2.2.2 zlk zlo zhi zlp zll zlv) ((12, nv B a9, nI (B (a9 + hd (B a9) - 1)), nI (hd (B a9)), nv B a9, 0))) H := hP
                                    have hD9 : va_D A ((fun (u : Int32 × Int64 × Int32 × Int32 × Int64 × Int64) => w1 h a b cI cJ f g zt (nI n8) zc u.1 u.2.1 u.2.2.1 u.2.2.2.1 u.2.2.2.2.1 u.2.2.2.2.2 zlk zlo zhi zlp zll zlv) ((12, nv B a9, nI (B (a9 + hd (B a9) - 1)), nI (hd (B a9)), nv B a9, 0))) := hD
                                    exact W.iret (v := -2) hx hb hr (fun t ht hW => ⟨⟨-2, (12, nv B a9, nI (B (a9 + hd (B a9) - 1)), nI (hd (B a9)), nv B a9, 0), rfl, (lkneg ((lk_end hB hn8 q1 q2 q3 q6).2 (by rw [q7]; exact c_442)) (by decide)), by rw [ht]; exact hP9, va_K.moved hW.alike hK, hD9⟩, hS.F ht⟩) hS.2.2 dX1_look_321
                                · skip
                                  exact absurd c_441 (by decide)
                              · skip
                                exact absurd c_440 (by decide)
                      · skip
                        have c_436 := (not_congr (lg_cmp_le (nv B a9) (2147483647 : Int64))).mp c_436
                        refine lv_bipush (v := -4) hx hb dX1_look_218 (by decide) ?_
                        have hP9 : va_P (dC, dI) vwCl ((fun (u : Int32 × Int64 × Int32 × Int32 × Int64 × Int64) => w1 h a b cI cJ f g zt (nI n8) zc u.1 u.2.1 u.2.2.1 u.2.2.2.1 u.2.2.2.2.1 u.2.2.2.2.2 zlk zlo zhi zlp zll zlv) ((12, nv B a9, nI (B (a9 + hd (B a9) - 1)), nI (hd (B a9)), 0, 0))) H := hP
                        have hD9 : va_D A ((fun (u : Int32 × Int64 × Int32 × Int32 × Int64 × Int64) => w1 h a b cI cJ f g zt (nI n8) zc u.1 u.2.1 u.2.2.1 u.2.2.2.1 u.2.2.2.2.1 u.2.2.2.2.2 zlk zlo zhi zlp zll zlv) ((12, nv B a9, nI (B (a9 + hd (B a9) - 1)), nI (hd (B a9)), 0, 0))) := hD
                        exact W.iret (v := -4) hx hb hr (fun t ht hW => ⟨⟨-4, (12, nv B a9, nI (B (a9 + hd (B a9) - 1)), nI (hd (B a9)), 0, 0), rfl, (lkneg (lk4 hB hn8 q1 q2 q3 (by rw [hk]; decide) c_436) (by decide)), by rw [ht]; exact hP9, va_K.moved hW.alike hK, hD9⟩, hS.F ht⟩) hS.2.2 dX1_look_220
                  · skip
                    refine lv_iload hx hb dX1_look_174 (lv_at hl 0 rfl) ?_
                    refine lv_sipush (v := 256) hx hb dX1_look_176 (by decide) ?_
                    refine lv_isub hx hb dX1_look_179 ?_
                    refine lv_goto (tgt := 185) hx hb dX1_look_180 (by decide) ?_
                    refine va_put (D := (dC, dI)) (ci := 1) (v := .int ((nI (B (a9 + hd (B a9) - 1))) - 256)) (ty := .int) (C := RX1) (T := TX1) (N := 17) hx hb hts hin0 tyX1 tyX1_ok nmX1 hown hK hP hD hS 0 rfl rfl 6 (by decide) fl65 (fun _ h9 => h9) rfl (by decide +kernel) rfl rfl (Nat.le_of_ble_eq_true rfl) dX1_look_185 (fun H locs hP hD hS => ?_)
                    have hP : va_P (dC, dI) vwCl (w1 h a b cI cJ f g zt (nI n8) zc 12 (nv B a9) ((nI (B (a9 + hd (B a9) - 1))) - 256) (nI (hd (B a9))) zpa zch zlk zlo zhi zlp zll zlv) H := hP
                    have hD : va_D A (w1 h a b cI cJ f g zt (nI n8) zc 12 (nv B a9) ((nI (B (a9 + hd (B a9) - 1))) - 256) (nI (hd (B a9))) zpa zch zlk zlo zhi zlp zll zlv) := hD
                    refine lv_aload_n hx hb dX1_look_188 rfl (lv_at hl 3 rfl) ?_
                    refine lv_lconst (v := 0) hx hb dX1_look_189 (by decide) ?_
                    refine va_put (D := (dC, dI)) (ci := 1) (v := .long 0) (ty := .long) (C := RX1) (T := TX1) (N := 17) hx hb hts hin0 tyX1 tyX1_ok nmX1 hown hK hP hD hS 0 rfl rfl 8 (by decide) fl68 (fun _ h9 => h9) rfl (by decide +kernel) rfl rfl (Nat.le_of_ble_eq_true rfl) dX1_look_190 (fun H locs hP hD hS => ?_)
                    have hP : va_P (dC, dI) vwCl (w1 h a b cI cJ f g zt (nI n8) zc 12 (nv B a9) ((nI (B (a9 + hd (B a9) - 1))) - 256) (nI (hd (B a9))) 0 zch zlk zlo zhi zlp zll zlv) H := hP
                    have hD : va_D A (w1 h a b cI cJ f g zt (nI n8) zc 12 (nv B a9) ((nI (B (a9 + hd (B a9) - 1))) - 256) (nI (hd (B a9))) 0 zch zlk zlo zhi zlp zll zlv) := hD
                    refine lv_aload_n hx hb dX1_look_193 rfl (lv_at hl 3 rfl) ?_
                    refine lv_lconst (v := 0) hx hb dX1_look_194 (by decide) ?_
                    refine va_put (D := (dC, dI)) (ci := 1) (v := .long 0) (ty := .long) (C := RX1) (T := TX1) (N := 17) hx hb hts hin0 tyX1 tyX1_ok nmX1 hown hK hP hD hS 0 rfl rfl 9 (by decide) fl71 (fun _ h9 => h9) rfl (by decide +kernel) rfl rfl (Nat.le_of_ble_eq_true rfl) dX1_look_195 (fun H locs hP hD hS => ?_)
                    have hP : va_P (dC, dI) vwCl (w1 h a b cI cJ f g zt (nI n8) zc 12 (nv B a9) ((nI (B (a9 + hd (B a9) - 1))) - 256) (nI (hd (B a9))) 0 0 zlk zlo zhi zlp zll zlv) H := hP
                    have hD : va_D A (w1 h a b cI cJ f g zt (nI n8) zc 12 (nv B a9) ((nI (B (a9 + hd (B a9) - 1))) - 256) (nI (hd (B a9))) 0 0 zlk zlo zhi zlp zll zlv) := hD
                    refine lv_aload_n hx hb dX1_look_198 rfl (lv_at hl 3 rfl) ?_
                    refine va_get (D := (dC, dI)) (ci := 1) (v := .int 12) (C := RX1) (T := TX1) (N := 17) hx hb hts hin0 hown hK hP 0 rfl rfl 4 (by decide) fl47 (fun _ h9 => h9) rfl dX1_look_199 ?_
                    refine lv_bipush (v := 7) hx hb dX1_look_202 (by decide) ?_
                    refine lv_icmp_le (tgt := 221) hx hb dX1_look_204 (by decide) (fun c_443 => ?_) (fun c_443 => ?_)
                    · skip
                      exact absurd c_443 (by decide)
                    · skip
                      refine lv_aload_n hx hb dX1_look_207 rfl (lv_at hl 3 rfl) ?_
                      refine va_get (D := (dC, dI)) (ci := 1) (v := .long (nv B a9)) (C := RX1) (T := TX1) (N := 17) hx hb hts hin0 hown hK hP 0 rfl rfl 5 (by decide) fl61 (fun _ h9 => h9) rfl dX1_look_208 ?_
                      refine lv_ldc2 (v := 2147483647) hx hb hown (hts (.constantLong RX1 74 (2147483647)) (by decide +kernel)) dX1_look_211 ?_
                      refine W.lcmp hx hb dX1_look_214 ?_
                      refine lv_if_le (tgt := 221) hx hb dX1_look_215 (by decide) (fun c_444 => ?_) (fun c_444 => ?_)
                      · skip
                        have c_444 := (lg_cmp_le (nv B a9) (2147483647 : Int64)).mp c_444
                        have q6 : 8 ≤ kd (B a9) → nv B a9 ≤ 2147483647 := fun _ => c_444
                        refine lv_aload_n hx hb dX1_look_221 rfl (lv_at hl 3 rfl) ?_
                        refine va_get (D := (dC, dI)) (ci := 1) (v := .int 12) (C := RX1) (T := TX1) (N := 17) hx hb hts hin0 hown hK hP 0 rfl rfl 4 (by decide) fl47 (fun _ h9 => h9) rfl dX1_look_222 ?_
                        refine lv_bipush (v := 8) hx hb dX1_look_225 (by decide) ?_
                        refine lv_icmp_eq (tgt := 248) hx hb dX1_look_227 (by decide) (fun c_445 => ?_) (fun c_445 => ?_)
                        · skip
                          exact absurd c_445 (by decide)
                        · skip
                          refine lv_aload_n hx hb dX1_look_230 rfl (lv_at hl 3 rfl) ?_
                          refine va_get (D := (dC, dI)) (ci := 1) (v := .int 12) (C := RX1) (T := TX1) (N := 17) hx hb hts hin0 hown hK hP 0 rfl rfl 4 (by decide) fl47 (fun _ h9 => h9) rfl dX1_look_231 ?_
                          refine lv_bipush (v := 9) hx hb dX1_look_234 (by decide) ?_
                          refine lv_icmp_eq (tgt := 248) hx hb dX1_look_236 (by decide) (fun c_446 => ?_) (fun c_446 => ?_)
                          · skip
                            exact absurd c_446 (by decide)
                          · skip
                            refine lv_aload_n hx hb dX1_look_239 rfl (lv_at hl 3 rfl) ?_
                            refine va_get (D := (dC, dI)) (ci := 1) (v := .int 12) (C := RX1) (T := TX1) (N := 17) hx hb hts hin0 hown hK hP 0 rfl rfl 4 (by decide) fl47 (fun _ h9 => h9) rfl dX1_look_240 ?_
                            refine lv_bipush (v := 12) hx hb dX1_look_243 (by decide) ?_
                            refine lv_icmp_ne (tgt := 256) hx hb dX1_look_245 (by decide) (fun c_447 => ?_) (fun c_447 => ?_)
                            · skip
                              exact absurd (by decide) c_447
                            · skip
                              refine lv_aload_n hx hb dX1_look_248 rfl (lv_at hl 3 rfl) ?_
                              refine lv_aload_n hx hb dX1_look_249 rfl (lv_at hl 3 rfl) ?_
                              refine va_get (D := (dC, dI)) (ci := 1) (v := .long (nv B a9)) (C := RX1) (T := TX1) (N := 17) hx hb hts hin0 hown hK hP 0 rfl rfl 5 (by decide) fl61 (fun _ h9 => h9) rfl dX1_look_250 ?_
                              refine va_put (D := (dC, dI)) (ci := 1) (v := .long (nv B a9)) (ty := .long) (C := RX1) (T := TX1) (N := 17) hx hb hts hin0 tyX1 tyX1_ok nmX1 hown hK hP hD hS 0 rfl rfl 8 (by decide) fl68 (fun _ h9 => h9) rfl (by decide +kernel) rfl rfl (Nat.le_of_ble_eq_true rfl) dX1_look_253 (fun H locs hP hD hS => ?_)
                              have hP : va_P (dC, dI) vwCl (w1 h a b cI cJ f g zt (nI n8) zc 12 (nv B a9) ((nI (B (a9 + hd (B a9) - 1))) - 256) (nI (hd (B a9))) (nv B a9) 0 zlk zlo zhi zlp zll zlv) H := hP
                              have hD : va_D A (w1 h a b cI cJ f g zt (nI n8) zc 12 (nv B a9) ((nI (B (a9 + hd (B a9) - 1))) - 256) (nI (hd (B a9))) (nv B a9) 0 zlk zlo zhi zlp zll zlv) := hD
                              refine lv_aload_n hx hb dX1_look_256 rfl (lv_at hl 3 rfl) ?_
                              refine va_get (D := (dC, dI)) (ci := 1) (v := .int 12) (C := RX1) (T := TX1) (N := 17) hx hb hts hin0 hown hK hP 0 rfl rfl 4 (by decide) fl47 (fun _ h9 => h9) rfl dX1_look_257 ?_
                              refine lv_bipush (v := 10) hx hb dX1_look_260 (by decide) ?_
                              refine lv_icmp_ne (tgt := 273) hx hb dX1_look_262 (by decide) (fun c_448 => ?_) (fun c_448 => ?_)
                              · skip
                                refine lv_aload_n hx hb dX1_look_273 rfl (lv_at hl 3 rfl) ?_
                                refine va_get (D := (dC, dI)) (ci := 1) (v := .int 12) (C := RX1) (T := TX1) (N := 17) hx hb hts hin0 hown hK hP 0 rfl rfl 4 (by decide) fl47 (fun _ h9 => h9) rfl dX1_look_274 ?_
                                refine lv_bipush (v := 11) hx hb dX1_look_277 (by decide) ?_
                                refine lv_icmp_ne (tgt := 294) hx hb dX1_look_279 (by decide) (fun c_449 => ?_) (fun c_449 => ?_)
                                · skip
                                  have q7 : paL B a9 = nv B a9 := by simp [paL, hp, hk]
                                  refine lv_iload_n hx hb dX1_look_294 rfl (lv_at hl 4 rfl) ?_
                                  refine lv_aload_n hx hb dX1_look_295 rfl (lv_at hl 3 rfl) ?_
                                  refine va_get (D := (dC, dI)) (ci := 1) (v := .int (nI (hd (B a9)))) (C := RX1) (T := TX1) (N := 17) hx hb hts hin0 hown hK hP 0 rfl rfl 7 (by decide) fl50 (fun _ h9 => h9) rfl dX1_look_296 ?_
                                  refine lv_iadd hx hb dX1_look_299 ?_
                                  refine lv_i2l hx hb dX1_look_300 rfl ?_
                                  refine lv_aload_n hx hb dX1_look_301 rfl (lv_at hl 3 rfl) ?_
                                  refine va_get (D := (dC, dI)) (ci := 1) (v := .long (nv B a9)) (C := RX1) (T := TX1) (N := 17) hx hb hts hin0 hown hK hP 0 rfl rfl 8 (by decide) fl68 (fun _ h9 => h9) rfl dX1_look_302 ?_
                                  refine lv_ladd hx hb dX1_look_305 ?_
                                  refine lv_aload_n hx hb dX1_look_306 rfl (lv_at hl 3 rfl) ?_
                                  refine va_get (D := (dC, dI)) (ci := 1) (v := .int (nI n8)) (C := RX1) (T := TX1) (N := 17) hx hb hts hin0 hown hK hP 0 rfl rfl 2 (by decide) fl28 (fun _ h9 => h9) rfl dX1_look_307 ?_
                                  refine lv_i2l hx hb dX1_look_310 rfl ?_
                                  refine W.lcmp hx hb dX1_look_311 ?_
                                  refine lv_if_le (tgt := 320) hx hb dX1_look_312 (by decide) (fun c_450 => ?_) (fun c_450 => ?_)
                                  · skip
                                    have c_450 := (lg_cmp_le ((((nI a9) + (nI (hd (B a9)))).toInt64) + (nv B a9)) ((nI n8).toInt64)).mp c_450
                                    refine lv_iconst (v := 0) hx hb dX1_look_320 (by decide) ?_
                                    have hP9 : va_P (dC, dI) vwCl ((fun (u : Int32 × Int64 × Int32 × Int32 × Int64 × Int64) => w1 h a b cI cJ f g zt (nI n8) zc u.1 u.2.1 u.2.2.1 u.2.2.2.1 u.2.2.2.2.1 u.2.2.2.2.2 zlk zlo zhi zlp zll zlv) ((12, nv B a9, (nI (B (a9 + hd (B a9) - 1))) - 256, nI (hd (B a9)), nv B a9, 0))) H := hP
                                    have hD9 : va_D A ((fun (u : Int32 × Int64 × Int32 × Int32 × Int64 × Int64) => w1 h a b cI cJ f g zt (nI n8) zc u.1 u.2.1 u.2.2.1 u.2.2.2.1 u.2.2.2.2.1 u.2.2.2.2.2 zlk zlo zhi zlp zll zlv) ((12, nv B a9, (nI (B (a9 + hd (B a9) - 1))) - 256, nI (hd (B a9)), nv B a9, 0))) := hD
                                    exact W.iret (v := 0) hx hb hr (fun t ht hW => ⟨⟨0, (12, nv B a9, (nI (B (a9 + hd (B a9) - 1))) - 256, nI (hd (B a9)), nv B a9, 0), rfl, (by have q8 := (lk_end hB hn8 q1 q2 q3 q6).1 (by rw [q7]; exact c_450); exact Or.inr ⟨by rw [q8]; exact nI_pos (by have := kd_le _ (hB a9); omega), rfl, by rw [hk]; rfl, rfl, fun _ => by unfold tyS; rw [if_neg c_434], rfl, q7.symm, by simp [ch, hk]⟩), by rw [ht]; exact hP9, va_K.moved hW.alike hK, hD9⟩, hS.F ht⟩) hS.2.2 dX1_look_321
                                  · skip
                                    have c_450 := (not_congr (lg_cmp_le ((((nI a9) + (nI (hd (B a9)))).toInt64) + (nv B a9)) ((nI n8).toInt64))).mp c_450
                                    refine lv_bipush (v := -2) hx hb dX1_look_315 (by decide) ?_
                                    refine lv_goto (tgt := 321) hx hb dX1_look_317 (by decide) ?_
                                    have hP9 : va_P (dC, dI) vwCl ((fun (u : Int32 × Int64 × Int32 × Int32 × Int64 × Int64) => w1 h a b cI cJ f g zt (nI n8) zc u.1 u.2.1 u.2.2.1 u.2.2.2.1 u.2.2.2.2.1 u.2.2.2.2.2 zlk zlo zhi zlp zll zlv) ((12, nv B a9, (nI (B (a9 + hd (B a9) - 1))) - 256, nI (hd (B a9)), nv B a9, 0))) H := hP
                                    have hD9 : va_D A ((fun (u : Int32 × Int64 × Int32 × Int32 × Int64 × Int64) => w1 h a b cI cJ f g zt (nI n8) zc u.1 u.2.1 u.2.2.1 u.2.2.2.1 u.2.2.2.2.1 u.2.2.2.2.2 zlk zlo zhi zlp zll zlv) ((12, nv B a9, (nI (B (a9 + hd (B a9) - 1))) - 256, nI (hd (B a9)), nv B a9, 0))) := hD
                                    exact W.iret (v := -2) hx hb hr (fun t ht hW => ⟨⟨-2, (12, nv B a9, (nI (B (a9 + hd (B a9) - 1))) - 256, nI (hd (B a9)), nv B a9, 0), rfl, (lkneg ((lk_end hB hn8 q1 q2 q3 q6).2 (by rw [q7]; exact c_450)) (by decide)), by rw [ht]; exact hP9, va_K.moved hW.alike hK, hD9⟩, hS.F ht⟩) hS.2.2 dX1_look_321
                                · skip
                                  exact absurd c_449 (by decide)
                              · skip
                                exact absurd c_448 (by decide)
                      · skip
                        have c_444 := (not_congr (lg_cmp_le (nv B a9) (2147483647 : Int64))).mp c_444
                        refine lv_bipush (v := -4) hx hb dX1_look_218 (by decide) ?_
                        have hP9 : va_P (dC, dI) vwCl ((fun (u : Int32 × Int64 × Int32 × Int32 × Int64 × Int64) => w1 h a b cI cJ f g zt (nI n8) zc u.1 u.2.1 u.2.2.1 u.2.2.2.1 u.2.2.2.2.1 u.2.2.2.2.2 zlk zlo zhi zlp zll zlv) ((12, nv B a9, (nI (B (a9 + hd (B a9) - 1))) - 256, nI (hd (B a9)), 0, 0))) H := hP
                        have hD9 : va_D A ((fun (u : Int32 × Int64 × Int32 × Int32 × Int64 × Int64) => w1 h a b cI cJ f g zt (nI n8) zc u.1 u.2.1 u.2.2.1 u.2.2.2.1 u.2.2.2.2.1 u.2.2.2.2.2 zlk zlo zhi zlp zll zlv) ((12, nv B a9, (nI (B (a9 + hd (B a9) - 1))) - 256, nI (hd (B a9)), 0, 0))) := hD
                        exact W.iret (v := -4) hx hb hr (fun t ht hW => ⟨⟨-4, (12, nv B a9, (nI (B (a9 + hd (B a9) - 1))) - 256, nI (hd (B a9)), 0, 0), rfl, (lkneg (lk4 hB hn8 q1 q2 q3 (by rw [hk]; decide) c_444) (by decide)), by rw [ht]; exact hP9, va_K.moved hW.alike hK, hD9⟩, hS.F ht⟩) hS.2.2 dX1_look_220
              · skip
                exact absurd c_430 (by decide)
          · skip
            refine lv_bipush (v := -2) hx hb dX1_look_76 (by decide) ?_
            have hP9 : va_P (dC, dI) vwCl ((fun (u : Int32 × Int64 × Int32 × Int32 × Int64 × Int64) => w1 h a b cI cJ f g zt (nI n8) zc u.1 u.2.1 u.2.2.1 u.2.2.2.1 u.2.2.2.2.1 u.2.2.2.2.2 zlk zlo zhi zlp zll zlv) ((12, znu, zty, nI (hd (B a9)), zpa, zch))) H := hP
            have hD9 : va_D A ((fun (u : Int32 × Int64 × Int32 × Int32 × Int64 × Int64) => w1 h a b cI cJ f g zt (nI n8) zc u.1 u.2.1 u.2.2.1 u.2.2.2.1 u.2.2.2.2.1 u.2.2.2.2.2 zlk zlo zhi zlp zll zlv) ((12, znu, zty, nI (hd (B a9)), zpa, zch))) := hD
            exact W.iret (v := -2) hx hb hr (fun t ht hW => ⟨⟨-2, (12, znu, zty, nI (hd (B a9)), zpa, zch), rfl, (lkneg (lk3 hB hn8 q1 q2 (by have q4 := hd_le _ (hB a9); have z := (not_congr (nI_leI (a := a9 + hd (B a9)) (b := n8) (by omega) (by omega))).mp c_401; omega)) (by decide)), by rw [ht]; exact hP9, va_K.moved hW.alike hK, hD9⟩, hS.F ht⟩) hS.2.2 dX1_look_78
    · skip
      refine lv_bipush (v := -3) hx hb dX1_look_25 (by decide) ?_
      have hP9 : va_P (dC, dI) vwCl ((fun (u : Int32 × Int64 × Int32 × Int32 × Int64 × Int64) => w1 h a b cI cJ f g zt (nI n8) zc u.1 u.2.1 u.2.2.1 u.2.2.2.1 u.2.2.2.2.1 u.2.2.2.2.2 zlk zlo zhi zlp zll zlv) ((zso, znu, zty, zhd, zpa, zch))) s.heap := hP
      have hD9 : va_D A ((fun (u : Int32 × Int64 × Int32 × Int32 × Int64 × Int64) => w1 h a b cI cJ f g zt (nI n8) zc u.1 u.2.1 u.2.2.1 u.2.2.2.1 u.2.2.2.2.1 u.2.2.2.2.2 zlk zlo zhi zlp zll zlv) ((zso, znu, zty, zhd, zpa, zch))) := hD
      exact W.iret (v := -3) hx hb hr (fun t ht hW => ⟨⟨-3, (zso, znu, zty, zhd, zpa, zch), rfl, (lkneg (lk2 hn8 q1 ((nI_eq (b := 193) (by omega) (by decide)).mp c_3)) (by decide)), by rw [ht]; exact hP9, va_K.moved hW.alike hK, hD9⟩, hS.F ht⟩) hS.2.2 dX1_look_27
  · skip
    refine lv_bipush (v := -2) hx hb dX1_look_8 (by decide) ?_
    have hP9 : va_P (dC, dI) vwCl ((fun (u : Int32 × Int64 × Int32 × Int32 × Int64 × Int64) => w1 h a b cI cJ f g zt (nI n8) zc u.1 u.2.1 u.2.2.1 u.2.2.2.1 u.2.2.2.2.1 u.2.2.2.2.2 zlk zlo zhi zlp zll zlv) ((zso, znu, zty, zhd, zpa, zch))) s.heap := hP
    have hD9 : va_D A ((fun (u : Int32 × Int64 × Int32 × Int32 × Int64 × Int64) => w1 h a b cI cJ f g zt (nI n8) zc u.1 u.2.1 u.2.2.1 u.2.2.2.1 u.2.2.2.2.1 u.2.2.2.2.2 zlk zlo zhi zlp zll zlv) ((zso, znu, zty, zhd, zpa, zch))) := hD
    exact W.iret (v := -2) hx hb hr (fun t ht hW => ⟨⟨-2, (zso, znu, zty, zhd, zpa, zch), rfl, (lkneg (lk1 hn8 h9 (by have z := (not_congr (nI_ltI (a := a9) (b := n8) (by omega) (by omega))).mp c_1; omega)) (by decide)), by rw [ht]; exact hP9, va_K.moved hW.alike hK, hD9⟩, hS.F ht⟩) hS.2.2 dX1_look_10
