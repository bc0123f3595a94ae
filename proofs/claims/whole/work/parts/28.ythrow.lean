set_option maxHeartbeats 4000000 in
set_option maxRecDepth 100000 in
theorem c_X1_feed (l : Launch) (dC : Nat → ClassId) (dI : Nat → Nat → Nat) (tk tw : Nat) (h a b : Nat) (cI cJ : ClassId) (sz : Nat) (f : Nat → Int32) (g : Nat → Int64) (zt : Int32) (zc : Int32) (zso : Int32) (znu : Int64) (zty : Int32) (zhd : Int32) (zpa : Int64) (zch : Int64) (zlk : Int32) (zlo : Int32) (zhi : Int32) (zlp : Int32) (zll : Int32) (zlv : Int32) (n8 : Nat) (hn8 : n8 < 4096) (v9 : Nat) (hv9 : v9 < 256) : Met l yX1_feed wsX1_feed ({ frames := 1, cells := 0, slots := 0, locals := 22 }) (va_Pc [.ref h, .int (nI v9)] (pr dC dI (t1 cI cJ) (w1 h a b cI cJ f g zt (nI n8) zc zso znu zty zhd zpa zch zlk zlo zhi zlp zll zlv) sz tk tw)) (va_Qi (fun (r : Int32) (_ : Unit) => r = nI (n8 + 1)) (fun (_ : Unit) => po dC dI (t1 cI cJ) (va_A (w1 h a b cI cJ f g zt (nI n8) zc zso znu zty zhd zpa zch zlk zlo zhi zlp zll zlv) sz) (w1 h a b cI cJ (upd f n8 (nI v9)) g 0 (nI (n8 + 1)) zc zso znu zty zhd zpa zch zlk zlo zhi zlp zll zlv)) (va_A (w1 h a b cI cJ f g zt (nI n8) zc zso znu zty zhd zpa zch zlk zlo zhi zlp zll zlv) sz)) 0 0 (va_A (w1 h a b cI cJ f g zt (nI n8) zc zso znu zty zhd zpa zch zlk zlo zhi zlp zll zlv) sz) := by
  refine Met.ofW (cc := cX1_feed) (maxL := 2) (ret := (some .int)) (by decide) rfl ?_
  intro p e s m args below meth c s₁ Bd hml hv
  obtain ⟨rfl, hsz, hP, hK, hD0, hZ⟩ := hv
  have hx := Bd.exec
  have hb := Bd.bytes
  have hr := Bd.returns
  have hts := atoms_spec (ws := wsX1_feed) Bd.pre
  have hown : s.vm.findClass RX1 = some m.cls := findClass_of_methodNamed Bd.named
  have hlocks := Bd.notSynchronized
  subst hsz
  have hD := hD0.self (sz := s.heap.size)
  generalize hAe : va_A (w1 h a b cI cJ f g zt (nI n8) zc zso znu zty zhd zpa zch zlk zlo zhi zlp zll zlv) s.heap.size = A at hD hZ ⊢
  have hA : ∀ q : Nat, s.heap.size ≤ q → A q := fun q h => by rw [← hAe]; exact Or.inr h
  have hS : va_S A s.heap s.heap [] := va_S.rf
  have hP : va_P (dC, dI) vwCl (w1 h a b cI cJ f g zt (nI n8) zc zso znu zty zhd zpa zch zlk zlo zhi zlp zll zlv) s.heap := hP
  have hin0 : ∀ w ∈ wsX10, w ∈ wsX1_feed := by decide +kernel
  have fl7 := hts (.fieldLink RX1 7 "MessageReaderModel" "bytes" "[I") (by decide +kernel)
  have fl21 := hts (.fieldLink RX1 21 "MessageReaderModel" "thrown" "I") (by decide +kernel)
  have fl28 := hts (.fieldLink RX1 28 "MessageReaderModel" "size" "I") (by decide +kernel)
  have hl := lv_entry ([.ref h, .int (nI v9)]) (n := 2) (Nat.le_of_ble_eq_true rfl)
  rw [lg_entry_eq]
  generalize (lg_sl ([.ref h, .int (nI v9)]) ++ List.replicate (2 - (lg_sl ([.ref h, .int (nI v9)])).length) Slot.unset).toArray = ls at hl ⊢
  have hl : lv_has ls 2 [(0, .ref h), (1, .int (nI v9))] := hl
  refine lv_aload_n hx hb dX1_feed_0 rfl (lv_at hl 0 rfl) ?_
  refine lv_iconst (v := 0) hx hb dX1_feed_1 (by decide) ?_
  refine va_put (D := (dC, dI)) (ci := 1) (v := .int 0) (ty := .int) (C := RX1) (T := TX1) (N := 17) hx hb hts hin0 tyX1 tyX1_ok nmX1 hown hK hP hD hS 0 rfl rfl 0 (by decide) fl21 (fun _ h9 => h9) rfl (by decide +kernel) rfl rfl (Nat.le_of_ble_eq_true rfl) dX1_feed_2 (fun H locs hP hD hS => ?_)
  have hP : va_P (dC, dI) vwCl (w1 h a b cI cJ f g 0 (nI n8) zc zso znu zty zhd zpa zch zlk zlo zhi zlp zll zlv) H := hP
  have hD : va_D A (w1 h a b cI cJ f g 0 (nI n8) zc zso znu zty zhd zpa zch zlk zlo zhi zlp zll zlv) := hD
  refine lv_aload_n hx hb dX1_feed_5 rfl (lv_at hl 0 rfl) ?_
  refine lv_iload_n hx hb dX1_feed_6 rfl (lv_at hl 1 rfl) ?_
  refine lv_if_lt (tgt := 17) hx hb dX1_feed_7 (by decide) (fun c_1 => ?_) (fun c_1 => ?_)
  · skip
    exact absurd c_1 (nI_pos (by omega))
  · skip
    refine lv_iload_n hx hb dX1_feed_10 rfl (lv_at hl 1 rfl) ?_
    refine lv_sipush (v := 255) hx hb dX1_feed_11 (by decide) ?_
    refine lv_icmp_le (tgt := 21) hx hb dX1_feed_14 (by decide) (fun c_2 => ?_) (fun c_2 => ?_)
    · skip
      refine lv_iconst (v := 0) hx hb dX1_feed_21 (by decide) ?_
      refine lv_iconst (v := 1) hx hb dX1_feed_22 (by decide) ?_
      refine gvi (As := [.int 0, .int 1]) (rest := []) ⟨hx, hb, hml, hown, hts⟩ (c_X1_fails l dC dI tk tw h a b cI cJ _ f g 0 (nI n8) zc zso znu zty zhd zpa zch zlk zlo zhi zlp zll zlv 0 1) (cwV 2 hts gX1_feed_X1_fails rfl rfl rfl (by decide +kernel) ⟨Nat.le_of_ble_eq_true rfl, Nat.le_of_ble_eq_true rfl⟩) hK hP hD hS hA hZ (q0 := 0) (ci := 1) rfl rfl rfl rfl hl.1 rfl (Nat.le_of_ble_eq_true rfl) dX1_feed_23 ⟨Nat.le_of_ble_eq_true rfl, Nat.le_of_ble_eq_true rfl⟩ (fun r_4 u_5 H locs hw_3 hP hD hS => ?_)
      obtain rfl : u_5 = 0 := hw_3.1.trans (by decide)
      have hP : va_P (dC, dI) vwCl (w1 h a b cI cJ f g 0 (nI n8) zc zso znu zty zhd zpa zch zlk zlo zhi zlp zll zlv) H := hP
      have hD : va_D A (w1 h a b cI cJ f g 0 (nI n8) zc zso znu zty zhd zpa zch zlk zlo zhi zlp zll zlv) := hD
      obtain rfl : r_4 = 0 := hw_3.2.trans (by decide)
      refine lv_pop hx hb dX1_feed_26 rfl ?_
      refine lv_aload_n hx hb dX1_feed_27 rfl (lv_at hl 0 rfl) ?_
      refine lv_aload_n hx hb dX1_feed_28 rfl (lv_at hl 0 rfl) ?_
      refine va_get (D := (dC, dI)) (ci := 1) (v := .int (nI n8)) (C := RX1) (T := TX1) (N := 17) hx hb hts hin0 hown hK hP 0 rfl rfl 2 (by decide) fl28 (fun _ h9 => h9) rfl dX1_feed_29 ?_
      refine lv_sipush (v := 4096) hx hb dX1_feed_32 (by decide) ?_
      refine lv_icmp_ne (tgt := 42) hx hb dX1_feed_35 (by decide) (fun c_6 => ?_) (fun c_6 => ?_)
      · skip
        refine lv_iconst (v := 0) hx hb dX1_feed_42 (by decide) ?_
        refine lv_iconst (v := 2) hx hb dX1_feed_43 (by decide) ?_
        refine gvi (As := [.int 0, .int 2]) (rest := []) ⟨hx, hb, hml, hown, hts⟩ (c_X1_fails l dC dI tk tw h a b cI cJ _ f g 0 (nI n8) zc zso znu zty zhd zpa zch zlk zlo zhi zlp zll zlv 0 2) (cwV 2 hts gX1_feed_X1_fails rfl rfl rfl (by decide +kernel) ⟨Nat.le_of_ble_eq_true rfl, Nat.le_of_ble_eq_true rfl⟩) hK hP hD hS hA hZ (q0 := 0) (ci := 1) rfl rfl rfl rfl hl.1 rfl (Nat.le_of_ble_eq_true rfl) dX1_feed_44 ⟨Nat.le_of_ble_eq_true rfl, Nat.le_of_ble_eq_true rfl⟩ (fun r_8 u_9 H locs hw_7 hP hD hS => ?_)
        obtain rfl : u_9 = 0 := hw_7.1.trans (by decide)
        have hP : va_P (dC, dI) vwCl (w1 h a b cI cJ f g 0 (nI n8) zc zso znu zty zhd zpa zch zlk zlo zhi zlp zll zlv) H := hP
        have hD : va_D A (w1 h a b cI cJ f g 0 (nI n8) zc zso znu zty zhd zpa zch zlk zlo zhi zlp zll zlv) := hD
        obtain rfl : r_8 = 0 := hw_7.2.trans (by decide)
        refine lv_if_eq (tgt := 52) hx hb dX1_feed_47 (by decide) (fun c_10 => ?_) (fun c_10 => ?_)
        · skip
          refine lv_aload_n hx hb dX1_feed_52 rfl (lv_at hl 0 rfl) ?_
          refine va_get (D := (dC, dI)) (ci := 1) (v := .ref a) (C := RX1) (T := TX1) (N := 17) hx hb hts hin0 hown hK hP 0 rfl rfl 1 (by decide) fl7 (fun _ h9 => h9) rfl dX1_feed_53 ?_
          refine lv_aload_n hx hb dX1_feed_56 rfl (lv_at hl 0 rfl) ?_
          refine va_get (D := (dC, dI)) (ci := 1) (v := .int (nI n8)) (C := RX1) (T := TX1) (N := 17) hx hb hts hin0 hown hK hP 0 rfl rfl 2 (by decide) fl28 (fun _ h9 => h9) rfl dX1_feed_57 ?_
          refine lv_iload_n hx hb dX1_feed_60 rfl (lv_at hl 1 rfl) ?_
          refine va_iast hx hb hK hP hD hS 1 0 rfl rfl (vp_in_nI (by omega) (by decide)) dX1_feed_61 (fun H locs hP hD hS => ?_)
          have hP : va_P (dC, dI) vwCl (w1 h a b cI cJ (upd f (nI n8).toNatClampNeg (nI v9)) g 0 (nI n8) zc zso znu zty zhd zpa zch zlk zlo zhi zlp zll zlv) H := hP
          have hD : va_D A (w1 h a b cI cJ (upd f (nI n8).toNatClampNeg (nI v9)) g 0 (nI n8) zc zso znu zty zhd zpa zch zlk zlo zhi zlp zll zlv) := hD
          have e_11 : (upd f (nI n8).toNatClampNeg (nI v9) : Nat → Int32) = upd f n8 (nI v9) := by rw [nI_clamp (by omega)]
          rw [e_11] at hP hD
          have hP : va_P (dC, dI) vwCl (w1 h a b cI cJ (upd f n8 (nI v9)) g 0 (nI n8) zc zso znu zty zhd zpa zch zlk zlo zhi zlp zll zlv) H := hP
          have hD : va_D A (w1 h a b cI cJ (upd f n8 (nI v9)) g 0 (nI n8) zc zso znu zty zhd zpa zch zlk zlo zhi zlp zll zlv) := hD
          refine lv_aload_n hx hb dX1_feed_62 rfl (lv_at hl 0 rfl) ?_
          refine lv_dup hx hb dX1_feed_63 rfl ?_
          refine va_get (D := (dC, dI)) (ci := 1) (v := .int (nI n8)) (C := RX1) (T := TX1) (N := 17) hx hb hts hin0 hown hK hP 0 rfl rfl 2 (by decide) fl28 (fun _ h9 => h9) rfl dX1_feed_64 ?_
          refine lv_iconst (v := 1) hx hb dX1_feed_67 (by decide) ?_
          refine lv_iadd hx hb dX1_feed_68 ?_
          have e_12 : ((nI n8) + 1 : Int32) = nI (n8 + 1) := nI_1 n8
          rw [e_12]
          refine va_put (D := (dC, dI)) (ci := 1) (v := .int (nI (n8 + 1))) (ty := .int) (C := RX1) (T := TX1) (N := 17) hx hb hts hin0 tyX1 tyX1_ok nmX1 hown hK hP hD hS 0 rfl rfl 2 (by decide) fl28 (fun _ h9 => h9) rfl (by decide +kernel) rfl rfl (Nat.le_of_ble_eq_true rfl) dX1_feed_69 (fun H locs hP hD hS => ?_)
          have hP : va_P (dC, dI) vwCl (w1 h a b cI cJ (upd f n8 (nI v9)) g 0 (nI (n8 + 1)) zc zso znu zty zhd zpa zch zlk zlo zhi zlp zll zlv) H := hP
          have hD : va_D A (w1 h a b cI cJ (upd f n8 (nI v9)) g 0 (nI (n8 + 1)) zc zso znu zty zhd zpa zch zlk zlo zhi zlp zll zlv) := hD
          refine lv_aload_n hx hb dX1_feed_72 rfl (lv_at hl 0 rfl) ?_
          refine va_get (D := (dC, dI)) (ci := 1) (v := .int (nI (n8 + 1))) (C := RX1) (T := TX1) (N := 17) hx hb hts hin0 hown hK hP 0 rfl rfl 2 (by decide) fl28 (fun _ h9 => h9) rfl dX1_feed_73 ?_
          have hP9 : va_P (dC, dI) vwCl ((fun (_ : Unit) => w1 h a b cI cJ (upd f n8 (nI v9)) g 0 (nI (n8 + 1)) zc zso znu zty zhd zpa zch zlk zlo zhi zlp zll zlv) (())) H := hP
          have hD9 : va_D A ((fun (_ : Unit) => w1 h a b cI cJ (upd f n8 (nI v9)) g 0 (nI (n8 + 1)) zc zso znu zty zhd zpa zch zlk zlo zhi zlp zll zlv) (())) := hD
          exact W.iret (v := nI (n8 + 1)) hx hb hr (fun t ht hW => ⟨⟨nI (n8 + 1), (), rfl, rfl, by rw [ht]; exact hP9, va_K.moved hW.alike hK, hD9⟩, hS.F ht⟩) hS.2.2 dX1_feed_76
        · skip
          exact absurd (by decide) c_10
      · skip
        exact absurd ((nI_eq (b := 4096) (by omega) (by decide)).mp c_6) (by omega)
    · skip
      exact absurd (nI_le (b := 255) (by omega) (by decide)) c_2
set_option maxHeartbeats 4000000 in
set_option maxRecDepth 100000 in
theorem c_X1_feed_f (l : Launch) (dC : Nat → ClassId) (dI : Nat → Nat → Nat) (tk tw : Nat) (h a b : Nat) (cI cJ : ClassId) (sz : Nat) (f : Nat → Int32) (g : Nat → Int64) (zt : Int32) (zc : Int32) (zso : Int32) (znu : Int64) (zty : Int32) (zhd : Int32) (zpa : Int64) (zch : Int64) (zlk : Int32) (zlo : Int32) (zhi : Int32) (zlp : Int32) (zll : Int32) (zlv : Int32) (v9 : Nat) (hv9 : v9 < 256) : Met l yX1_feed wsX1_feed ({ frames := 1, cells := 0, slots := 0, locals := 22 }) (va_Pc [.ref h, .int (nI v9)] (pr dC dI (t1 cI cJ) (w1 h a b cI cJ f g zt (nI 4096) zc zso znu zty zhd zpa zch zlk zlo zhi zlp zll zlv) sz tk tw)) (va_Qi (fun (r : Int32) (_ : Unit) => True) (fun (_ : Unit) => po dC dI (t1 cI cJ) (va_A (w1 h a b cI cJ f g zt (nI 4096) zc zso znu zty zhd zpa zch zlk zlo zhi zlp zll zlv) sz) (w1 h a b cI cJ f g 2 (nI 4096) zc zso znu zty zhd zpa zch zlk zlo zhi zlp zll zlv)) (va_A (w1 h a b cI cJ f g zt (nI 4096) zc zso znu zty zhd zpa zch zlk zlo zhi zlp zll zlv) sz)) 0 0 (va_A (w1 h a b cI cJ f g zt (nI 4096) zc zso znu zty zhd zpa zch zlk zlo zhi zlp zll zlv) sz) := by
  refine Met.ofW (cc := cX1_feed) (maxL := 2) (ret := (some .int)) (by decide) rfl ?_
  intro p e s m args below meth c s₁ Bd hml hv
  obtain ⟨rfl, hsz, hP, hK, hD0, hZ⟩ := hv
  have hx := Bd.exec
  have hb := Bd.bytes
  have hr := Bd.returns
  have hts := atoms_spec (ws := wsX1_feed) Bd.pre
  have hown : s.vm.findClass RX1 = some m.cls := findClass_of_methodNamed Bd.named
  have hlocks := Bd.notSynchronized
  subst hsz
  have hD := hD0.self (sz := s.heap.size)
  generalize hAe : va_A (w1 h a b cI cJ f g zt (nI 4096) zc zso znu zty zhd zpa zch zlk zlo zhi zlp zll zlv) s.heap.size = A at hD hZ ⊢
  have hA : ∀ q : Nat, s.heap.size ≤ q → A q := fun q h => by rw [← hAe]; exact Or.inr h
  have hS : va_S A s.heap s.heap [] := va_S.rf
  have hP : va_P (dC, dI) vwCl (w1 h a b cI cJ f g zt (nI 4096) zc zso znu zty zhd zpa zch zlk zlo zhi zlp zll zlv) s.heap := hP
  have hin0 : ∀ w ∈ wsX10, w ∈ wsX1_feed := by decide +kernel
  have fl21 := hts (.fieldLink RX1 21 "MessageReaderModel" "thrown" "I") (by decide +kernel)
  have fl28 := hts (.fieldLink RX1 28 "MessageReaderModel" "size" "I") (by decide +kernel)
  have hl := lv_entry ([.ref h, .int (nI v9)]) (n := 2) (Nat.le_of_ble_eq_true rfl)
  rw [lg_entry_eq]
  generalize (lg_sl ([.ref h, .int (nI v9)]) ++ List.replicate (2 - (lg_sl ([.ref h, .int (nI v9)])).length) Slot.unset).toArray = ls at hl ⊢
  have hl : lv_has ls 2 [(0, .ref h), (1, .int (nI v9))] := hl
  refine lv_aload_n hx hb dX1_feed_0 rfl (lv_at hl 0 rfl) ?_
  refine lv_iconst (v := 0) hx hb dX1_feed_1 (by decide) ?_
  refine va_put (D := (dC, dI)) (ci := 1) (v := .int 0) (ty := .int) (C := RX1) (T := TX1) (N := 17) hx hb hts hin0 tyX1 tyX1_ok nmX1 hown hK hP hD hS 0 rfl rfl 0 (by decide) fl21 (fun _ h9 => h9) rfl (by decide +kernel) rfl rfl (Nat.le_of_ble_eq_true rfl) dX1_feed_2 (fun H locs hP hD hS => ?_)
  have hP : va_P (dC, dI) vwCl (w1 h a b cI cJ f g 0 (nI 4096) zc zso znu zty zhd zpa zch zlk zlo zhi zlp zll zlv) H := hP
  have hD : va_D A (w1 h a b cI cJ f g 0 (nI 4096) zc zso znu zty zhd zpa zch zlk zlo zhi zlp zll zlv) := hD
  refine lv_aload_n hx hb dX1_feed_5 rfl (lv_at hl 0 rfl) ?_
  refine lv_iload_n hx hb dX1_feed_6 rfl (lv_at hl 1 rfl) ?_
  refine lv_if_lt (tgt := 17) hx hb dX1_feed_7 (by decide) (fun c_1 => ?_) (fun c_1 => ?_)
  · skip
    exact absurd c_1 (nI_pos (by omega))
  · skip
    refine lv_iload_n hx hb dX1_feed_10 rfl (lv_at hl 1 rfl) ?_
    refine lv_sipush (v := 255) hx hb dX1_feed_11 (by decide) ?_
    refine lv_icmp_le (tgt := 21) hx hb dX1_feed_14 (by decide) (fun c_2 => ?_) (fun c_2 => ?_)
    · skip
      refine lv_iconst (v := 0) hx hb dX1_feed_21 (by decide) ?_
      refine lv_iconst (v := 1) hx hb dX1_feed_22 (by decide) ?_
      refine gvi (As := [.int 0, .int 1]) (rest := []) ⟨hx, hb, hml, hown, hts⟩ (c_X1_fails l dC dI tk tw h a b cI cJ _ f g 0 (nI 4096) zc zso znu zty zhd zpa zch zlk zlo zhi zlp zll zlv 0 1) (cwV 2 hts gX1_feed_X1_fails rfl rfl rfl (by decide +kernel) ⟨Nat.le_of_ble_eq_true rfl, Nat.le_of_ble_eq_true rfl⟩) hK hP hD hS hA hZ (q0 := 0) (ci := 1) rfl rfl rfl rfl hl.1 rfl (Nat.le_of_ble_eq_true rfl) dX1_feed_23 ⟨Nat.le_of_ble_eq_true rfl, Nat.le_of_ble_eq_true rfl⟩ (fun r_4 u_5 H locs hw_3 hP hD hS => ?_)
      obtain rfl : u_5 = 0 := hw_3.1.trans (by decide)
      have hP : va_P (dC, dI) vwCl (w1 h a b cI cJ f g 0 (nI 4096) zc zso znu zty zhd zpa zch zlk zlo zhi zlp zll zlv) H := hP
      have hD : va_D A (w1 h a b cI cJ f g 0 (nI 4096) zc zso znu zty zhd zpa zch zlk zlo zhi zlp zll zlv) := hD
      obtain rfl : r_4 = 0 := hw_3.2.trans (by decide)
      refine lv_pop hx hb dX1_feed_26 rfl ?_
      refine lv_aload_n hx hb dX1_feed_27 rfl (lv_at hl 0 rfl) ?_
      refine lv_aload_n hx hb dX1_feed_28 rfl (lv_at hl 0 rfl) ?_
      refine va_get (D := (dC, dI)) (ci := 1) (v := .int (nI 4096)) (C := RX1) (T := TX1) (N := 17) hx hb hts hin0 hown hK hP 0 rfl rfl 2 (by decide) fl28 (fun _ h9 => h9) rfl dX1_feed_29 ?_
      refine lv_sipush (v := 4096) hx hb dX1_feed_32 (by decide) ?_
      refine lv_icmp_ne (tgt := 42) hx hb dX1_feed_35 (by decide) (fun c_6 => ?_) (fun c_6 => ?_)
      · skip
        exact absurd (by decide) c_6
      · skip
        refine lv_iconst (v := 1) hx hb dX1_feed_38 (by decide) ?_
        refine lv_goto (tgt := 43) hx hb dX1_feed_39 (by decide) ?_
        refine lv_iconst (v := 2) hx hb dX1_feed_43 (by decide) ?_
        refine gvi (As := [.int 1, .int 2]) (rest := []) ⟨hx, hb, hml, hown, hts⟩ (c_X1_fails l dC dI tk tw h a b cI cJ _ f g 0 (nI 4096) zc zso znu zty zhd zpa zch zlk zlo zhi zlp zll zlv 1 2) (cwV 2 hts gX1_feed_X1_fails rfl rfl rfl (by decide +kernel) ⟨Nat.le_of_ble_eq_true rfl, Nat.le_of_ble_eq_true rfl⟩) hK hP hD hS hA hZ (q0 := 0) (ci := 1) rfl rfl rfl rfl hl.1 rfl (Nat.le_of_ble_eq_true rfl) dX1_feed_44 ⟨Nat.le_of_ble_eq_true rfl, Nat.le_of_ble_eq_true rfl⟩ (fun r_8 u_9 H locs hw_7 hP hD hS => ?_)
        obtain rfl : u_9 = 2 := hw_7.1.trans (by decide)
        have hP : va_P (dC, dI) vwCl (w1 h a b cI cJ f g 2 (nI 4096) zc zso znu zty zhd zpa zch zlk zlo zhi zlp zll zlv) H := hP
        have hD : va_D A (w1 h a b cI cJ f g 2 (nI 4096) zc zso znu zty zhd zpa zch zlk zlo zhi zlp zll zlv) := hD
        obtain rfl : r_8 = 1 := hw_7.2.trans (by decide)
        refine lv_if_eq (tgt := 52) hx hb dX1_feed_47 (by decide) (fun c_10 => ?_) (fun c_10 => ?_)
        · skip
          exact absurd c_10 (by decide)
        · skip
          refine lv_iconst (v := 0) hx hb dX1_feed_50 (by decide) ?_
          have hP9 : va_P (dC, dI) vwCl ((fun (_ : Unit) => w1 h a b cI cJ f g 2 (nI 4096) zc zso znu zty zhd zpa zch zlk zlo zhi zlp zll zlv) (())) H := hP
          have hD9 : va_D A ((fun (_ : Unit) => w1 h a b cI cJ f g 2 (nI 4096) zc zso znu zty zhd zpa zch zlk zlo zhi zlp zll zlv) (())) := hD
          exact W.iret (v := 0) hx hb hr (fun t ht hW => ⟨⟨0, (), rfl, trivial, by rw [ht]; exact hP9, va_K.moved hW.alike hK, hD9⟩, hS.F ht⟩) hS.2.2 dX1_feed_51
    · skip
      exact absurd (nI_le (b := 255) (by omega) (by decide)) c_2
set_option maxHeartbeats 4000000 in
set_option maxRecDepth 100000 in
theorem c_X1_feed_b (l : Launch) (dC : Nat → ClassId) (dI : Nat → Nat → Nat) (tk tw : Nat) (h a b : Nat) (cI cJ : ClassId) (sz : Nat) (f : Nat → Int32) (g : Nat → Int64) (zt : Int32) (zs : Int32) (zc : Int32) (zso : Int32) (znu : Int64) (zty : Int32) (zhd : Int32) (zpa : Int64) (zch : Int64) (zlk : Int32) (zlo : Int32) (zhi : Int32) (zlp : Int32) (zll : Int32) (zlv : Int32) (b9 : Int32) (hb9 : b9 < 0 ∨ 255 < b9) : Met l yX1_feed wsX1_feed ({ frames := 1, cells := 0, slots := 0, locals := 22 }) (va_Pc [.ref h, .int b9] (pr dC dI (t1 cI cJ) (w1 h a b cI cJ f g zt zs zc zso znu zty zhd zpa zch zlk zlo zhi zlp zll zlv) sz tk tw)) (va_Qi (fun (r : Int32) (_ : Unit) => True) (fun (_ : Unit) => po dC dI (t1 cI cJ) (va_A (w1 h a b cI cJ f g zt zs zc zso znu zty zhd zpa zch zlk zlo zhi zlp zll zlv) sz) (w1 h a b cI cJ f g 1 zs zc zso znu zty zhd zpa zch zlk zlo zhi zlp zll zlv)) (va_A (w1 h a b cI cJ f g zt zs zc zso znu zty zhd zpa zch zlk zlo zhi zlp zll zlv) sz)) 0 0 (va_A (w1 h a b cI cJ f g zt zs zc zso znu zty zhd zpa zch zlk zlo zhi zlp zll zlv) sz) := by
  refine Met.ofW (cc := cX1_feed) (maxL := 2) (ret := (some .int)) (by decide) rfl ?_
  intro p e s m args below meth c s₁ Bd hml hv
  obtain ⟨rfl, hsz, hP, hK, hD0, hZ⟩ := hv
  have hx := Bd.exec
  have hb := Bd.bytes
  have hr := Bd.returns
  have hts := atoms_spec (ws := wsX1_feed) Bd.pre
  have hown : s.vm.findClass RX1 = some m.cls := findClass_of_methodNamed Bd.named
  have hlocks := Bd.notSynchronized
  subst hsz
  have hD := hD0.self (sz := s.heap.size)
  generalize hAe : va_A (w1 h a b cI cJ f g zt zs zc zso znu zty zhd zpa zch zlk zlo zhi zlp zll zlv) s.heap.size = A at hD hZ ⊢
  have hA : ∀ q : Nat, s.heap.size ≤ q → A q := fun q h => by rw [← hAe]; exact Or.inr h
  have hS : va_S A s.heap s.heap [] := va_S.rf
  have hP : va_P (dC, dI) vwCl (w1 h a b cI cJ f g zt zs zc zso znu zty zhd zpa zch zlk zlo zhi zlp zll zlv) s.heap := hP
  have hin0 : ∀ w ∈ wsX10, w ∈ wsX1_feed := by decide +kernel
  have fl21 := hts (.fieldLink RX1 21 "MessageReaderModel" "thrown" "I") (by decide +kernel)
  have fl28 := hts (.fieldLink RX1 28 "MessageReaderModel" "size" "I") (by decide +kernel)
  have hl := lv_entry ([.ref h, .int b9]) (n := 2) (Nat.le_of_ble_eq_true rfl)
  rw [lg_entry_eq]
  generalize (lg_sl ([.ref h, .int b9]) ++ List.replicate (2 - (lg_sl ([.ref h, .int b9])).length) Slot.unset).toArray = ls at hl ⊢
  have hl : lv_has ls 2 [(0, .ref h), (1, .int b9)] := hl
  refine lv_aload_n hx hb dX1_feed_0 rfl (lv_at hl 0 rfl) ?_
  refine lv_iconst (v := 0) hx hb dX1_feed_1 (by decide) ?_
  refine va_put (D := (dC, dI)) (ci := 1) (v := .int 0) (ty := .int) (C := RX1) (T := TX1) (N := 17) hx hb hts hin0 tyX1 tyX1_ok nmX1 hown hK hP hD hS 0 rfl rfl 0 (by decide) fl21 (fun _ h9 => h9) rfl (by decide +kernel) rfl rfl (Nat.le_of_ble_eq_true rfl) dX1_feed_2 (fun H locs hP hD hS => ?_)
  have hP : va_P (dC, dI) vwCl (w1 h a b cI cJ f g 0 zs zc zso znu zty zhd zpa zch zlk zlo zhi zlp zll zlv) H := hP
  have hD : va_D A (w1 h a b cI cJ f g 0 zs zc zso znu zty zhd zpa zch zlk zlo zhi zlp zll zlv) := hD
  refine lv_aload_n hx hb dX1_feed_5 rfl (lv_at hl 0 rfl) ?_
  refine lv_iload_n hx hb dX1_feed_6 rfl (lv_at hl 1 rfl) ?_
  refine lv_if_lt (tgt := 17) hx hb dX1_feed_7 (by decide) (fun c_1 => ?_) (fun c_1 => ?_)
  · skip
    refine lv_iconst (v := 1) hx hb dX1_feed_17 (by decide) ?_
    refine lv_goto (tgt := 22) hx hb dX1_feed_18 (by decide) ?_
    refine lv_iconst (v := 1) hx hb dX1_feed_22 (by decide) ?_
    refine gvi (As := [.int 1, .int 1]) (rest := []) ⟨hx, hb, hml, hown, hts⟩ (c_X1_fails l dC dI tk tw h a b cI cJ _ f g 0 zs zc zso znu zty zhd zpa zch zlk zlo zhi zlp zll zlv 1 1) (cwV 2 hts gX1_feed_X1_fails rfl rfl rfl (by decide +kernel) ⟨Nat.le_of_ble_eq_true rfl, Nat.le_of_ble_eq_true rfl⟩) hK hP hD hS hA hZ (q0 := 0) (ci := 1) rfl rfl rfl rfl hl.1 rfl (Nat.le_of_ble_eq_true rfl) dX1_feed_23 ⟨Nat.le_of_ble_eq_true rfl, Nat.le_of_ble_eq_true rfl⟩ (fun r_3 u_4 H locs hw_2 hP hD hS => ?_)
    obtain rfl : u_4 = 1 := hw_2.1.trans (by decide)
    have hP : va_P (dC, dI) vwCl (w1 h a b cI cJ f g 1 zs zc zso znu zty zhd zpa zch zlk zlo zhi zlp zll zlv) H := hP
    have hD : va_D A (w1 h a b cI cJ f g 1 zs zc zso znu zty zhd zpa zch zlk zlo zhi zlp zll zlv) := hD
    obtain rfl : r_3 = 1 := hw_2.2.trans (by decide)
    refine lv_pop hx hb dX1_feed_26 rfl ?_
    refine lv_aload_n hx hb dX1_feed_27 rfl (lv_at hl 0 rfl) ?_
    refine lv_aload_n hx hb dX1_feed_28 rfl (lv_at hl 0 rfl) ?_
    refine va_get (D := (dC, dI)) (ci := 1) (v := .int zs) (C := RX1) (T := TX1) (N := 17) hx hb hts hin0 hown hK hP 0 rfl rfl 2 (by decide) fl28 (fun _ h9 => h9) rfl dX1_feed_29 ?_
    refine lv_sipush (v := 4096) hx hb dX1_feed_32 (by decide) ?_
    refine lv_icmp_ne (tgt := 42) hx hb dX1_feed_35 (by decide) (fun c_5 => ?_) (fun c_5 => ?_)
    · skip
      refine lv_iconst (v := 0) hx hb dX1_feed_42 (by decide) ?_
      refine lv_iconst (v := 2) hx hb dX1_feed_43 (by decide) ?_
      refine gvi (As := [.int 0, .int 2]) (rest := []) ⟨hx, hb, hml, hown, hts⟩ (c_X1_fails l dC dI tk tw h a b cI cJ _ f g 1 zs zc zso znu zty zhd zpa zch zlk zlo zhi zlp zll zlv 0 2) (cwV 2 hts gX1_feed_X1_fails rfl rfl rfl (by decide +kernel) ⟨Nat.le_of_ble_eq_true rfl, Nat.le_of_ble_eq_true rfl⟩) hK hP hD hS hA hZ (q0 := 0) (ci := 1) rfl rfl rfl rfl hl.1 rfl (Nat.le_of_ble_eq_true rfl) dX1_feed_44 ⟨Nat.le_of_ble_eq_true rfl, Nat.le_of_ble_eq_true rfl⟩ (fun r_7 u_8 H locs hw_6 hP hD hS => ?_)
      obtain rfl : u_8 = 1 := hw_6.1.trans (by decide)
      have hP : va_P (dC, dI) vwCl (w1 h a b cI cJ f g 1 zs zc zso znu zty zhd zpa zch zlk zlo zhi zlp zll zlv) H := hP
      have hD : va_D A (w1 h a b cI cJ f g 1 zs zc zso znu zty zhd zpa zch zlk zlo zhi zlp zll zlv) := hD
      obtain rfl : r_7 = 1 := hw_6.2.trans (by decide)
      refine lv_if_eq (tgt := 52) hx hb dX1_feed_47 (by decide) (fun c_9 => ?_) (fun c_9 => ?_)
      · skip
        exact absurd c_9 (by decide)
      · skip
        refine lv_iconst (v := 0) hx hb dX1_feed_50 (by decide) ?_
        have hP9 : va_P (dC, dI) vwCl ((fun (_ : Unit) => w1 h a b cI cJ f g 1 zs zc zso znu zty zhd zpa zch zlk zlo zhi zlp zll zlv) (())) H := hP
        have hD9 : va_D A ((fun (_ : Unit) => w1 h a b cI cJ f g 1 zs zc zso znu zty zhd zpa zch zlk zlo zhi zlp zll zlv) (())) := hD
        exact W.iret (v := 0) hx hb hr (fun t ht hW => ⟨⟨0, (), rfl, trivial, by rw [ht]; exact hP9, va_K.moved hW.alike hK, hD9⟩, hS.F ht⟩) hS.2.2 dX1_feed_51
    · skip
      refine lv_iconst (v := 1) hx hb dX1_feed_38 (by decide) ?_
      refine lv_goto (tgt := 43) hx hb dX1_feed_39 (by decide) ?_
      refine lv_iconst (v := 2) hx hb dX1_feed_43 (by decide) ?_
      refine gvi (As := [.int 1, .int 2]) (rest := []) ⟨hx, hb, hml, hown, hts⟩ (c_X1_fails l dC dI tk tw h a b cI cJ _ f g 1 zs zc zso znu zty zhd zpa zch zlk zlo zhi zlp zll zlv 1 2) (cwV 2 hts gX1_feed_X1_fails rfl rfl rfl (by decide +kernel) ⟨Nat.le_of_ble_eq_true rfl, Nat.le_of_ble_eq_true rfl⟩) hK hP hD hS hA hZ (q0 := 0) (ci := 1) rfl rfl rfl rfl hl.1 rfl (Nat.le_of_ble_eq_true rfl) dX1_feed_44 ⟨Nat.le_of_ble_eq_true rfl, Nat.le_of_ble_eq_true rfl⟩ (fun r_11 u_12 H locs hw_10 hP hD hS => ?_)
      obtain rfl : u_12 = 1 := hw_10.1.trans (by decide)
      have hP : va_P (dC, dI) vwCl (w1 h a b cI cJ f g 1 zs zc zso znu zty zhd zpa zch zlk zlo zhi zlp zll zlv) H := hP
      have hD : va_D A (w1 h a b cI cJ f g 1 zs zc zso znu zty zhd zpa zch zlk zlo zhi zlp zll zlv) := hD
      obtain rfl : r_11 = 1 := hw_10.2.trans (by decide)
      refine lv_if_eq (tgt := 52) hx hb dX1_feed_47 (by decide) (fun c_13 => ?_) (fun c_13 => ?_)
      · skip
        exact absurd c_13 (by decide)
      · skip
        refine lv_iconst (v := 0) hx hb dX1_feed_50 (by decide) ?_
        have hP9 : va_P (dC, dI) vwCl ((fun (_ : Unit) => w1 h a b cI cJ f g 1 zs zc zso znu zty zhd zpa zch zlk zlo zhi zlp zll zlv) (())) H := hP
        have hD9 : va_D A ((fun (_ : Unit) => w1 h a b cI cJ f g 1 zs zc zso znu zty zhd zpa zch zlk zlo zhi zlp zll zlv) (())) := hD
        exact W.iret (v := 0) hx hb hr (fun t ht hW => ⟨⟨0, (), rfl, trivial, by rw [ht]; exact hP9, va_K.moved hW.alike hK, hD9⟩, hS.F ht⟩) hS.2.2 dX1_feed_51
  · skip
    refine lv_iload_n hx hb dX1_feed_10 rfl (lv_at hl 1 rfl) ?_
    refine lv_sipush (v := 255) hx hb dX1_feed_11 (by decide) ?_
    refine lv_icmp_le (tgt := 21) hx hb dX1_feed_14 (by decide) (fun c_14 => ?_) (fun c_14 => ?_)
    · skip
      exact absurd hb9 (fun z => z.elim c_1 (fun y => Int32.not_lt.mpr c_14 y))
    · skip
      refine lv_iconst (v := 1) hx hb dX1_feed_17 (by decide) ?_
      refine lv_goto (tgt := 22) hx hb dX1_feed_18 (by decide) ?_
      refine lv_iconst (v := 1) hx hb dX1_feed_22 (by decide) ?_
      refine gvi (As := [.int 1, .int 1]) (rest := []) ⟨hx, hb, hml, hown, hts⟩ (c_X1_fails l dC dI tk tw h a b cI cJ _ f g 0 zs zc zso znu zty zhd zpa zch zlk zlo zhi zlp zll zlv 1 1) (cwV 2 hts gX1_feed_X1_fails rfl rfl rfl (by decide +kernel) ⟨Nat.le_of_ble_eq_true rfl, Nat.le_of_ble_eq_true rfl⟩) hK hP hD hS hA hZ (q0 := 0) (ci := 1) rfl rfl rfl rfl hl.1 rfl (Nat.le_of_ble_eq_true rfl) dX1_feed_23 ⟨Nat.le_of_ble_eq_true rfl, Nat.le_of_ble_eq_true rfl⟩ (fun r_16 u_17 H locs hw_15 hP hD hS => ?_)
      obtain rfl : u_17 = 1 := hw_15.1.trans (by decide)
      have hP : va_P (dC, dI) vwCl (w1 h a b cI cJ f g 1 zs zc zso znu zty zhd zpa zch zlk zlo zhi zlp zll zlv) H := hP
      have hD : va_D A (w1 h a b cI cJ f g 1 zs zc zso znu zty zhd zpa zch zlk zlo zhi zlp zll zlv) := hD
      obtain rfl : r_16 = 1 := hw_15.2.trans (by decide)
      refine lv_pop hx hb dX1_feed_26 rfl ?_
      refine lv_aload_n hx hb dX1_feed_27 rfl (lv_at hl 0 rfl) ?_
      refine lv_aload_n hx hb dX1_feed_28 rfl (lv_at hl 0 rfl) ?_
      refine va_get (D := (dC, dI)) (ci := 1) (v := .int zs) (C := RX1) (T := TX1) (N := 17) hx hb hts hin0 hown hK hP 0 rfl rfl 2 (by decide) fl28 (fun _ h9 => h9) rfl dX1_feed_29 ?_
      refine lv_sipush (v := 4096) hx hb dX1_feed_32 (by decide) ?_
      refine lv_icmp_ne (tgt := 42) hx hb dX1_feed_35 (by decide) (fun c_18 => ?_) (fun c_18 => ?_)
      · skip
        refine lv_iconst (v := 0) hx hb dX1_feed_42 (by decide) ?_
        refine lv_iconst (v := 2) hx hb dX1_feed_43 (by decide) ?_
        refine gvi (As := [.int 0, .int 2]) (rest := []) ⟨hx, hb, hml, hown, hts⟩ (c_X1_fails l dC dI tk tw h a b cI cJ _ f g 1 zs zc zso znu zty zhd zpa zch zlk zlo zhi zlp zll zlv 0 2) (cwV 2 hts gX1_feed_X1_fails rfl rfl rfl (by decide +kernel) ⟨Nat.le_of_ble_eq_true rfl, Nat.le_of_ble_eq_true rfl⟩) hK hP hD hS hA hZ (q0 := 0) (ci := 1) rfl rfl rfl rfl hl.1 rfl (Nat.le_of_ble_eq_true rfl) dX1_feed_44 ⟨Nat.le_of_ble_eq_true rfl, Nat.le_of_ble_eq_true rfl⟩ (fun r_20 u_21 H locs hw_19 hP hD hS => ?_)
        obtain rfl : u_21 = 1 := hw_19.1.trans (by decide)
        have hP : va_P (dC, dI) vwCl (w1 h a b cI cJ f g 1 zs zc zso znu zty zhd zpa zch zlk zlo zhi zlp zll zlv) H := hP
        have hD : va_D A (w1 h a b cI cJ f g 1 zs zc zso znu zty zhd zpa zch zlk zlo zhi zlp zll zlv) := hD
        obtain rfl : r_20 = 1 := hw_19.2.trans (by decide)
        refine lv_if_eq (tgt := 52) hx hb dX1_feed_47 (by decide) (fun c_22 => ?_) (fun c_22 => ?_)
        · skip
          exact absurd c_22 (by decide)
        · skip
          refine lv_iconst (v := 0) hx hb dX1_feed_50 (by decide) ?_
          have hP9 : va_P (dC, dI) vwCl ((fun (_ : Unit) => w1 h a b cI cJ f g 1 zs zc zso znu zty zhd zpa zch zlk zlo zhi zlp zll zlv) (())) H := hP
          have hD9 : va_D A ((fun (_ : Unit) => w1 h a b cI cJ f g 1 zs zc zso znu zty zhd zpa zch zlk zlo zhi zlp zll zlv) (())) := hD
          exact W.iret (v := 0) hx hb hr (fun t ht hW => ⟨⟨0, (), rfl, trivial, by rw [ht]; exact hP9, va_K.moved hW.alike hK, hD9⟩, hS.F ht⟩) hS.2.2 dX1_feed_51
      · skip
        refine lv_iconst (v := 1) hx hb dX1_feed_38 (by decide) ?_
        refine lv_goto (tgt := 43) hx hb dX1_feed_39 (by decide) ?_
        refine lv_iconst (v := 2) hx hb dX1_feed_43 (by decide) ?_
        refine gvi (As := [.int 1, .int 2]) (rest := []) ⟨hx, hb, hml, hown, hts⟩ (c_X1_fails l dC dI tk tw h a b cI cJ _ f g 1 zs zc zso znu zty zhd zpa zch zlk zlo zhi zlp zll zlv 1 2) (cwV 2 hts gX1_feed_X1_fails rfl rfl rfl (by decide +kernel) ⟨Nat.le_of_ble_eq_true rfl, Nat.le_of_ble_eq_true rfl⟩) hK hP hD hS hA hZ (q0 := 0) (ci := 1) rfl rfl rfl rfl hl.1 rfl (Nat.le_of_ble_eq_true rfl) dX1_feed_44 ⟨Nat.le_of_ble_eq_true rfl, Nat.le_of_ble_eq_true rfl⟩ (fun r_24 u_25 H locs hw_23 hP hD hS => ?_)
        obtain rfl : u_25 = 1 := hw_23.1.trans (by decide)
        have hP : va_P (dC, dI) vwCl (w1 h a b cI cJ f g 1 zs zc zso znu zty zhd zpa zch zlk zlo zhi zlp zll zlv) H := hP
        have hD : va_D A (w1 h a b cI cJ f g 1 zs zc zso znu zty zhd zpa zch zlk zlo zhi zlp zll zlv) := hD
        obtain rfl : r_24 = 1 := hw_23.2.trans (by decide)
        refine lv_if_eq (tgt := 52) hx hb dX1_feed_47 (by decide) (fun c_26 => ?_) (fun c_26 => ?_)
        · skip
          exact absurd c_26 (by decide)
        · skip
          refine lv_iconst (v := 0) hx hb dX1_feed_50 (by decide) ?_
          have hP9 : va_P (dC, dI) vwCl ((fun (_ : Unit) => w1 h a b cI cJ f g 1 zs zc zso znu zty zhd zpa zch zlk zlo zhi zlp zll zlv) (())) H := hP
          have hD9 : va_D A ((fun (_ : Unit) => w1 h a b cI cJ f g 1 zs zc zso znu zty zhd zpa zch zlk zlo zhi zlp zll zlv) (())) := hD
          exact W.iret (v := 0) hx hb hr (fun t ht hW => ⟨⟨0, (), rfl, trivial, by rw [ht]; exact hP9, va_K.moved hW.alike hK, hD9⟩, hS.F ht⟩) hS.2.2 dX1_feed_51
set_option maxHeartbeats 4000000 in
set_option maxRecDepth 100000 in
theorem c_X1_put (l : Launch) (dC : Nat → ClassId) (dI : Nat → Nat → Nat) (tk tw : Nat) (h a b : Nat) (cI cJ : ClassId) (sz : Nat) (f : Nat → Int32) (g : Nat → Int64) (zt : Int32) (zc : Int32) (zso : Int32) (znu : Int64) (zty : Int32) (zhd : Int32) (zpa : Int64) (zch : Int64) (zlk : Int32) (zlo : Int32) (zhi : Int32) (zlp : Int32) (zll : Int32) (zlv : Int32) (n8 : Nat) (hn8 : n8 ≤ 4096) (k9 : Nat) (hk9 : 1 ≤ k9 ∧ k9 ≤ 8) (x9 : Int64) (hr9 : n8 + k9 ≤ 4096) : Met l yX1_put wsX1_put ({ frames := 1, cells := 0, slots := 0, locals := 24 }) (va_Pc [.ref h, .long x9, .int (nI k9)] (pr dC dI (t1 cI cJ) (w1 h a b cI cJ f g zt (nI n8) zc zso znu zty zhd zpa zch zlk zlo zhi zlp zll zlv) sz tk tw)) (va_Qi (fun (r : Int32) (_ : Unit) => r = nI (n8 + k9)) (fun (_ : Unit) => po dC dI (t1 cI cJ) (va_A (w1 h a b cI cJ f g zt (nI n8) zc zso znu zty zhd zpa zch zlk zlo zhi zlp zll zlv) sz) (w1 h a b cI cJ (apM f n8 x9 k9) g 0 (nI (n8 + k9)) zc zso znu zty zhd zpa zch zlk zlo zhi zlp zll zlv)) (va_A (w1 h a b cI cJ f g zt (nI n8) zc zso znu zty zhd zpa zch zlk zlo zhi zlp zll zlv) sz)) 0 0 (va_A (w1 h a b cI cJ f g zt (nI n8) zc zso znu zty zhd zpa zch zlk zlo zhi zlp zll zlv) sz) := by
  refine Met.ofW (cc := cX1_put) (maxL := 4) (ret := (some .int)) (by decide) rfl ?_
  intro p e s m args below meth c s₁ Bd hml hv
  obtain ⟨rfl, hsz, hP, hK, hD0, hZ⟩ := hv
  have hx := Bd.exec
  have hb := Bd.bytes
  have hr := Bd.returns
  have hts := atoms_spec (ws := wsX1_put) Bd.pre
  have hown : s.vm.findClass RX1 = some m.cls := findClass_of_methodNamed Bd.named
  have hlocks := Bd.notSynchronized
  subst hsz
  have hD := hD0.self (sz := s.heap.size)
  generalize hAe : va_A (w1 h a b cI cJ f g zt (nI n8) zc zso znu zty zhd zpa zch zlk zlo zhi zlp zll zlv) s.heap.size = A at hD hZ ⊢
  have hA : ∀ q : Nat, s.heap.size ≤ q → A q := fun q h => by rw [← hAe]; exact Or.inr h
  have hS : va_S A s.heap s.heap [] := va_S.rf
  have hP : va_P (dC, dI) vwCl (w1 h a b cI cJ f g zt (nI n8) zc zso znu zty zhd zpa zch zlk zlo zhi zlp zll zlv) s.heap := hP
  have hin0 : ∀ w ∈ wsX10, w ∈ wsX1_put := by decide +kernel
  have fl21 := hts (.fieldLink RX1 21 "MessageReaderModel" "thrown" "I") (by decide +kernel)
  have fl28 := hts (.fieldLink RX1 28 "MessageReaderModel" "size" "I") (by decide +kernel)
  have hl := lv_entry ([.ref h, .long x9, .int (nI k9)]) (n := 4) (Nat.le_of_ble_eq_true rfl)
  rw [lg_entry_eq]
  generalize (lg_sl ([.ref h, .long x9, .int (nI k9)]) ++ List.replicate (4 - (lg_sl ([.ref h, .long x9, .int (nI k9)])).length) Slot.unset).toArray = ls at hl ⊢
  have hl : lv_has ls 4 [(0, .ref h), (1, .long x9), (3, .int (nI k9))] := hl
  refine lv_aload_n hx hb dX1_put_0 rfl (lv_at hl 0 rfl) ?_
  refine lv_iconst (v := 0) hx hb dX1_put_1 (by decide) ?_
  refine va_put (D := (dC, dI)) (ci := 1) (v := .int 0) (ty := .int) (C := RX1) (T := TX1) (N := 17) hx hb hts hin0 tyX1 tyX1_ok nmX1 hown hK hP hD hS 0 rfl rfl 0 (by decide) fl21 (fun _ h9 => h9) rfl (by decide +kernel) rfl rfl (Nat.le_of_ble_eq_true rfl) dX1_put_2 (fun H locs hP hD hS => ?_)
  have hP : va_P (dC, dI) vwCl (w1 h a b cI cJ f g 0 (nI n8) zc zso znu zty zhd zpa zch zlk zlo zhi zlp zll zlv) H := hP
  have hD : va_D A (w1 h a b cI cJ f g 0 (nI n8) zc zso znu zty zhd zpa zch zlk zlo zhi zlp zll zlv) := hD
  refine lv_aload_n hx hb dX1_put_5 rfl (lv_at hl 0 rfl) ?_
  refine lv_iload_n hx hb dX1_put_6 rfl (lv_at hl 2 rfl) ?_
  refine lv_iconst (v := 1) hx hb dX1_put_7 (by decide) ?_
  refine lv_icmp_lt (tgt := 17) hx hb dX1_put_8 (by decide) (fun c_1 => ?_) (fun c_1 => ?_)
  · skip
    exact absurd c_1 (nI_nlt (b := 1) hk9.1 (by omega))
  · skip
    refine lv_iload_n hx hb dX1_put_11 rfl (lv_at hl 2 rfl) ?_
    refine lv_bipush (v := 8) hx hb dX1_put_12 (by decide) ?_
    refine lv_icmp_le (tgt := 21) hx hb dX1_put_14 (by decide) (fun c_2 => ?_) (fun c_2 => ?_)
    · skip
      refine lv_iconst (v := 0) hx hb dX1_put_21 (by decide) ?_
      refine lv_iconst (v := 1) hx hb dX1_put_22 (by decide) ?_
      refine gvi (As := [.int 0, .int 1]) (rest := []) ⟨hx, hb, hml, hown, hts⟩ (c_X1_fails l dC dI tk tw h a b cI cJ _ f g 0 (nI n8) zc zso znu zty zhd zpa zch zlk zlo zhi zlp zll zlv 0 1) (cwV 2 hts gX1_put_X1_fails rfl rfl rfl (by decide +kernel) ⟨Nat.le_of_ble_eq_true rfl, Nat.le_of_ble_eq_true rfl⟩) hK hP hD hS hA hZ (q0 := 0) (ci := 1) rfl rfl rfl rfl hl.1 rfl (Nat.le_of_ble_eq_true rfl) dX1_put_23 ⟨Nat.le_of_ble_eq_true rfl, Nat.le_of_ble_eq_true rfl⟩ (fun r_4 u_5 H locs hw_3 hP hD hS => ?_)
      obtain rfl : u_5 = 0 := hw_3.1.trans (by decide)
      have hP : va_P (dC, dI) vwCl (w1 h a b cI cJ f g 0 (nI n8) zc zso znu zty zhd zpa zch zlk zlo zhi zlp zll zlv) H := hP
      have hD : va_D A (w1 h a b cI cJ f g 0 (nI n8) zc zso znu zty zhd zpa zch zlk zlo zhi zlp zll zlv) := hD
      obtain rfl : r_4 = 0 := hw_3.2.trans (by decide)
      refine lv_pop hx hb dX1_put_26 rfl ?_
      refine lv_aload_n hx hb dX1_put_27 rfl (lv_at hl 0 rfl) ?_
      refine lv_aload_n hx hb dX1_put_28 rfl (lv_at hl 0 rfl) ?_
      refine va_get (D := (dC, dI)) (ci := 1) (v := .int (nI n8)) (C := RX1) (T := TX1) (N := 17) hx hb hts hin0 hown hK hP 0 rfl rfl 2 (by decide) fl28 (fun _ h9 => h9) rfl dX1_put_29 ?_
      refine lv_iload_n hx hb dX1_put_32 rfl (lv_at hl 2 rfl) ?_
      refine lv_iadd hx hb dX1_put_33 ?_
      have e_6 : ((nI n8) + (nI k9) : Int32) = nI (n8 + k9) := nI_add _ _
      rw [e_6]
      refine lv_sipush (v := 4096) hx hb dX1_put_34 (by decide) ?_
      refine lv_icmp_le (tgt := 44) hx hb dX1_put_37 (by decide) (fun c_7 => ?_) (fun c_7 => ?_)
      · skip
        refine lv_iconst (v := 0) hx hb dX1_put_44 (by decide) ?_
        refine lv_iconst (v := 2) hx hb dX1_put_45 (by decide) ?_
        refine gvi (As := [.int 0, .int 2]) (rest := []) ⟨hx, hb, hml, hown, hts⟩ (c_X1_fails l dC dI tk tw h a b cI cJ _ f g 0 (nI n8) zc zso znu zty zhd zpa zch zlk zlo zhi zlp zll zlv 0 2) (cwV 2 hts gX1_put_X1_fails rfl rfl rfl (by decide +kernel) ⟨Nat.le_of_ble_eq_true rfl, Nat.le_of_ble_eq_true rfl⟩) hK hP hD hS hA hZ (q0 := 0) (ci := 1) rfl rfl rfl rfl hl.1 rfl (Nat.le_of_ble_eq_true rfl) dX1_put_46 ⟨Nat.le_of_ble_eq_true rfl, Nat.le_of_ble_eq_true rfl⟩ (fun r_9 u_10 H locs hw_8 hP hD hS => ?_)
        obtain rfl : u_10 = 0 := hw_8.1.trans (by decide)
        have hP : va_P (dC, dI) vwCl (w1 h a b cI cJ f g 0 (nI n8) zc zso znu zty zhd zpa zch zlk zlo zhi zlp zll zlv) H := hP
        have hD : va_D A (w1 h a b cI cJ f g 0 (nI n8) zc zso znu zty zhd zpa zch zlk zlo zhi zlp zll zlv) := hD
        obtain rfl : r_9 = 0 := hw_8.2.trans (by decide)
        refine lv_if_eq (tgt := 54) hx hb dX1_put_49 (by decide) (fun c_11 => ?_) (fun c_11 => ?_)
        · skip
          refine lv_aload_n hx hb dX1_put_54 rfl (lv_at hl 0 rfl) ?_
          refine lv_lload_n hx hb dX1_put_55 rfl (lv_at hl 1 rfl) ?_
          refine lv_iload_n hx hb dX1_put_56 rfl (lv_at hl 2 rfl) ?_
          refine gvv (As := [.long x9, .int (nI k9)]) (rest := []) ⟨hx, hb, hml, hown, hts⟩ (c_X1_write l dC dI tk tw h a b cI cJ _ f g 0 zc zso znu zty zhd zpa zch zlk zlo zhi zlp zll zlv n8 k9 x9 hr9) (cwV 2 hts gX1_put_X1_write rfl rfl rfl (by decide +kernel) ⟨Nat.le_of_ble_eq_true rfl, Nat.le_of_ble_eq_true rfl⟩) hK hP hD hS hA hZ (q0 := 0) (ci := 1) rfl rfl rfl rfl hl.1 rfl (Nat.le_of_ble_eq_true rfl) dX1_put_57 ⟨Nat.le_of_ble_eq_true rfl, Nat.le_of_ble_eq_true rfl⟩ (fun u_14 H locs hw_12 hP hD hS => ?_)
          have hP : va_P (dC, dI) vwCl (w1 h a b cI cJ (apM f n8 x9 k9) g 0 (nI (n8 + k9)) zc zso znu zty zhd zpa zch zlk zlo zhi zlp zll zlv) H := hP
          have hD : va_D A (w1 h a b cI cJ (apM f n8 x9 k9) g 0 (nI (n8 + k9)) zc zso znu zty zhd zpa zch zlk zlo zhi zlp zll zlv) := hD
          refine lv_aload_n hx hb dX1_put_60 rfl (lv_at hl 0 rfl) ?_
          refine va_get (D := (dC, dI)) (ci := 1) (v := .int (nI (n8 + k9))) (C := RX1) (T := TX1) (N := 17) hx hb hts hin0 hown hK hP 0 rfl rfl 2 (by decide) fl28 (fun _ h9 => h9) rfl dX1_put_61 ?_
          have hP9 : va_P (dC, dI) vwCl ((fun (_ : Unit) => w1 h a b cI cJ (apM f n8 x9 k9) g 0 (nI (n8 + k9)) zc zso znu zty zhd zpa zch zlk zlo zhi zlp zll zlv) (())) H := hP
          have hD9 : va_D A ((fun (_ : Unit) => w1 h a b cI cJ (apM f n8 x9 k9) g 0 (nI (n8 + k9)) zc zso znu zty zhd zpa zch zlk zlo zhi zlp zll zlv) (())) := hD
          exact W.iret (v := nI (n8 + k9)) hx hb hr (fun t ht hW => ⟨⟨nI (n8 + k9), (), rfl, rfl, by rw [ht]; exact hP9, va_K.moved hW.alike hK, hD9⟩, hS.F ht⟩) hS.2.2 dX1_put_64
        · skip
          exact absurd (by decide) c_11
      · skip
        exact absurd (nI_le (b := 4096) hr9 (by decide)) c_7
    · skip
      exact absurd (nI_le (b := 8) hk9.2 (by decide)) c_2
set_option maxHeartbeats 4000000 in
set_option maxRecDepth 100000 in
theorem c_X1_put_f (l : Launch) (dC : Nat → ClassId) (dI : Nat → Nat → Nat) (tk tw : Nat) (h a b : Nat) (cI cJ : ClassId) (sz : Nat) (f : Nat → Int32) (g : Nat → Int64) (zt : Int32) (zc : Int32) (zso : Int32) (znu : Int64) (zty : Int32) (zhd : Int32) (zpa : Int64) (zch : Int64) (zlk : Int32) (zlo : Int32) (zhi : Int32) (zlp : Int32) (zll : Int32) (zlv : Int32) (n8 : Nat) (hn8 : n8 ≤ 4096) (k9 : Nat) (hk9 : 1 ≤ k9 ∧ k9 ≤ 8) (x9 : Int64) (hr9 : 4096 < n8 + k9) : Met l yX1_put wsX1_put ({ frames := 1, cells := 0, slots := 0, locals := 22 }) (va_Pc [.ref h, .long x9, .int (nI k9)] (pr dC dI (t1 cI cJ) (w1 h a b cI cJ f g zt (nI n8) zc zso znu zty zhd zpa zch zlk zlo zhi zlp zll zlv) sz tk tw)) (va_Qi (fun (r : Int32) (_ : Unit) => True) (fun (_ : Unit) => po dC dI (t1 cI cJ) (va_A (w1 h a b cI cJ f g zt (nI n8) zc zso znu zty zhd zpa zch zlk zlo zhi zlp zll zlv) sz) (w1 h a b cI cJ f g 2 (nI n8) zc zso znu zty zhd zpa zch zlk zlo zhi zlp zll zlv)) (va_A (w1 h a b cI cJ f g zt (nI n8) zc zso znu zty zhd zpa zch zlk zlo zhi zlp zll zlv) sz)) 0 0 (va_A (w1 h a b cI cJ f g zt (nI n8) zc zso znu zty zhd zpa zch zlk zlo zhi zlp zll zlv) sz) := by
  refine Met.ofW (cc := cX1_put) (maxL := 4) (ret := (some .int)) (by decide) rfl ?_
  intro p e s m args below meth c s₁ Bd hml hv
  obtain ⟨rfl, hsz, hP, hK, hD0, hZ⟩ := hv
  have hx := Bd.exec
  have hb := Bd.bytes
  have hr := Bd.returns
  have hts := atoms_spec (ws := wsX1_put) Bd.pre
  have hown : s.vm.findClass RX1 = some m.cls := findClass_of_methodNamed Bd.named
  have hlocks := Bd.notSynchronized
  subst hsz
  have hD := hD0.self (sz := s.heap.size)
  generalize hAe : va_A (w1 h a b cI cJ f g zt (nI n8) zc zso znu zty zhd zpa zch zlk zlo zhi zlp zll zlv) s.heap.size = A at hD hZ ⊢
  have hA : ∀ q : Nat, s.heap.size ≤ q → A q := fun q h => by rw [← hAe]; exact Or.inr h
  have hS : va_S A s.heap s.heap [] := va_S.rf
  have hP : va_P (dC, dI) vwCl (w1 h a b cI cJ f g zt (nI n8) zc zso znu zty zhd zpa zch zlk zlo zhi zlp zll zlv) s.heap := hP
  have hin0 : ∀ w ∈ wsX10, w ∈ wsX1_put := by decide +kernel
  have fl21 := hts (.fieldLink RX1 21 "MessageReaderModel" "thrown" "I") (by decide +kernel)
  have fl28 := hts (.fieldLink RX1 28 "MessageReaderModel" "size" "I") (by decide +kernel)
  have hl := lv_entry ([.ref h, .long x9, .int (nI k9)]) (n := 4) (Nat.le_of_ble_eq_true rfl)
  rw [lg_entry_eq]
  generalize (lg_sl ([.ref h, .long x9, .int (nI k9)]) ++ List.replicate (4 - (lg_sl ([.ref h, .long x9, .int (nI k9)])).length) Slot.unset).toArray = ls at hl ⊢
  have hl : lv_has ls 4 [(0, .ref h), (1, .long x9), (3, .int (nI k9))] := hl
  refine lv_aload_n hx hb dX1_put_0 rfl (lv_at hl 0 rfl) ?_
  refine lv_iconst (v := 0) hx hb dX1_put_1 (by decide) ?_
  refine va_put (D := (dC, dI)) (ci := 1) (v := .int 0) (ty := .int) (C := RX1) (T := TX1) (N := 17) hx hb hts hin0 tyX1 tyX1_ok nmX1 hown hK hP hD hS 0 rfl rfl 0 (by decide) fl21 (fun _ h9 => h9) rfl (by decide +kernel) rfl rfl (Nat.le_of_ble_eq_true rfl) dX1_put_2 (fun H locs hP hD hS => ?_)
  have hP : va_P (dC, dI) vwCl (w1 h a b cI cJ f g 0 (nI n8) zc zso znu zty zhd zpa zch zlk zlo zhi zlp zll zlv) H := hP
  have hD : va_D A (w1 h a b cI cJ f g 0 (nI n8) zc zso znu zty zhd zpa zch zlk zlo zhi zlp zll zlv) := hD
  refine lv_aload_n hx hb dX1_put_5 rfl (lv_at hl 0 rfl) ?_
  refine lv_iload_n hx hb dX1_put_6 rfl (lv_at hl 2 rfl) ?_
  refine lv_iconst (v := 1) hx hb dX1_put_7 (by decide) ?_
  refine lv_icmp_lt (tgt := 17) hx hb dX1_put_8 (by decide) (fun c_1 => ?_) (fun c_1 => ?_)
  · skip
    exact absurd c_1 (nI_nlt (b := 1) hk9.1 (by omega))
  · skip
    refine lv_iload_n hx hb dX1_put_11 rfl (lv_at hl 2 rfl) ?_
    refine lv_bipush (v := 8) hx hb dX1_put_12 (by decide) ?_
    refine lv_icmp_le (tgt := 21) hx hb dX1_put_14 (by decide) (fun c_2 => ?_) (fun c_2 => ?_)
    · skip
      refine lv_iconst (v := 0) hx hb dX1_put_21 (by decide) ?_
      refine lv_iconst (v := 1) hx hb dX1_put_22 (by decide) ?_
      refine gvi (As := [.int 0, .int 1]) (rest := []) ⟨hx, hb, hml, hown, hts⟩ (c_X1_fails l dC dI tk tw h a b cI cJ _ f g 0 (nI n8) zc zso znu zty zhd zpa zch zlk zlo zhi zlp zll zlv 0 1) (cwV 2 hts gX1_put_X1_fails rfl rfl rfl (by decide +kernel) ⟨Nat.le_of_ble_eq_true rfl, Nat.le_of_ble_eq_true rfl⟩) hK hP hD hS hA hZ (q0 := 0) (ci := 1) rfl rfl rfl rfl hl.1 rfl (Nat.le_of_ble_eq_true rfl) dX1_put_23 ⟨Nat.le_of_ble_eq_true rfl, Nat.le_of_ble_eq_true rfl⟩ (fun r_4 u_5 H locs hw_3 hP hD hS => ?_)
      obtain rfl : u_5 = 0 := hw_3.1.trans (by decide)
      have hP : va_P (dC, dI) vwCl (w1 h a b cI cJ f g 0 (nI n8) zc zso znu zty zhd zpa zch zlk zlo zhi zlp zll zlv) H := hP
      have hD : va_D A (w1 h a b cI cJ f g 0 (nI n8) zc zso znu zty zhd zpa zch zlk zlo zhi zlp zll zlv) := hD
      obtain rfl : r_4 = 0 := hw_3.2.trans (by decide)
      refine lv_pop hx hb dX1_put_26 rfl ?_
      refine lv_aload_n hx hb dX1_put_27 rfl (lv_at hl 0 rfl) ?_
      refine lv_aload_n hx hb dX1_put_28 rfl (lv_at hl 0 rfl) ?_
      refine va_get (D := (dC, dI)) (ci := 1) (v := .int (nI n8)) (C := RX1) (T := TX1) (N := 17) hx hb hts hin0 hown hK hP 0 rfl rfl 2 (by decide) fl28 (fun _ h9 => h9) rfl dX1_put_29 ?_
      refine lv_iload_n hx hb dX1_put_32 rfl (lv_at hl 2 rfl) ?_
      refine lv_iadd hx hb dX1_put_33 ?_
      have e_6 : ((nI n8) + (nI k9) : Int32) = nI (n8 + k9) := nI_add _ _
      rw [e_6]
      refine lv_sipush (v := 4096) hx hb dX1_put_34 (by decide) ?_
      refine lv_icmp_le (tgt := 44) hx hb dX1_put_37 (by decide) (fun c_7 => ?_) (fun c_7 => ?_)
      · skip
        exact absurd c_7 (nI_ge (a := 4096) hr9 (by omega))
      · skip
        refine lv_iconst (v := 1) hx hb dX1_put_40 (by decide) ?_
        refine lv_goto (tgt := 45) hx hb dX1_put_41 (by decide) ?_
        refine lv_iconst (v := 2) hx hb dX1_put_45 (by decide) ?_
        refine gvi (As := [.int 1, .int 2]) (rest := []) ⟨hx, hb, hml, hown, hts⟩ (c_X1_fails l dC dI tk tw h a b cI cJ _ f g 0 (nI n8) zc zso znu zty zhd zpa zch zlk zlo zhi zlp zll zlv 1 2) (cwV 2 hts gX1_put_X1_fails rfl rfl rfl (by decide +kernel) ⟨Nat.le_of_ble_eq_true rfl, Nat.le_of_ble_eq_true rfl⟩) hK hP hD hS hA hZ (q0 := 0) (ci := 1) rfl rfl rfl rfl hl.1 rfl (Nat.le_of_ble_eq_true rfl) dX1_put_46 ⟨Nat.le_of_ble_eq_true rfl, Nat.le_of_ble_eq_true rfl⟩ (fun r_9 u_10 H locs hw_8 hP hD hS => ?_)
        obtain rfl : u_10 = 2 := hw_8.1.trans (by decide)
        have hP : va_P (dC, dI) vwCl (w1 h a b cI cJ f g 2 (nI n8) zc zso znu zty zhd zpa zch zlk zlo zhi zlp zll zlv) H := hP
        have hD : va_D A (w1 h a b cI cJ f g 2 (nI n8) zc zso znu zty zhd zpa zch zlk zlo zhi zlp zll zlv) := hD
        obtain rfl : r_9 = 1 := hw_8.2.trans (by decide)
        refine lv_if_eq (tgt := 54) hx hb dX1_put_49 (by decide) (fun c_11 => ?_) (fun c_11 => ?_)
        · skip
          exact absurd c_11 (by decide)
        · skip
          refine lv_iconst (v := 0) hx hb dX1_put_52 (by decide) ?_
          have hP9 : va_P (dC, dI) vwCl ((fun (_ : Unit) => w1 h a b cI cJ f g 2 (nI n8) zc zso znu zty zhd zpa zch zlk zlo zhi zlp zll zlv) (())) H := hP
          have hD9 : va_D A ((fun (_ : Unit) => w1 h a b cI cJ f g 2 (nI n8) zc zso znu zty zhd zpa zch zlk zlo zhi zlp zll zlv) (())) := hD
          exact W.iret (v := 0) hx hb hr (fun t ht hW => ⟨⟨0, (), rfl, trivial, by rw [ht]; exact hP9, va_K.moved hW.alike hK, hD9⟩, hS.F ht⟩) hS.2.2 dX1_put_53
    · skip
      exact absurd (nI_le (b := 8) hk9.2 (by decide)) c_2
set_option maxHeartbeats 4000000 in
set_option maxRecDepth 100000 in
theorem c_X1_put_b (l : Launch) (dC : Nat → ClassId) (dI : Nat → Nat → Nat) (tk tw : Nat) (h a b : Nat) (cI cJ : ClassId) (sz : Nat) (f : Nat → Int32) (g : Nat → Int64) (zt : Int32) (zs : Int32) (zc : Int32) (zso : Int32) (znu : Int64) (zty : Int32) (zhd : Int32) (zpa : Int64) (zch : Int64) (zlk : Int32) (zlo : Int32) (zhi : Int32) (zlp : Int32) (zll : Int32) (zlv : Int32) (x9 : Int64) (m9 : Int32) (hm9 : m9 < 1 ∨ 8 < m9) : Met l yX1_put wsX1_put ({ frames := 1, cells := 0, slots := 0, locals := 22 }) (va_Pc [.ref h, .long x9, .int m9] (pr dC dI (t1 cI cJ) (w1 h a b cI cJ f g zt zs zc zso znu zty zhd zpa zch zlk zlo zhi zlp zll zlv) sz tk tw)) (va_Qi (fun (r : Int32) (_ : Unit) => True) (fun (_ : Unit) => po dC dI (t1 cI cJ) (va_A (w1 h a b cI cJ f g zt zs zc zso znu zty zhd zpa zch zlk zlo zhi zlp zll zlv) sz) (w1 h a b cI cJ f g 1 zs zc zso znu zty zhd zpa zch zlk zlo zhi zlp zll zlv)) (va_A (w1 h a b cI cJ f g zt zs zc zso znu zty zhd zpa zch zlk zlo zhi zlp zll zlv) sz)) 0 0 (va_A (w1 h a b cI cJ f g zt zs zc zso znu zty zhd zpa zch zlk zlo zhi zlp zll zlv) sz) := by
  refine Met.ofW (cc := cX1_put) (maxL := 4) (ret := (some .int)) (by decide) rfl ?_
  intro p e s m args below meth c s₁ Bd hml hv
  obtain ⟨rfl, hsz, hP, hK, hD0, hZ⟩ := hv
  have hx := Bd.exec
  have hb := Bd.bytes
  have hr := Bd.returns
  have hts := atoms_spec (ws := wsX1_put) Bd.pre
  have hown : s.vm.findClass RX1 = some m.cls := findClass_of_methodNamed Bd.named
  have hlocks := Bd.notSynchronized
  subst hsz
  have hD := hD0.self (sz := s.heap.size)
  generalize hAe : va_A (w1 h a b cI cJ f g zt zs zc zso znu zty zhd zpa zch zlk zlo zhi zlp zll zlv) s.heap.size = A at hD hZ ⊢
  have hA : ∀ q : Nat, s.heap.size ≤ q → A q := fun q h => by rw [← hAe]; exact Or.inr h
  have hS : va_S A s.heap s.heap [] := va_S.rf
  have hP : va_P (dC, dI) vwCl (w1 h a b cI cJ f g zt zs zc zso znu zty zhd zpa zch zlk zlo zhi zlp zll zlv) s.heap := hP
  have hin0 : ∀ w ∈ wsX10, w ∈ wsX1_put := by decide +kernel
  have fl21 := hts (.fieldLink RX1 21 "MessageReaderModel" "thrown" "I") (by decide +kernel)
  have fl28 := hts (.fieldLink RX1 28 "MessageReaderModel" "size" "I") (by decide +kernel)
  have hl := lv_entry ([.ref h, .long x9, .int m9]) (n := 4) (Nat.le_of_ble_eq_true rfl)
  rw [lg_entry_eq]
  generalize (lg_sl ([.ref h, .long x9, .int m9]) ++ List.replicate (4 - (lg_sl ([.ref h, .long x9, .int m9])).length) Slot.unset).toArray = ls at hl ⊢
  have hl : lv_has ls 4 [(0, .ref h), (1, .long x9), (3, .int m9)] := hl
  refine lv_aload_n hx hb dX1_put_0 rfl (lv_at hl 0 rfl) ?_
  refine lv_iconst (v := 0) hx hb dX1_put_1 (by decide) ?_
  refine va_put (D := (dC, dI)) (ci := 1) (v := .int 0) (ty := .int) (C := RX1) (T := TX1) (N := 17) hx hb hts hin0 tyX1 tyX1_ok nmX1 hown hK hP hD hS 0 rfl rfl 0 (by decide) fl21 (fun _ h9 => h9) rfl (by decide +kernel) rfl rfl (Nat.le_of_ble_eq_true rfl) dX1_put_2 (fun H locs hP hD hS => ?_)
  have hP : va_P (dC, dI) vwCl (w1 h a b cI cJ f g 0 zs zc zso znu zty zhd zpa zch zlk zlo zhi zlp zll zlv) H := hP
  have hD : va_D A (w1 h a b cI cJ f g 0 zs zc zso znu zty zhd zpa zch zlk zlo zhi zlp zll zlv) := hD
  refine lv_aload_n hx hb dX1_put_5 rfl (lv_at hl 0 rfl) ?_
  refine lv_iload_n hx hb dX1_put_6 rfl (lv_at hl 2 rfl) ?_
  refine lv_iconst (v := 1) hx hb dX1_put_7 (by decide) ?_
  refine lv_icmp_lt (tgt := 17) hx hb dX1_put_8 (by decide) (fun c_1 => ?_) (fun c_1 => ?_)
  · skip
    refine lv_iconst (v := 1) hx hb dX1_put_17 (by decide) ?_
    refine lv_goto (tgt := 22) hx hb dX1_put_18 (by decide) ?_
    refine lv_iconst (v := 1) hx hb dX1_put_22 (by decide) ?_
    refine gvi (As := [.int 1, .int 1]) (rest := []) ⟨hx, hb, hml, hown, hts⟩ (c_X1_fails l dC dI tk tw h a b cI cJ _ f g 0 zs zc zso znu zty zhd zpa zch zlk zlo zhi zlp zll zlv 1 1) (cwV 2 hts gX1_put_X1_fails rfl rfl rfl (by decide +kernel) ⟨Nat.le_of_ble_eq_true rfl, Nat.le_of_ble_eq_true rfl⟩) hK hP hD hS hA hZ (q0 := 0) (ci := 1) rfl rfl rfl rfl hl.1 rfl (Nat.le_of_ble_eq_true rfl) dX1_put_23 ⟨Nat.le_of_ble_eq_true rfl, Nat.le_of_ble_eq_true rfl⟩ (fun r_3 u_4 H locs hw_2 hP hD hS => ?_)
    obtain rfl : u_4 = 1 := hw_2.1.trans (by decide)
    have hP : va_P (dC, dI) vwCl (w1 h a b cI cJ f g 1 zs zc zso znu zty zhd zpa zch zlk zlo zhi zlp zll zlv) H := hP
    have hD : va_D A (w1 h a b cI cJ f g 1 zs zc zso znu zty zhd zpa zch zlk zlo zhi zlp zll zlv) := hD
    obtain rfl : r_3 = 1 := hw_2.2.trans (by decide)
    refine lv_pop hx hb dX1_put_26 rfl ?_
    refine lv_aload_n hx hb dX1_put_27 rfl (lv_at hl 0 rfl) ?_
    refine lv_aload_n hx hb dX1_put_28 rfl (lv_at hl 0 rfl) ?_
    refine va_get (D := (dC, dI)) (ci := 1) (v := .int zs) (C := RX1) (T := TX1) (N := 17) hx hb hts hin0 hown hK hP 0 rfl rfl 2 (by decide) fl28 (fun _ h9 => h9) rfl dX1_put_29 ?_
    refine lv_iload_n hx hb dX1_put_32 rfl (lv_at hl 2 rfl) ?_
    refine lv_iadd hx hb dX1_put_33 ?_
    refine lv_sipush (v := 4096) hx hb dX1_put_34 (by decide) ?_
    refine lv_icmp_le (tgt := 44) hx hb dX1_put_37 (by decide) (fun c_5 => ?_) (fun c_5 => ?_)
    · skip
      refine lv_iconst (v := 0) hx hb dX1_put_44 (by decide) ?_
      refine lv_iconst (v := 2) hx hb dX1_put_45 (by decide) ?_
      refine gvi (As := [.int 0, .int 2]) (rest := []) ⟨hx, hb, hml, hown, hts⟩ (c_X1_fails l dC dI tk tw h a b cI cJ _ f g 1 zs zc zso znu zty zhd zpa zch zlk zlo zhi zlp zll zlv 0 2) (cwV 2 hts gX1_put_X1_fails rfl rfl rfl (by decide +kernel) ⟨Nat.le_of_ble_eq_true rfl, Nat.le_of_ble_eq_true rfl⟩) hK hP hD hS hA hZ (q0 := 0) (ci := 1) rfl rfl rfl rfl hl.1 rfl (Nat.le_of_ble_eq_true rfl) dX1_put_46 ⟨Nat.le_of_ble_eq_true rfl, Nat.le_of_ble_eq_true rfl⟩ (fun r_7 u_8 H locs hw_6 hP hD hS => ?_)
      obtain rfl : u_8 = 1 := hw_6.1.trans (by decide)
      have hP : va_P (dC, dI) vwCl (w1 h a b cI cJ f g 1 zs zc zso znu zty zhd zpa zch zlk zlo zhi zlp zll zlv) H := hP
      have hD : va_D A (w1 h a b cI cJ f g 1 zs zc zso znu zty zhd zpa zch zlk zlo zhi zlp zll zlv) := hD
      obtain rfl : r_7 = 1 := hw_6.2.trans (by decide)
      refine lv_if_eq (tgt := 54) hx hb dX1_put_49 (by decide) (fun c_9 => ?_) (fun c_9 => ?_)
      · skip
        exact absurd c_9 (by decide)
      · skip
        refine lv_iconst (v := 0) hx hb dX1_put_52 (by decide) ?_
        have hP9 : va_P (dC, dI) vwCl ((fun (_ : Unit) => w1 h a b cI cJ f g 1 zs zc zso znu zty zhd zpa zch zlk zlo zhi zlp zll zlv) (())) H := hP
        have hD9 : va_D A ((fun (_ : Unit) => w1 h a b cI cJ f g 1 zs zc zso znu zty zhd zpa zch zlk zlo zhi zlp zll zlv) (())) := hD
        exact W.iret (v := 0) hx hb hr (fun t ht hW => ⟨⟨0, (), rfl, trivial, by rw [ht]; exact hP9, va_K.moved hW.alike hK, hD9⟩, hS.F ht⟩) hS.2.2 dX1_put_53
    · skip
      refine lv_iconst (v := 1) hx hb dX1_put_40 (by decide) ?_
      refine lv_goto (tgt := 45) hx hb dX1_put_41 (by decide) ?_
      refine lv_iconst (v := 2) hx hb dX1_put_45 (by decide) ?_
      refine gvi (As := [.int 1, .int 2]) (rest := []) ⟨hx, hb, hml, hown, hts⟩ (c_X1_fails l dC dI tk tw h a b cI cJ _ f g 1 zs zc zso znu zty zhd zpa zch zlk zlo zhi zlp zll zlv 1 2) (cwV 2 hts gX1_put_X1_fails rfl rfl rfl (by decide +kernel) ⟨Nat.le_of_ble_eq_true rfl, Nat.le_of_ble_eq_true rfl⟩) hK hP hD hS hA hZ (q0 := 0) (ci := 1) rfl rfl rfl rfl hl.1 rfl (Nat.le_of_ble_eq_true rfl) dX1_put_46 ⟨Nat.le_of_ble_eq_true rfl, Nat.le_of_ble_eq_true rfl⟩ (fun r_11 u_12 H locs hw_10 hP hD hS => ?_)
      obtain rfl : u_12 = 1 := hw_10.1.trans (by decide)
      have hP : va_P (dC, dI) vwCl (w1 h a b cI cJ f g 1 zs zc zso znu zty zhd zpa zch zlk zlo zhi zlp zll zlv) H := hP
      have hD : va_D A (w1 h a b cI cJ f g 1 zs zc zso znu zty zhd zpa zch zlk zlo zhi zlp zll zlv) := hD
      obtain rfl : r_11 = 1 := hw_10.2.trans (by decide)
      refine lv_if_eq (tgt := 54) hx hb dX1_put_49 (by decide) (fun c_13 => ?_) (fun c_13 => ?_)
      · skip
        exact absurd c_13 (by decide)
      · skip
        refine lv_iconst (v := 0) hx hb dX1_put_52 (by decide) ?_
        have hP9 : va_P (dC, dI) vwCl ((fun (_ : Unit) => w1 h a b cI cJ f g 1 zs zc zso znu zty zhd zpa zch zlk zlo zhi zlp zll zlv) (())) H := hP
        have hD9 : va_D A ((fun (_ : Unit) => w1 h a b cI cJ f g 1 zs zc zso znu zty zhd zpa zch zlk zlo zhi zlp zll zlv) (())) := hD
        exact W.iret (v := 0) hx hb hr (fun t ht hW => ⟨⟨0, (), rfl, trivial, by rw [ht]; exact hP9, va_K.moved hW.alike hK, hD9⟩, hS.F ht⟩) hS.2.2 dX1_put_53
  · skip
    refine lv_iload_n hx hb dX1_put_11 rfl (lv_at hl 2 rfl) ?_
    refine lv_bipush (v := 8) hx hb dX1_put_12 (by decide) ?_
    refine lv_icmp_le (tgt := 21) hx hb dX1_put_14 (by decide) (fun c_14 => ?_) (fun c_14 => ?_)
    · skip
      exact absurd hm9 (fun z => z.elim c_1 (fun y => Int32.not_lt.mpr c_14 y))
    · skip
      refine lv_iconst (v := 1) hx hb dX1_put_17 (by decide) ?_
      refine lv_goto (tgt := 22) hx hb dX1_put_18 (by decide) ?_
      refine lv_iconst (v := 1) hx hb dX1_put_22 (by decide) ?_
      refine gvi (As := [.int 1, .int 1]) (rest := []) ⟨hx, hb, hml, hown, hts⟩ (c_X1_fails l dC dI tk tw h a b cI cJ _ f g 0 zs zc zso znu zty zhd zpa zch zlk zlo zhi zlp zll zlv 1 1) (cwV 2 hts gX1_put_X1_fails rfl rfl rfl (by decide +kernel) ⟨Nat.le_of_ble_eq_true rfl, Nat.le_of_ble_eq_true rfl⟩) hK hP hD hS hA hZ (q0 := 0) (ci := 1) rfl rfl rfl rfl hl.1 rfl (Nat.le_of_ble_eq_true rfl) dX1_put_23 ⟨Nat.le_of_ble_eq_true rfl, Nat.le_of_ble_eq_true rfl⟩ (fun r_16 u_17 H locs hw_15 hP hD hS => ?_)
      obtain rfl : u_17 = 1 := hw_15.1.trans (by decide)
      have hP : va_P (dC, dI) vwCl (w1 h a b cI cJ f g 1 zs zc zso znu zty zhd zpa zch zlk zlo zhi zlp zll zlv) H := hP
      have hD : va_D A (w1 h a b cI cJ f g 1 zs zc zso znu zty zhd zpa zch zlk zlo zhi zlp zll zlv) := hD
      obtain rfl : r_16 = 1 := hw_15.2.trans (by decide)
      refine lv_pop hx hb dX1_put_26 rfl ?_
      refine lv_aload_n hx hb dX1_put_27 rfl (lv_at hl 0 rfl) ?_
      refine lv_aload_n hx hb dX1_put_28 rfl (lv_at hl 0 rfl) ?_
      refine va_get (D := (dC, dI)) (ci := 1) (v := .int zs) (C := RX1) (T := TX1) (N := 17) hx hb hts hin0 hown hK hP 0 rfl rfl 2 (by decide) fl28 (fun _ h9 => h9) rfl dX1_put_29 ?_
      refine lv_iload_n hx hb dX1_put_32 rfl (lv_at hl 2 rfl) ?_
      refine lv_iadd hx hb dX1_put_33 ?_
      refine lv_sipush (v := 4096) hx hb dX1_put_34 (by decide) ?_
      refine lv_icmp_le (tgt := 44) hx hb dX1_put_37 (by decide) (fun c_18 => ?_) (fun c_18 => ?_)
      · skip
        refine lv_iconst (v := 0) hx hb dX1_put_44 (by decide) ?_
        refine lv_iconst (v := 2) hx hb dX1_put_45 (by decide) ?_
        refine gvi (As := [.int 0, .int 2]) (rest := []) ⟨hx, hb, hml, hown, hts⟩ (c_X1_fails l dC dI tk tw h a b cI cJ _ f g 1 zs zc zso znu zty zhd zpa zch zlk zlo zhi zlp zll zlv 0 2) (cwV 2 hts gX1_put_X1_fails rfl rfl rfl (by decide +kernel) ⟨Nat.le_of_ble_eq_true rfl, Nat.le_of_ble_eq_true rfl⟩) hK hP hD hS hA hZ (q0 := 0) (ci := 1) rfl rfl rfl rfl hl.1 rfl (Nat.le_of_ble_eq_true rfl) dX1_put_46 ⟨Nat.le_of_ble_eq_true rfl, Nat.le_of_ble_eq_true rfl⟩ (fun r_20 u_21 H locs hw_19 hP hD hS => ?_)
        obtain rfl : u_21 = 1 := hw_19.1.trans (by decide)
        have hP : va_P (dC, dI) vwCl (w1 h a b cI cJ f g 1 zs zc zso znu zty zhd zpa zch zlk zlo zhi zlp zll zlv) H := hP
        have hD : va_D A (w1 h a b cI cJ f g 1 zs zc zso znu zty zhd zpa zch zlk zlo zhi zlp zll zlv) := hD
        obtain rfl : r_20 = 1 := hw_19.2.trans (by decide)
        refine lv_if_eq (tgt := 54) hx hb dX1_put_49 (by decide) (fun c_22 => ?_) (fun c_22 => ?_)
        · skip
          exact absurd c_22 (by decide)
        · skip
          refine lv_iconst (v := 0) hx hb dX1_put_52 (by decide) ?_
          have hP9 : va_P (dC, dI) vwCl ((fun (_ : Unit) => w1 h a b cI cJ f g 1 zs zc zso znu zty zhd zpa zch zlk zlo zhi zlp zll zlv) (())) H := hP
          have hD9 : va_D A ((fun (_ : Unit) => w1 h a b cI cJ f g 1 zs zc zso znu zty zhd zpa zch zlk zlo zhi zlp zll zlv) (())) := hD
          exact W.iret (v := 0) hx hb hr (fun t ht hW => ⟨⟨0, (), rfl, trivial, by rw [ht]; exact hP9, va_K.moved hW.alike hK, hD9⟩, hS.F ht⟩) hS.2.2 dX1_put_53
      · skip
        refine lv_iconst (v := 1) hx hb dX1_put_40 (by decide) ?_
        refine lv_goto (tgt := 45) hx hb dX1_put_41 (by decide) ?_
        refine lv_iconst (v := 2) hx hb dX1_put_45 (by decide) ?_
        refine gvi (As := [.int 1, .int 2]) (rest := []) ⟨hx, hb, hml, hown, hts⟩ (c_X1_fails l dC dI tk tw h a b cI cJ _ f g 1 zs zc zso znu zty zhd zpa zch zlk zlo zhi zlp zll zlv 1 2) (cwV 2 hts gX1_put_X1_fails rfl rfl rfl (by decide +kernel) ⟨Nat.le_of_ble_eq_true rfl, Nat.le_of_ble_eq_true rfl⟩) hK hP hD hS hA hZ (q0 := 0) (ci := 1) rfl rfl rfl rfl hl.1 rfl (Nat.le_of_ble_eq_true rfl) dX1_put_46 ⟨Nat.le_of_ble_eq_true rfl, Nat.le_of_ble_eq_true rfl⟩ (fun r_24 u_25 H locs hw_23 hP hD hS => ?_)
        obtain rfl : u_25 = 1 := hw_23.1.trans (by decide)
        have hP : va_P (dC, dI) vwCl (w1 h a b cI cJ f g 1 zs zc zso znu zty zhd zpa zch zlk zlo zhi zlp zll zlv) H := hP
        have hD : va_D A (w1 h a b cI cJ f g 1 zs zc zso znu zty zhd zpa zch zlk zlo zhi zlp zll zlv) := hD
        obtain rfl : r_24 = 1 := hw_23.2.trans (by decide)
        refine lv_if_eq (tgt := 54) hx hb dX1_put_49 (by decide) (fun c_26 => ?_) (fun c_26 => ?_)
        · skip
          exact absurd c_26 (by decide)
        · skip
          refine lv_iconst (v := 0) hx hb dX1_put_52 (by decide) ?_
          have hP9 : va_P (dC, dI) vwCl ((fun (_ : Unit) => w1 h a b cI cJ f g 1 zs zc zso znu zty zhd zpa zch zlk zlo zhi zlp zll zlv) (())) H := hP
          have hD9 : va_D A ((fun (_ : Unit) => w1 h a b cI cJ f g 1 zs zc zso znu zty zhd zpa zch zlk zlo zhi zlp zll zlv) (())) := hD
          exact W.iret (v := 0) hx hb hr (fun t ht hW => ⟨⟨0, (), rfl, trivial, by rw [ht]; exact hP9, va_K.moved hW.alike hK, hD9⟩, hS.F ht⟩) hS.2.2 dX1_put_53
set_option maxHeartbeats 4000000 in
set_option maxRecDepth 100000 in
theorem c_X1_cut (l : Launch) (dC : Nat → ClassId) (dI : Nat → Nat → Nat) (tk tw : Nat) (h a b : Nat) (cI cJ : ClassId) (sz : Nat) (f : Nat → Int32) (g : Nat → Int64) (zt : Int32) (zso : Int32) (znu : Int64) (zty : Int32) (zhd : Int32) (zpa : Int64) (zch : Int64) (zlk : Int32) (zlo : Int32) (zhi : Int32) (zlp : Int32) (zll : Int32) (zlv : Int32) (n8 c9 : Nat) (hn8 : n8 ≤ 4096) (hc9 : c9 ≤ n8) (k9 : Nat) (hk9 : k9 ≤ n8 - c9) : Met l yX1_cut wsX1_cut ({ frames := 1, cells := 0, slots := 0, locals := 22 }) (va_Pc [.ref h, .int (nI k9)] (pr dC dI (t1 cI cJ) (w1 h a b cI cJ f g zt (nI n8) (nI c9) zso znu zty zhd zpa zch zlk zlo zhi zlp zll zlv) sz tk tw)) (va_Qi (fun (r : Int32) (_ : Unit) => r = nI (n8 - k9)) (fun (_ : Unit) => po dC dI (t1 cI cJ) (va_A (w1 h a b cI cJ f g zt (nI n8) (nI c9) zso znu zty zhd zpa zch zlk zlo zhi zlp zll zlv) sz) (w1 h a b cI cJ f g 0 (nI (n8 - k9)) (nI c9) zso znu zty zhd zpa zch zlk zlo zhi zlp zll zlv)) (va_A (w1 h a b cI cJ f g zt (nI n8) (nI c9) zso znu zty zhd zpa zch zlk zlo zhi zlp zll zlv) sz)) 0 0 (va_A (w1 h a b cI cJ f g zt (nI n8) (nI c9) zso znu zty zhd zpa zch zlk zlo zhi zlp zll zlv) sz) := by
  refine Met.ofW (cc := cX1_cut) (maxL := 2) (ret := (some .int)) (by decide) rfl ?_
  intro p e s m args below meth c s₁ Bd hml hv
  obtain ⟨rfl, hsz, hP, hK, hD0, hZ⟩ := hv
  have hx := Bd.exec
  have hb := Bd.bytes
  have hr := Bd.returns
  have hts := atoms_spec (ws := wsX1_cut) Bd.pre
  have hown : s.vm.findClass RX1 = some m.cls := findClass_of_methodNamed Bd.named
  have hlocks := Bd.notSynchronized
  subst hsz
  have hD := hD0.self (sz := s.heap.size)
  generalize hAe : va_A (w1 h a b cI cJ f g zt (nI n8) (nI c9) zso znu zty zhd zpa zch zlk zlo zhi zlp zll zlv) s.heap.size = A at hD hZ ⊢
  have hA : ∀ q : Nat, s.heap.size ≤ q → A q := fun q h => by rw [← hAe]; exact Or.inr h
  have hS : va_S A s.heap s.heap [] := va_S.rf
  have hP : va_P (dC, dI) vwCl (w1 h a b cI cJ f g zt (nI n8) (nI c9) zso znu zty zhd zpa zch zlk zlo zhi zlp zll zlv) s.heap := hP
  have hin0 : ∀ w ∈ wsX10, w ∈ wsX1_cut := by decide +kernel
  have fl21 := hts (.fieldLink RX1 21 "MessageReaderModel" "thrown" "I") (by decide +kernel)
  have fl28 := hts (.fieldLink RX1 28 "MessageReaderModel" "size" "I") (by decide +kernel)
  have fl37 := hts (.fieldLink RX1 37 "MessageReaderModel" "consumed" "I") (by decide +kernel)
  have hl := lv_entry ([.ref h, .int (nI k9)]) (n := 2) (Nat.le_of_ble_eq_true rfl)
  rw [lg_entry_eq]
  generalize (lg_sl ([.ref h, .int (nI k9)]) ++ List.replicate (2 - (lg_sl ([.ref h, .int (nI k9)])).length) Slot.unset).toArray = ls at hl ⊢
  have hl : lv_has ls 2 [(0, .ref h), (1, .int (nI k9))] := hl
  refine lv_aload_n hx hb dX1_cut_0 rfl (lv_at hl 0 rfl) ?_
  refine lv_iconst (v := 0) hx hb dX1_cut_1 (by decide) ?_
  refine va_put (D := (dC, dI)) (ci := 1) (v := .int 0) (ty := .int) (C := RX1) (T := TX1) (N := 17) hx hb hts hin0 tyX1 tyX1_ok nmX1 hown hK hP hD hS 0 rfl rfl 0 (by decide) fl21 (fun _ h9 => h9) rfl (by decide +kernel) rfl rfl (Nat.le_of_ble_eq_true rfl) dX1_cut_2 (fun H locs hP hD hS => ?_)
  have hP : va_P (dC, dI) vwCl (w1 h a b cI cJ f g 0 (nI n8) (nI c9) zso znu zty zhd zpa zch zlk zlo zhi zlp zll zlv) H := hP
  have hD : va_D A (w1 h a b cI cJ f g 0 (nI n8) (nI c9) zso znu zty zhd zpa zch zlk zlo zhi zlp zll zlv) := hD
  refine lv_aload_n hx hb dX1_cut_5 rfl (lv_at hl 0 rfl) ?_
  refine lv_iload_n hx hb dX1_cut_6 rfl (lv_at hl 1 rfl) ?_
  refine lv_if_lt (tgt := 23) hx hb dX1_cut_7 (by decide) (fun c_1 => ?_) (fun c_1 => ?_)
  · skip
    exact absurd c_1 (nI_pos (by omega))
  · skip
    refine lv_iload_n hx hb dX1_cut_10 rfl (lv_at hl 1 rfl) ?_
    refine lv_aload_n hx hb dX1_cut_11 rfl (lv_at hl 0 rfl) ?_
    refine va_get (D := (dC, dI)) (ci := 1) (v := .int (nI n8)) (C := RX1) (T := TX1) (N := 17) hx hb hts hin0 hown hK hP 0 rfl rfl 2 (by decide) fl28 (fun _ h9 => h9) rfl dX1_cut_12 ?_
    refine lv_aload_n hx hb dX1_cut_15 rfl (lv_at hl 0 rfl) ?_
    refine va_get (D := (dC, dI)) (ci := 1) (v := .int (nI c9)) (C := RX1) (T := TX1) (N := 17) hx hb hts hin0 hown hK hP 0 rfl rfl 3 (by decide) fl37 (fun _ h9 => h9) rfl dX1_cut_16 ?_
    refine lv_isub hx hb dX1_cut_19 ?_
    have e_2 : ((nI n8) - (nI c9) : Int32) = nI (n8 - c9) := pk_sub hc9
    rw [e_2]
    refine lv_icmp_le (tgt := 27) hx hb dX1_cut_20 (by decide) (fun c_3 => ?_) (fun c_3 => ?_)
    · skip
      refine lv_iconst (v := 0) hx hb dX1_cut_27 (by decide) ?_
      refine lv_iconst (v := 1) hx hb dX1_cut_28 (by decide) ?_
      refine gvi (As := [.int 0, .int 1]) (rest := []) ⟨hx, hb, hml, hown, hts⟩ (c_X1_fails l dC dI tk tw h a b cI cJ _ f g 0 (nI n8) (nI c9) zso znu zty zhd zpa zch zlk zlo zhi zlp zll zlv 0 1) (cwV 2 hts gX1_cut_X1_fails rfl rfl rfl (by decide +kernel) ⟨Nat.le_of_ble_eq_true rfl, Nat.le_of_ble_eq_true rfl⟩) hK hP hD hS hA hZ (q0 := 0) (ci := 1) rfl rfl rfl rfl hl.1 rfl (Nat.le_of_ble_eq_true rfl) dX1_cut_29 ⟨Nat.le_of_ble_eq_true rfl, Nat.le_of_ble_eq_true rfl⟩ (fun r_5 u_6 H locs hw_4 hP hD hS => ?_)
      obtain rfl : u_6 = 0 := hw_4.1.trans (by decide)
      have hP : va_P (dC, dI) vwCl (w1 h a b cI cJ f g 0 (nI n8) (nI c9) zso znu zty zhd zpa zch zlk zlo zhi zlp zll zlv) H := hP
      have hD : va_D A (w1 h a b cI cJ f g 0 (nI n8) (nI c9) zso znu zty zhd zpa zch zlk zlo zhi zlp zll zlv) := hD
      obtain rfl : r_5 = 0 := hw_4.2.trans (by decide)
      refine lv_if_eq (tgt := 37) hx hb dX1_cut_32 (by decide) (fun c_7 => ?_) (fun c_7 => ?_)
      · skip
        refine lv_aload_n hx hb dX1_cut_37 rfl (lv_at hl 0 rfl) ?_
        refine lv_dup hx hb dX1_cut_38 rfl ?_
        refine va_get (D := (dC, dI)) (ci := 1) (v := .int (nI n8)) (C := RX1) (T := TX1) (N := 17) hx hb hts hin0 hown hK hP 0 rfl rfl 2 (by decide) fl28 (fun _ h9 => h9) rfl dX1_cut_39 ?_
        refine lv_iload_n hx hb dX1_cut_42 rfl (lv_at hl 1 rfl) ?_
        refine lv_isub hx hb dX1_cut_43 ?_
        have e_8 : ((nI n8) - (nI k9) : Int32) = nI (n8 - k9) := pk_sub (by omega)
        rw [e_8]
        refine va_put (D := (dC, dI)) (ci := 1) (v := .int (nI (n8 - k9))) (ty := .int) (C := RX1) (T := TX1) (N := 17) hx hb hts hin0 tyX1 tyX1_ok nmX1 hown hK hP hD hS 0 rfl rfl 2 (by decide) fl28 (fun _ h9 => h9) rfl (by decide +kernel) rfl rfl (Nat.le_of_ble_eq_true rfl) dX1_cut_44 (fun H locs hP hD hS => ?_)
        have hP : va_P (dC, dI) vwCl (w1 h a b cI cJ f g 0 (nI (n8 - k9)) (nI c9) zso znu zty zhd zpa zch zlk zlo zhi zlp zll zlv) H := hP
        have hD : va_D A (w1 h a b cI cJ f g 0 (nI (n8 - k9)) (nI c9) zso znu zty zhd zpa zch zlk zlo zhi zlp zll zlv) := hD
        refine lv_aload_n hx hb dX1_cut_47 rfl (lv_at hl 0 rfl) ?_
        refine va_get (D := (dC, dI)) (ci := 1) (v := .int (nI (n8 - k9))) (C := RX1) (T := TX1) (N := 17) hx hb hts hin0 hown hK hP 0 rfl rfl 2 (by decide) fl28 (fun _ h9 => h9) rfl dX1_cut_48 ?_
        have hP9 : va_P (dC, dI) vwCl ((fun (_ : Unit) => w1 h a b cI cJ f g 0 (nI (n8 - k9)) (nI c9) zso znu zty zhd zpa zch zlk zlo zhi zlp zll zlv) (())) H := hP
        have hD9 : va_D A ((fun (_ : Unit) => w1 h a b cI cJ f g 0 (nI (n8 - k9)) (nI c9) zso znu zty zhd zpa zch zlk zlo zhi zlp zll zlv) (())) := hD
        exact W.iret (v := nI (n8 - k9)) hx hb hr (fun t ht hW => ⟨⟨nI (n8 - k9), (), rfl, rfl, by rw [ht]; exact hP9, va_K.moved hW.alike hK, hD9⟩, hS.F ht⟩) hS.2.2 dX1_cut_51
      · skip
        exact absurd (by decide) c_7
    · skip
      exact absurd (nI_le hk9 (by omega)) c_3
set_option maxHeartbeats 4000000 in
set_option maxRecDepth 100000 in
theorem c_X1_cut_b (l : Launch) (dC : Nat → ClassId) (dI : Nat → Nat → Nat) (tk tw : Nat) (h a b : Nat) (cI cJ : ClassId) (sz : Nat) (f : Nat → Int32) (g : Nat → Int64) (zt : Int32) (zso : Int32) (znu : Int64) (zty : Int32) (zhd : Int32) (zpa : Int64) (zch : Int64) (zlk : Int32) (zlo : Int32) (zhi : Int32) (zlp : Int32) (zll : Int32) (zlv : Int32) (n8 c9 : Nat) (hn8 : n8 ≤ 4096) (hc9 : c9 ≤ n8) (m9 : Int32) (hm9 : m9 < 0 ∨ nI (n8 - c9) < m9) : Met l yX1_cut wsX1_cut ({ frames := 1, cells := 0, slots := 0, locals := 22 }) (va_Pc [.ref h, .int m9] (pr dC dI (t1 cI cJ) (w1 h a b cI cJ f g zt (nI n8) (nI c9) zso znu zty zhd zpa zch zlk zlo zhi zlp zll zlv) sz tk tw)) (va_Qi (fun (r : Int32) (_ : Unit) => True) (fun (_ : Unit) => po dC dI (t1 cI cJ) (va_A (w1 h a b cI cJ f g zt (nI n8) (nI c9) zso znu zty zhd zpa zch zlk zlo zhi zlp zll zlv) sz) (w1 h a b cI cJ f g 1 (nI n8) (nI c9) zso znu zty zhd zpa zch zlk zlo zhi zlp zll zlv)) (va_A (w1 h a b cI cJ f g zt (nI n8) (nI c9) zso znu zty zhd zpa zch zlk zlo zhi zlp zll zlv) sz)) 0 0 (va_A (w1 h a b cI cJ f g zt (nI n8) (nI c9) zso znu zty zhd zpa zch zlk zlo zhi zlp zll zlv) sz) := by
  refine Met.ofW (cc := cX1_cut) (maxL := 2) (ret := (some .int)) (by decide) rfl ?_
  intro p e s m args below meth c s₁ Bd hml hv
  obtain ⟨rfl, hsz, hP, hK, hD0, hZ⟩ := hv
  have hx := Bd.exec
  have hb := Bd.bytes
  have hr := Bd.returns
  have hts := atoms_spec (ws := wsX1_cut) Bd.pre
  have hown : s.vm.findClass RX1 = some m.cls := findClass_of_methodNamed Bd.named
  have hlocks := Bd.notSynchronized
  subst hsz
  have hD := hD0.self (sz := s.heap.size)
  generalize hAe : va_A (w1 h a b cI cJ f g zt (nI n8) (nI c9) zso znu zty zhd zpa zch zlk zlo zhi zlp zll zlv) s.heap.size = A at hD hZ ⊢
  have hA : ∀ q : Nat, s.heap.size ≤ q → A q := fun q h => by rw [← hAe]; exact Or.inr h
  have hS : va_S A s.heap s.heap [] := va_S.rf
  have hP : va_P (dC, dI) vwCl (w1 h a b cI cJ f g zt (nI n8) (nI c9) zso znu zty zhd zpa zch zlk zlo zhi zlp zll zlv) s.heap := hP
  have hin0 : ∀ w ∈ wsX10, w ∈ wsX1_cut := by decide +kernel
  have fl21 := hts (.fieldLink RX1 21 "MessageReaderModel" "thrown" "I") (by decide +kernel)
  have fl28 := hts (.fieldLink RX1 28 "MessageReaderModel" "size" "I") (by decide +kernel)
  have fl37 := hts (.fieldLink RX1 37 "MessageReaderModel" "consumed" "I") (by decide +kernel)
  have hl := lv_entry ([.ref h, .int m9]) (n := 2) (Nat.le_of_ble_eq_true rfl)
  rw [lg_entry_eq]
  generalize (lg_sl ([.ref h, .int m9]) ++ List.replicate (2 - (lg_sl ([.ref h, .int m9])).length) Slot.unset).toArray = ls at hl ⊢
  have hl : lv_has ls 2 [(0, .ref h), (1, .int m9)] := hl
  refine lv_aload_n hx hb dX1_cut_0 rfl (lv_at hl 0 rfl) ?_
  refine lv_iconst (v := 0) hx hb dX1_cut_1 (by decide) ?_
  refine va_put (D := (dC, dI)) (ci := 1) (v := .int 0) (ty := .int) (C := RX1) (T := TX1) (N := 17) hx hb hts hin0 tyX1 tyX1_ok nmX1 hown hK hP hD hS 0 rfl rfl 0 (by decide) fl21 (fun _ h9 => h9) rfl (by decide +kernel) rfl rfl (Nat.le_of_ble_eq_true rfl) dX1_cut_2 (fun H locs hP hD hS => ?_)
  have hP : va_P (dC, dI) vwCl (w1 h a b cI cJ f g 0 (nI n8) (nI c9) zso znu zty zhd zpa zch zlk zlo zhi zlp zll zlv) H := hP
  have hD : va_D A (w1 h a b cI cJ f g 0 (nI n8) (nI c9) zso znu zty zhd zpa zch zlk zlo zhi zlp zll zlv) := hD
  refine lv_aload_n hx hb dX1_cut_5 rfl (lv_at hl 0 rfl) ?_
  refine lv_iload_n hx hb dX1_cut_6 rfl (lv_at hl 1 rfl) ?_
  refine lv_if_lt (tgt := 23) hx hb dX1_cut_7 (by decide) (fun c_1 => ?_) (fun c_1 => ?_)
  · skip
    refine lv_iconst (v := 1) hx hb dX1_cut_23 (by decide) ?_
    refine lv_goto (tgt := 28) hx hb dX1_cut_24 (by decide) ?_
    refine lv_iconst (v := 1) hx hb dX1_cut_28 (by decide) ?_
    refine gvi (As := [.int 1, .int 1]) (rest := []) ⟨hx, hb, hml, hown, hts⟩ (c_X1_fails l dC dI tk tw h a b cI cJ _ f g 0 (nI n8) (nI c9) zso znu zty zhd zpa zch zlk zlo zhi zlp zll zlv 1 1) (cwV 2 hts gX1_cut_X1_fails rfl rfl rfl (by decide +kernel) ⟨Nat.le_of_ble_eq_true rfl, Nat.le_of_ble_eq_true rfl⟩) hK hP hD hS hA hZ (q0 := 0) (ci := 1) rfl rfl rfl rfl hl.1 rfl (Nat.le_of_ble_eq_true rfl) dX1_cut_29 ⟨Nat.le_of_ble_eq_true rfl, Nat.le_of_ble_eq_true rfl⟩ (fun r_3 u_4 H locs hw_2 hP hD hS => ?_)
    obtain rfl : u_4 = 1 := hw_2.1.trans (by decide)
    have hP : va_P (dC, dI) vwCl (w1 h a b cI cJ f g 1 (nI n8) (nI c9) zso znu zty zhd zpa zch zlk zlo zhi zlp zll zlv) H := hP
    have hD : va_D A (w1 h a b cI cJ f g 1 (nI n8) (nI c9) zso znu zty zhd zpa zch zlk zlo zhi zlp zll zlv) := hD
    obtain rfl : r_3 = 1 := hw_2.2.trans (by decide)
    refine lv_if_eq (tgt := 37) hx hb dX1_cut_32 (by decide) (fun c_5 => ?_) (fun c_5 => ?_)
    · skip
      exact absurd c_5 (by decide)
    · skip
      refine lv_iconst (v := 0) hx hb dX1_cut_35 (by decide) ?_
      have hP9 : va_P (dC, dI) vwCl ((fun (_ : Unit) => w1 h a b cI cJ f g 1 (nI n8) (nI c9) zso znu zty zhd zpa zch zlk zlo zhi zlp zll zlv) (())) H := hP
      have hD9 : va_D A ((fun (_ : Unit) => w1 h a b cI cJ f g 1 (nI n8) (nI c9) zso znu zty zhd zpa zch zlk zlo zhi zlp zll zlv) (())) := hD
      exact W.iret (v := 0) hx hb hr (fun t ht hW => ⟨⟨0, (), rfl, trivial, by rw [ht]; exact hP9, va_K.moved hW.alike hK, hD9⟩, hS.F ht⟩) hS.2.2 dX1_cut_36
  · skip
    refine lv_iload_n hx hb dX1_cut_10 rfl (lv_at hl 1 rfl) ?_
    refine lv_aload_n hx hb dX1_cut_11 rfl (lv_at hl 0 rfl) ?_
    refine va_get (D := (dC, dI)) (ci := 1) (v := .int (nI n8)) (C := RX1) (T := TX1) (N := 17) hx hb hts hin0 hown hK hP 0 rfl rfl 2 (by decide) fl28 (fun _ h9 => h9) rfl dX1_cut_12 ?_
    refine lv_aload_n hx hb dX1_cut_15 rfl (lv_at hl 0 rfl) ?_
    refine va_get (D := (dC, dI)) (ci := 1) (v := .int (nI c9)) (C := RX1) (T := TX1) (N := 17) hx hb hts hin0 hown hK hP 0 rfl rfl 3 (by decide) fl37 (fun _ h9 => h9) rfl dX1_cut_16 ?_
    refine lv_isub hx hb dX1_cut_19 ?_
    have e_6 : ((nI n8) - (nI c9) : Int32) = nI (n8 - c9) := pk_sub hc9
    rw [e_6]
    refine lv_icmp_le (tgt := 27) hx hb dX1_cut_20 (by decide) (fun c_7 => ?_) (fun c_7 => ?_)
    · skip
      exact absurd hm9 (fun z => z.elim c_1 (fun y => Int32.not_lt.mpr c_7 y))
    · skip
      refine lv_iconst (v := 1) hx hb dX1_cut_23 (by decide) ?_
      refine lv_goto (tgt := 28) hx hb dX1_cut_24 (by decide) ?_
      refine lv_iconst (v := 1) hx hb dX1_cut_28 (by decide) ?_
      refine gvi (As := [.int 1, .int 1]) (rest := []) ⟨hx, hb, hml, hown, hts⟩ (c_X1_fails l dC dI tk tw h a b cI cJ _ f g 0 (nI n8) (nI c9) zso znu zty zhd zpa zch zlk zlo zhi zlp zll zlv 1 1) (cwV 2 hts gX1_cut_X1_fails rfl rfl rfl (by decide +kernel) ⟨Nat.le_of_ble_eq_true rfl, Nat.le_of_ble_eq_true rfl⟩) hK hP hD hS hA hZ (q0 := 0) (ci := 1) rfl rfl rfl rfl hl.1 rfl (Nat.le_of_ble_eq_true rfl) dX1_cut_29 ⟨Nat.le_of_ble_eq_true rfl, Nat.le_of_ble_eq_true rfl⟩ (fun r_9 u_10 H locs hw_8 hP hD hS => ?_)
      obtain rfl : u_10 = 1 := hw_8.1.trans (by decide)
      have hP : va_P (dC, dI) vwCl (w1 h a b cI cJ f g 1 (nI n8) (nI c9) zso znu zty zhd zpa zch zlk zlo zhi zlp zll zlv) H := hP
      have hD : va_D A (w1 h a b cI cJ f g 1 (nI n8) (nI c9) zso znu zty zhd zpa zch zlk zlo zhi zlp zll zlv) := hD
      obtain rfl : r_9 = 1 := hw_8.2.trans (by decide)
      refine lv_if_eq (tgt := 37) hx hb dX1_cut_32 (by decide) (fun c_11 => ?_) (fun c_11 => ?_)
      · skip
        exact absurd c_11 (by decide)
      · skip
        refine lv_iconst (v := 0) hx hb dX1_cut_35 (by decide) ?_
        have hP9 : va_P (dC, dI) vwCl ((fun (_ : Unit) => w1 h a b cI cJ f g 1 (nI n8) (nI c9) zso znu zty zhd zpa zch zlk zlo zhi zlp zll zlv) (())) H := hP
        have hD9 : va_D A ((fun (_ : Unit) => w1 h a b cI cJ f g 1 (nI n8) (nI c9) zso znu zty zhd zpa zch zlk zlo zhi zlp zll zlv) (())) := hD
        exact W.iret (v := 0) hx hb hr (fun t ht hW => ⟨⟨0, (), rfl, trivial, by rw [ht]; exact hP9, va_K.moved hW.alike hK, hD9⟩, hS.F ht⟩) hS.2.2 dX1_cut_36
set_option maxHeartbeats 4000000 in
set_option maxRecDepth 100000 in
theorem c_X1_byteAt (l : Launch) (dC : Nat → ClassId) (dI : Nat → Nat → Nat) (tk tw : Nat) (h a b : Nat) (cI cJ : ClassId) (sz : Nat) (f : Nat → Int32) (g : Nat → Int64) (zt : Int32) (zc : Int32) (zso : Int32) (znu : Int64) (zty : Int32) (zhd : Int32) (zpa : Int64) (zch : Int64) (zlk : Int32) (zlo : Int32) (zhi : Int32) (zlp : Int32) (zll : Int32) (zlv : Int32) (n8 : Nat) (hn8 : n8 ≤ 4096) (j9 : Nat) (hj9 : j9 < n8) : Met l yX1_byteAt wsX1_byteAt ({ frames := 1, cells := 0, slots := 0, locals := 22 }) (va_Pc [.ref h, .int (nI j9)] (pr dC dI (t1 cI cJ) (w1 h a b cI cJ f g zt (nI n8) zc zso znu zty zhd zpa zch zlk zlo zhi zlp zll zlv) sz tk tw)) (va_Qi (fun (r : Int32) (_ : Unit) => r = f j9) (fun (_ : Unit) => po dC dI (t1 cI cJ) (va_A (w1 h a b cI cJ f g zt (nI n8) zc zso znu zty zhd zpa zch zlk zlo zhi zlp zll zlv) sz) (w1 h a b cI cJ f g 0 (nI n8) zc zso znu zty zhd zpa zch zlk zlo zhi zlp zll zlv)) (va_A (w1 h a b cI cJ f g zt (nI n8) zc zso znu zty zhd zpa zch zlk zlo zhi zlp zll zlv) sz)) 0 0 (va_A (w1 h a b cI cJ f g zt (nI n8) zc zso znu zty zhd zpa zch zlk zlo zhi zlp zll zlv) sz) := by
  refine Met.ofW (cc := cX1_byteAt) (maxL := 2) (ret := (some .int)) (by decide) rfl ?_
  intro p e s m args below meth c s₁ Bd hml hv
  obtain ⟨rfl, hsz, hP, hK, hD0, hZ⟩ := hv
  have hx := Bd.exec
  have hb := Bd.bytes
  have hr := Bd.returns
  have hts := atoms_spec (ws := wsX1_byteAt) Bd.pre
  have hown : s.vm.findClass RX1 = some m.cls := findClass_of_methodNamed Bd.named
  have hlocks := Bd.notSynchronized
  subst hsz
  have hD := hD0.self (sz := s.heap.size)
  generalize hAe : va_A (w1 h a b cI cJ f g zt (nI n8) zc zso znu zty zhd zpa zch zlk zlo zhi zlp zll zlv) s.heap.size = A at hD hZ ⊢
  have hA : ∀ q : Nat, s.heap.size ≤ q → A q := fun q h => by rw [← hAe]; exact Or.inr h
  have hS : va_S A s.heap s.heap [] := va_S.rf
  have hP : va_P (dC, dI) vwCl (w1 h a b cI cJ f g zt (nI n8) zc zso znu zty zhd zpa zch zlk zlo zhi zlp zll zlv) s.heap := hP
  have hin0 : ∀ w ∈ wsX10, w ∈ wsX1_byteAt := by decide +kernel
  have fl7 := hts (.fieldLink RX1 7 "MessageReaderModel" "bytes" "[I") (by decide +kernel)
  have fl21 := hts (.fieldLink RX1 21 "MessageReaderModel" "thrown" "I") (by decide +kernel)
  have fl28 := hts (.fieldLink RX1 28 "MessageReaderModel" "size" "I") (by decide +kernel)
  have hl := lv_entry ([.ref h, .int (nI j9)]) (n := 2) (Nat.le_of_ble_eq_true rfl)
  rw [lg_entry_eq]
  generalize (lg_sl ([.ref h, .int (nI j9)]) ++ List.replicate (2 - (lg_sl ([.ref h, .int (nI j9)])).length) Slot.unset).toArray = ls at hl ⊢
  have hl : lv_has ls 2 [(0, .ref h), (1, .int (nI j9))] := hl
  refine lv_aload_n hx hb dX1_byteAt_0 rfl (lv_at hl 0 rfl) ?_
  refine lv_iconst (v := 0) hx hb dX1_byteAt_1 (by decide) ?_
  refine va_put (D := (dC, dI)) (ci := 1) (v := .int 0) (ty := .int) (C := RX1) (T := TX1) (N := 17) hx hb hts hin0 tyX1 tyX1_ok nmX1 hown hK hP hD hS 0 rfl rfl 0 (by decide) fl21 (fun _ h9 => h9) rfl (by decide +kernel) rfl rfl (Nat.le_of_ble_eq_true rfl) dX1_byteAt_2 (fun H locs hP hD hS => ?_)
  have hP : va_P (dC, dI) vwCl (w1 h a b cI cJ f g 0 (nI n8) zc zso znu zty zhd zpa zch zlk zlo zhi zlp zll zlv) H := hP
  have hD : va_D A (w1 h a b cI cJ f g 0 (nI n8) zc zso znu zty zhd zpa zch zlk zlo zhi zlp zll zlv) := hD
  refine lv_aload_n hx hb dX1_byteAt_5 rfl (lv_at hl 0 rfl) ?_
  refine lv_iload_n hx hb dX1_byteAt_6 rfl (lv_at hl 1 rfl) ?_
  refine lv_if_lt (tgt := 18) hx hb dX1_byteAt_7 (by decide) (fun c_1 => ?_) (fun c_1 => ?_)
  · skip
    exact absurd c_1 (nI_pos (by omega))
  · skip
    refine lv_iload_n hx hb dX1_byteAt_10 rfl (lv_at hl 1 rfl) ?_
    refine lv_aload_n hx hb dX1_byteAt_11 rfl (lv_at hl 0 rfl) ?_
    refine va_get (D := (dC, dI)) (ci := 1) (v := .int (nI n8)) (C := RX1) (T := TX1) (N := 17) hx hb hts hin0 hown hK hP 0 rfl rfl 2 (by decide) fl28 (fun _ h9 => h9) rfl dX1_byteAt_12 ?_
    refine lv_icmp_lt (tgt := 22) hx hb dX1_byteAt_15 (by decide) (fun c_2 => ?_) (fun c_2 => ?_)
    · skip
      refine lv_iconst (v := 0) hx hb dX1_byteAt_22 (by decide) ?_
      refine lv_iconst (v := 1) hx hb dX1_byteAt_23 (by decide) ?_
      refine gvi (As := [.int 0, .int 1]) (rest := []) ⟨hx, hb, hml, hown, hts⟩ (c_X1_fails l dC dI tk tw h a b cI cJ _ f g 0 (nI n8) zc zso znu zty zhd zpa zch zlk zlo zhi zlp zll zlv 0 1) (cwV 2 hts gX1_byteAt_X1_fails rfl rfl rfl (by decide +kernel) ⟨Nat.le_of_ble_eq_true rfl, Nat.le_of_ble_eq_true rfl⟩) hK hP hD hS hA hZ (q0 := 0) (ci := 1) rfl rfl rfl rfl hl.1 rfl (Nat.le_of_ble_eq_true rfl) dX1_byteAt_24 ⟨Nat.le_of_ble_eq_true rfl, Nat.le_of_ble_eq_true rfl⟩ (fun r_4 u_5 H locs hw_3 hP hD hS => ?_)
      obtain rfl : u_5 = 0 := hw_3.1.trans (by decide)
      have hP : va_P (dC, dI) vwCl (w1 h a b cI cJ f g 0 (nI n8) zc zso znu zty zhd zpa zch zlk zlo zhi zlp zll zlv) H := hP
      have hD : va_D A (w1 h a b cI cJ f g 0 (nI n8) zc zso znu zty zhd zpa zch zlk zlo zhi zlp zll zlv) := hD
      obtain rfl : r_4 = 0 := hw_3.2.trans (by decide)
      refine lv_if_eq (tgt := 34) hx hb dX1_byteAt_27 (by decide) (fun c_6 => ?_) (fun c_6 => ?_)
      · skip
        refine lv_aload_n hx hb dX1_byteAt_34 rfl (lv_at hl 0 rfl) ?_
        refine va_get (D := (dC, dI)) (ci := 1) (v := .ref a) (C := RX1) (T := TX1) (N := 17) hx hb hts hin0 hown hK hP 0 rfl rfl 1 (by decide) fl7 (fun _ h9 => h9) rfl dX1_byteAt_35 ?_
        refine lv_iload_n hx hb dX1_byteAt_38 rfl (lv_at hl 1 rfl) ?_
        refine va_iald hx hb hK hP 1 0 rfl rfl (vp_in_nI (by omega) (by decide)) dX1_byteAt_39 ?_
        have hP9 : va_P (dC, dI) vwCl ((fun (_ : Unit) => w1 h a b cI cJ f g 0 (nI n8) zc zso znu zty zhd zpa zch zlk zlo zhi zlp zll zlv) (())) H := hP
        have hD9 : va_D A ((fun (_ : Unit) => w1 h a b cI cJ f g 0 (nI n8) zc zso znu zty zhd zpa zch zlk zlo zhi zlp zll zlv) (())) := hD
        exact W.iret (v := f (nI j9).toNatClampNeg) hx hb hr (fun t ht hW => ⟨⟨f (nI j9).toNatClampNeg, (), rfl, (by rw [nI_clamp (by omega)]), by rw [ht]; exact hP9, va_K.moved hW.alike hK, hD9⟩, hS.F ht⟩) hS.2.2 dX1_byteAt_40
      · skip
        exact absurd (by decide) c_6
    · skip
      exact absurd (nI_lt hj9 (by omega)) c_2
set_option maxHeartbeats 4000000 in
set_option maxRecDepth 100000 in
theorem c_X1_byteAt_b (l : Launch) (dC : Nat → ClassId) (dI : Nat → Nat → Nat) (tk tw : Nat) (h a b : Nat) (cI cJ : ClassId) (sz : Nat) (f : Nat → Int32) (g : Nat → Int64) (zt : Int32) (zc : Int32) (zso : Int32) (znu : Int64) (zty : Int32) (zhd : Int32) (zpa : Int64) (zch : Int64) (zlk : Int32) (zlo : Int32) (zhi : Int32) (zlp : Int32) (zll : Int32) (zlv : Int32) (n8 : Nat) (hn8 : n8 ≤ 4096) (i9 : Int32) (hi9 : i9 < 0 ∨ nI n8 ≤ i9) : Met l yX1_byteAt wsX1_byteAt ({ frames := 1, cells := 0, slots := 0, locals := 22 }) (va_Pc [.ref h, .int i9] (pr dC dI (t1 cI cJ) (w1 h a b cI cJ f g zt (nI n8) zc zso znu zty zhd zpa zch zlk zlo zhi zlp zll zlv) sz tk tw)) (va_Qi (fun (r : Int32) (_ : Unit) => True) (fun (_ : Unit) => po dC dI (t1 cI cJ) (va_A (w1 h a b cI cJ f g zt (nI n8) zc zso znu zty zhd zpa zch zlk zlo zhi zlp zll zlv) sz) (w1 h a b cI cJ f g 1 (nI n8) zc zso znu zty zhd zpa zch zlk zlo zhi zlp zll zlv)) (va_A (w1 h a b cI cJ f g zt (nI n8) zc zso znu zty zhd zpa zch zlk zlo zhi zlp zll zlv) sz)) 0 0 (va_A (w1 h a b cI cJ f g zt (nI n8) zc zso znu zty zhd zpa zch zlk zlo zhi zlp zll zlv) sz) := by
  refine Met.ofW (cc := cX1_byteAt) (maxL := 2) (ret := (some .int)) (by decide) rfl ?_
  intro p e s m args below meth c s₁ Bd hml hv
  obtain ⟨rfl, hsz, hP, hK, hD0, hZ⟩ := hv
  have hx := Bd.exec
  have hb := Bd.bytes
  have hr := Bd.returns
  have hts := atoms_spec (ws := wsX1_byteAt) Bd.pre
  have hown : s.vm.findClass RX1 = some m.cls := findClass_of_methodNamed Bd.named
  have hlocks := Bd.notSynchronized
  subst hsz
  have hD := hD0.self (sz := s.heap.size)
  generalize hAe : va_A (w1 h a b cI cJ f g zt (nI n8) zc zso znu zty zhd zpa zch zlk zlo zhi zlp zll zlv) s.heap.size = A at hD hZ ⊢
  have hA : ∀ q : Nat, s.heap.size ≤ q → A q := fun q h => by rw [← hAe]; exact Or.inr h
  have hS : va_S A s.heap s.heap [] := va_S.rf
  have hP : va_P (dC, dI) vwCl (w1 h a b cI cJ f g zt (nI n8) zc zso znu zty zhd zpa zch zlk zlo zhi zlp zll zlv) s.heap := hP
  have hin0 : ∀ w ∈ wsX10, w ∈ wsX1_byteAt := by decide +kernel
  have fl21 := hts (.fieldLink RX1 21 "MessageReaderModel" "thrown" "I") (by decide +kernel)
  have fl28 := hts (.fieldLink RX1 28 "MessageReaderModel" "size" "I") (by decide +kernel)
  have hl := lv_entry ([.ref h, .int i9]) (n := 2) (Nat.le_of_ble_eq_true rfl)
  rw [lg_entry_eq]
  generalize (lg_sl ([.ref h, .int i9]) ++ List.replicate (2 - (lg_sl ([.ref h, .int i9])).length) Slot.unset).toArray = ls at hl ⊢
  have hl : lv_has ls 2 [(0, .ref h), (1, .int i9)] := hl
  refine lv_aload_n hx hb dX1_byteAt_0 rfl (lv_at hl 0 rfl) ?_
  refine lv_iconst (v := 0) hx hb dX1_byteAt_1 (by decide) ?_
  refine va_put (D := (dC, dI)) (ci := 1) (v := .int 0) (ty := .int) (C := RX1) (T := TX1) (N := 17) hx hb hts hin0 tyX1 tyX1_ok nmX1 hown hK hP hD hS 0 rfl rfl 0 (by decide) fl21 (fun _ h9 => h9) rfl (by decide +kernel) rfl rfl (Nat.le_of_ble_eq_true rfl) dX1_byteAt_2 (fun H locs hP hD hS => ?_)
  have hP : va_P (dC, dI) vwCl (w1 h a b cI cJ f g 0 (nI n8) zc zso znu zty zhd zpa zch zlk zlo zhi zlp zll zlv) H := hP
  have hD : va_D A (w1 h a b cI cJ f g 0 (nI n8) zc zso znu zty zhd zpa zch zlk zlo zhi zlp zll zlv) := hD
  refine lv_aload_n hx hb dX1_byteAt_5 rfl (lv_at hl 0 rfl) ?_
  refine lv_iload_n hx hb dX1_byteAt_6 rfl (lv_at hl 1 rfl) ?_
  refine lv_if_lt (tgt := 18) hx hb dX1_byteAt_7 (by decide) (fun c_1 => ?_) (fun c_1 => ?_)
  · skip
    refine lv_iconst (v := 1) hx hb dX1_byteAt_18 (by decide) ?_
    refine lv_goto (tgt := 23) hx hb dX1_byteAt_19 (by decide) ?_
    refine lv_iconst (v := 1) hx hb dX1_byteAt_23 (by decide) ?_
    refine gvi (As := [.int 1, .int 1]) (rest := []) ⟨hx, hb, hml, hown, hts⟩ (c_X1_fails l dC dI tk tw h a b cI cJ _ f g 0 (nI n8) zc zso znu zty zhd zpa zch zlk zlo zhi zlp zll zlv 1 1) (cwV 2 hts gX1_byteAt_X1_fails rfl rfl rfl (by decide +kernel) ⟨Nat.le_of_ble_eq_true rfl, Nat.le_of_ble_eq_true rfl⟩) hK hP hD hS hA hZ (q0 := 0) (ci := 1) rfl rfl rfl rfl hl.1 rfl (Nat.le_of_ble_eq_true rfl) dX1_byteAt_24 ⟨Nat.le_of_ble_eq_true rfl, Nat.le_of_ble_eq_true rfl⟩ (fun r_3 u_4 H locs hw_2 hP hD hS => ?_)
    obtain rfl : u_4 = 1 := hw_2.1.trans (by decide)
    have hP : va_P (dC, dI) vwCl (w1 h a b cI cJ f g 1 (nI n8) zc zso znu zty zhd zpa zch zlk zlo zhi zlp zll zlv) H := hP
    have hD : va_D A (w1 h a b cI cJ f g 1 (nI n8) zc zso znu zty zhd zpa zch zlk zlo zhi zlp zll zlv) := hD
    obtain rfl : r_3 = 1 := hw_2.2.trans (by decide)
    refine lv_if_eq (tgt := 34) hx hb dX1_byteAt_27 (by decide) (fun c_5 => ?_) (fun c_5 => ?_)
    · skip
      exact absurd c_5 (by decide)
    · skip
      refine lv_iconst (v := 0) hx hb dX1_byteAt_30 (by decide) ?_
      refine lv_goto (tgt := 40) hx hb dX1_byteAt_31 (by decide) ?_
      have hP9 : va_P (dC, dI) vwCl ((fun (_ : Unit) => w1 h a b cI cJ f g 1 (nI n8) zc zso znu zty zhd zpa zch zlk zlo zhi zlp zll zlv) (())) H := hP
      have hD9 : va_D A ((fun (_ : Unit) => w1 h a b cI cJ f g 1 (nI n8) zc zso znu zty zhd zpa zch zlk zlo zhi zlp zll zlv) (())) := hD
      exact W.iret (v := 0) hx hb hr (fun t ht hW => ⟨⟨0, (), rfl, trivial, by rw [ht]; exact hP9, va_K.moved hW.alike hK, hD9⟩, hS.F ht⟩) hS.2.2 dX1_byteAt_40
  · skip
    refine lv_iload_n hx hb dX1_byteAt_10 rfl (lv_at hl 1 rfl) ?_
    refine lv_aload_n hx hb dX1_byteAt_11 rfl (lv_at hl 0 rfl) ?_
    refine va_get (D := (dC, dI)) (ci := 1) (v := .int (nI n8)) (C := RX1) (T := TX1) (N := 17) hx hb hts hin0 hown hK hP 0 rfl rfl 2 (by decide) fl28 (fun _ h9 => h9) rfl dX1_byteAt_12 ?_
    refine lv_icmp_lt (tgt := 22) hx hb dX1_byteAt_15 (by decide) (fun c_6 => ?_) (fun c_6 => ?_)
    · skip
      exact absurd hi9 (fun z => z.elim c_1 (fun y => Int32.not_lt.mpr y c_6))
    · skip
      refine lv_iconst (v := 1) hx hb dX1_byteAt_18 (by decide) ?_
      refine lv_goto (tgt := 23) hx hb dX1_byteAt_19 (by decide) ?_
      refine lv_iconst (v := 1) hx hb dX1_byteAt_23 (by decide) ?_
      refine gvi (As := [.int 1, .int 1]) (rest := []) ⟨hx, hb, hml, hown, hts⟩ (c_X1_fails l dC dI tk tw h a b cI cJ _ f g 0 (nI n8) zc zso znu zty zhd zpa zch zlk zlo zhi zlp zll zlv 1 1) (cwV 2 hts gX1_byteAt_X1_fails rfl rfl rfl (by decide +kernel) ⟨Nat.le_of_ble_eq_true rfl, Nat.le_of_ble_eq_true rfl⟩) hK hP hD hS hA hZ (q0 := 0) (ci := 1) rfl rfl rfl rfl hl.1 rfl (Nat.le_of_ble_eq_true rfl) dX1_byteAt_24 ⟨Nat.le_of_ble_eq_true rfl, Nat.le_of_ble_eq_true rfl⟩ (fun r_8 u_9 H locs hw_7 hP hD hS => ?_)
      obtain rfl : u_9 = 1 := hw_7.1.trans (by decide)
      have hP : va_P (dC, dI) vwCl (w1 h a b cI cJ f g 1 (nI n8) zc zso znu zty zhd zpa zch zlk zlo zhi zlp zll zlv) H := hP
      have hD : va_D A (w1 h a b cI cJ f g 1 (nI n8) zc zso znu zty zhd zpa zch zlk zlo zhi zlp zll zlv) := hD
      obtain rfl : r_8 = 1 := hw_7.2.trans (by decide)
      refine lv_if_eq (tgt := 34) hx hb dX1_byteAt_27 (by decide) (fun c_10 => ?_) (fun c_10 => ?_)
      · skip
        exact absurd c_10 (by decide)
      · skip
        refine lv_iconst (v := 0) hx hb dX1_byteAt_30 (by decide) ?_
        refine lv_goto (tgt := 40) hx hb dX1_byteAt_31 (by decide) ?_
        have hP9 : va_P (dC, dI) vwCl ((fun (_ : Unit) => w1 h a b cI cJ f g 1 (nI n8) zc zso znu zty zhd zpa zch zlk zlo zhi zlp zll zlv) (())) H := hP
        have hD9 : va_D A ((fun (_ : Unit) => w1 h a b cI cJ f g 1 (nI n8) zc zso znu zty zhd zpa zch zlk zlo zhi zlp zll zlv) (())) := hD
        exact W.iret (v := 0) hx hb hr (fun t ht hW => ⟨⟨0, (), rfl, trivial, by rw [ht]; exact hP9, va_K.moved hW.alike hK, hD9⟩, hS.F ht⟩) hS.2.2 dX1_byteAt_40
set_option maxHeartbeats 4000000 in
set_option maxRecDepth 100000 in
theorem c_X1_remaining (l : Launch) (dC : Nat → ClassId) (dI : Nat → Nat → Nat) (tk tw : Nat) (h a b : Nat) (cI cJ : ClassId) (sz : Nat) (f : Nat → Int32) (g : Nat → Int64) (zt : Int32) (zs : Int32) (zc : Int32) (zso : Int32) (znu : Int64) (zty : Int32) (zhd : Int32) (zpa : Int64) (zch : Int64) (zlk : Int32) (zlo : Int32) (zhi : Int32) (zlp : Int32) (zll : Int32) (k9 : Nat) (hk9 : k9 ≤ 100) (i9 : Int32) (hi9 : ¬ i9 < 0) : Met l yX1_remaining wsX1_remaining ({ frames := 1, cells := 0, slots := 0, locals := 22 }) (va_Pc [.ref h, .int i9] (pr dC dI (t1 cI cJ) (w1 h a b cI cJ f g zt zs zc zso znu zty zhd zpa zch zlk zlo zhi zlp zll (nI k9)) sz tk tw)) (va_Ql (fun (r : Int64) (_ : Unit) => r = rmS g k9 i9) (fun (_ : Unit) => po dC dI (t1 cI cJ) (va_A (w1 h a b cI cJ f g zt zs zc zso znu zty zhd zpa zch zlk zlo zhi zlp zll (nI k9)) sz) (w1 h a b cI cJ f g 0 zs zc zso znu zty zhd zpa zch zlk zlo zhi zlp zll (nI k9))) (va_A (w1 h a b cI cJ f g zt zs zc zso znu zty zhd zpa zch zlk zlo zhi zlp zll (nI k9)) sz)) 0 0 (va_A (w1 h a b cI cJ f g zt zs zc zso znu zty zhd zpa zch zlk zlo zhi zlp zll (nI k9)) sz) := by
  refine Met.ofW (cc := cX1_remaining) (maxL := 2) (ret := (some .long)) (by decide) rfl ?_
  intro p e s m args below meth c s₁ Bd hml hv
  obtain ⟨rfl, hsz, hP, hK, hD0, hZ⟩ := hv
  have hx := Bd.exec
  have hb := Bd.bytes
  have hr := Bd.returns
  have hts := atoms_spec (ws := wsX1_remaining) Bd.pre
  have hown : s.vm.findClass RX1 = some m.cls := findClass_of_methodNamed Bd.named
  have hlocks := Bd.notSynchronized
  subst hsz
  have hD := hD0.self (sz := s.heap.size)
  generalize hAe : va_A (w1 h a b cI cJ f g zt zs zc zso znu zty zhd zpa zch zlk zlo zhi zlp zll (nI k9)) s.heap.size = A at hD hZ ⊢
  have hA : ∀ q : Nat, s.heap.size ≤ q → A q := fun q h => by rw [← hAe]; exact Or.inr h
  have hS : va_S A s.heap s.heap [] := va_S.rf
  have hP : va_P (dC, dI) vwCl (w1 h a b cI cJ f g zt zs zc zso znu zty zhd zpa zch zlk zlo zhi zlp zll (nI k9)) s.heap := hP
  have hin0 : ∀ w ∈ wsX10, w ∈ wsX1_remaining := by decide +kernel
  have fl17 := hts (.fieldLink RX1 17 "MessageReaderModel" "open" "[J") (by decide +kernel)
  have fl21 := hts (.fieldLink RX1 21 "MessageReaderModel" "thrown" "I") (by decide +kernel)
  have fl90 := hts (.fieldLink RX1 90 "MessageReaderModel" "level" "I") (by decide +kernel)
  have hl := lv_entry ([.ref h, .int i9]) (n := 2) (Nat.le_of_ble_eq_true rfl)
  rw [lg_entry_eq]
  generalize (lg_sl ([.ref h, .int i9]) ++ List.replicate (2 - (lg_sl ([.ref h, .int i9])).length) Slot.unset).toArray = ls at hl ⊢
  have hl : lv_has ls 2 [(0, .ref h), (1, .int i9)] := hl
  refine lv_aload_n hx hb dX1_remaining_0 rfl (lv_at hl 0 rfl) ?_
  refine lv_iconst (v := 0) hx hb dX1_remaining_1 (by decide) ?_
  refine va_put (D := (dC, dI)) (ci := 1) (v := .int 0) (ty := .int) (C := RX1) (T := TX1) (N := 17) hx hb hts hin0 tyX1 tyX1_ok nmX1 hown hK hP hD hS 0 rfl rfl 0 (by decide) fl21 (fun _ h9 => h9) rfl (by decide +kernel) rfl rfl (Nat.le_of_ble_eq_true rfl) dX1_remaining_2 (fun H locs hP hD hS => ?_)
  have hP : va_P (dC, dI) vwCl (w1 h a b cI cJ f g 0 zs zc zso znu zty zhd zpa zch zlk zlo zhi zlp zll (nI k9)) H := hP
  have hD : va_D A (w1 h a b cI cJ f g 0 zs zc zso znu zty zhd zpa zch zlk zlo zhi zlp zll (nI k9)) := hD
  refine lv_aload_n hx hb dX1_remaining_5 rfl (lv_at hl 0 rfl) ?_
  refine lv_iload_n hx hb dX1_remaining_6 rfl (lv_at hl 1 rfl) ?_
  refine lv_if_ge (tgt := 14) hx hb dX1_remaining_7 (by decide) (fun c_1 => ?_) (fun c_1 => ?_)
  · skip
    refine lv_iconst (v := 0) hx hb dX1_remaining_14 (by decide) ?_
    refine lv_iconst (v := 1) hx hb dX1_remaining_15 (by decide) ?_
    refine gvi (As := [.int 0, .int 1]) (rest := []) ⟨hx, hb, hml, hown, hts⟩ (c_X1_fails l dC dI tk tw h a b cI cJ _ f g 0 zs zc zso znu zty zhd zpa zch zlk zlo zhi zlp zll (nI k9) 0 1) (cwV 2 hts gX1_remaining_X1_fails rfl rfl rfl (by decide +kernel) ⟨Nat.le_of_ble_eq_true rfl, Nat.le_of_ble_eq_true rfl⟩) hK hP hD hS hA hZ (q0 := 0) (ci := 1) rfl rfl rfl rfl hl.1 rfl (Nat.le_of_ble_eq_true rfl) dX1_remaining_16 ⟨Nat.le_of_ble_eq_true rfl, Nat.le_of_ble_eq_true rfl⟩ (fun r_3 u_4 H locs hw_2 hP hD hS => ?_)
    obtain rfl : u_4 = 0 := hw_2.1.trans (by decide)
    have hP : va_P (dC, dI) vwCl (w1 h a b cI cJ f g 0 zs zc zso znu zty zhd zpa zch zlk zlo zhi zlp zll (nI k9)) H := hP
    have hD : va_D A (w1 h a b cI cJ f g 0 zs zc zso znu zty zhd zpa zch zlk zlo zhi zlp zll (nI k9)) := hD
    obtain rfl : r_3 = 0 := hw_2.2.trans (by decide)
    refine lv_if_eq (tgt := 24) hx hb dX1_remaining_19 (by decide) (fun c_5 => ?_) (fun c_5 => ?_)
    · skip
      refine lv_iload_n hx hb dX1_remaining_24 rfl (lv_at hl 1 rfl) ?_
      refine lv_aload_n hx hb dX1_remaining_25 rfl (lv_at hl 0 rfl) ?_
      refine va_get (D := (dC, dI)) (ci := 1) (v := .int (nI k9)) (C := RX1) (T := TX1) (N := 17) hx hb hts hin0 hown hK hP 0 rfl rfl 16 (by decide) fl90 (fun _ h9 => h9) rfl dX1_remaining_26 ?_
      refine lv_icmp_lt (tgt := 38) hx hb dX1_remaining_29 (by decide) (fun c_6 => ?_) (fun c_6 => ?_)
      · skip
        obtain ⟨j, hj, ej⟩ := nI_of hi9
        have q7 : i9.toNatClampNeg = j := by rw [ej, nI_clamp hj]
        have q6 : j < k9 := by
          have z := c_6
          rw [ej] at z
          exact (nI_ltI hj (by omega)).mp z
        refine lv_aload_n hx hb dX1_remaining_38 rfl (lv_at hl 0 rfl) ?_
        refine va_get (D := (dC, dI)) (ci := 1) (v := .ref b) (C := RX1) (T := TX1) (N := 17) hx hb hts hin0 hown hK hP 0 rfl rfl 15 (by decide) fl17 (fun _ h9 => h9) rfl dX1_remaining_39 ?_
        refine lv_aload_n hx hb dX1_remaining_42 rfl (lv_at hl 0 rfl) ?_
        refine va_get (D := (dC, dI)) (ci := 1) (v := .int (nI k9)) (C := RX1) (T := TX1) (N := 17) hx hb hts hin0 hown hK hP 0 rfl rfl 16 (by decide) fl90 (fun _ h9 => h9) rfl dX1_remaining_43 ?_
        refine lv_iconst (v := 1) hx hb dX1_remaining_46 (by decide) ?_
        refine lv_isub hx hb dX1_remaining_47 ?_
        refine lv_iload_n hx hb dX1_remaining_48 rfl (lv_at hl 1 rfl) ?_
        refine lv_isub hx hb dX1_remaining_49 ?_
        have e_7 : (((nI k9) - 1) - i9 : Int32) = nI (k9 - 1 - i9.toNatClampNeg) := by rw [q7, ej, show (1 : Int32) = nI 1 from rfl, pk_sub (by omega), pk_sub (by omega)]
        rw [e_7]
        refine va_lald hx hb hK hP 2 1 rfl rfl (vp_in_nI (by omega) (by decide)) dX1_remaining_50 ?_
        have hP9 : va_P (dC, dI) vwCl ((fun (_ : Unit) => w1 h a b cI cJ f g 0 zs zc zso znu zty zhd zpa zch zlk zlo zhi zlp zll (nI k9)) (())) H := hP
        have hD9 : va_D A ((fun (_ : Unit) => w1 h a b cI cJ f g 0 zs zc zso znu zty zhd zpa zch zlk zlo zhi zlp zll (nI k9)) (())) := hD
        exact W.lret (v := g (nI (k9 - 1 - i9.toNatClampNeg)).toNatClampNeg) hx hb hr (fun t ht hW => ⟨⟨g (nI (k9 - 1 - i9.toNatClampNeg)).toNatClampNeg, (), rfl, (by unfold rmS; rw [if_pos c_6]; rw [nI_clamp (by omega)]), by rw [ht]; exact hP9, va_K.moved hW.alike hK, hD9⟩, hS.F ht⟩) hS.2.2 dX1_remaining_51
      · skip
        refine lv_ldc2 (v := -1) hx hb hown (hts (.constantLong RX1 106 (-1)) (by decide +kernel)) dX1_remaining_32 ?_
        refine lv_goto (tgt := 51) hx hb dX1_remaining_35 (by decide) ?_
        have hP9 : va_P (dC, dI) vwCl ((fun (_ : Unit) => w1 h a b cI cJ f g 0 zs zc zso znu zty zhd zpa zch zlk zlo zhi zlp zll (nI k9)) (())) H := hP
        have hD9 : va_D A ((fun (_ : Unit) => w1 h a b cI cJ f g 0 zs zc zso znu zty zhd zpa zch zlk zlo zhi zlp zll (nI k9)) (())) := hD
        exact W.lret (v := -1) hx hb hr (fun t ht hW => ⟨⟨-1, (), rfl, (by unfold rmS; rw [if_neg c_6]), by rw [ht]; exact hP9, va_K.moved hW.alike hK, hD9⟩, hS.F ht⟩) hS.2.2 dX1_remaining_51
    · skip
      exact absurd (by decide) c_5
  · skip
    exact absurd (Int32.not_lt.mp hi9) c_1
set_option maxHeartbeats 4000000 in
set_option maxRecDepth 100000 in
theorem c_X1_remaining_b (l : Launch) (dC : Nat → ClassId) (dI : Nat → Nat → Nat) (tk tw : Nat) (h a b : Nat) (cI cJ : ClassId) (sz : Nat) (f : Nat → Int32) (g : Nat → Int64) (zt : Int32) (zs : Int32) (zc : Int32) (zso : Int32) (znu : Int64) (zty : Int32) (zhd : Int32) (zpa : Int64) (zch : Int64) (zlk : Int32) (zlo : Int32) (zhi : Int32) (zlp : Int32) (zll : Int32) (zlv : Int32) (i9 : Int32) (hi9 : i9 < 0) : Met l yX1_remaining wsX1_remaining ({ frames := 1, cells := 0, slots := 0, locals := 22 }) (va_Pc [.ref h, .int i9] (pr dC dI (t1 cI cJ) (w1 h a b cI cJ f g zt zs zc zso znu zty zhd zpa zch zlk zlo zhi zlp zll zlv) sz tk tw)) (va_Ql (fun (r : Int64) (_ : Unit) => True) (fun (_ : Unit) => po dC dI (t1 cI cJ) (va_A (w1 h a b cI cJ f g zt zs zc zso znu zty zhd zpa zch zlk zlo zhi zlp zll zlv) sz) (w1 h a b cI cJ f g 1 zs zc zso znu zty zhd zpa zch zlk zlo zhi zlp zll zlv)) (va_A (w1 h a b cI cJ f g zt zs zc zso znu zty zhd zpa zch zlk zlo zhi zlp zll zlv) sz)) 0 0 (va_A (w1 h a b cI cJ f g zt zs zc zso znu zty zhd zpa zch zlk zlo zhi zlp zll zlv) sz) := by
  refine Met.ofW (cc := cX1_remaining) (maxL := 2) (ret := (some .long)) (by decide) rfl ?_
  intro p e s m args below meth c s₁ Bd hml hv
  obtain ⟨rfl, hsz, hP, hK, hD0, hZ⟩ := hv
  have hx := Bd.exec
  have hb := Bd.bytes
  have hr := Bd.returns
  have hts := atoms_spec (ws := wsX1_remaining) Bd.pre
  have hown : s.vm.findClass RX1 = some m.cls := findClass_of_methodNamed Bd.named
  have hlocks := Bd.notSynchronized
  subst hsz
  have hD := hD0.self (sz := s.heap.size)
  generalize hAe : va_A (w1 h a b cI cJ f g zt zs zc zso znu zty zhd zpa zch zlk zlo zhi zlp zll zlv) s.heap.size = A at hD hZ ⊢
  have hA : ∀ q : Nat, s.heap.size ≤ q → A q := fun q h => by rw [← hAe]; exact Or.inr h
  have hS : va_S A s.heap s.heap [] := va_S.rf
  have hP : va_P (dC, dI) vwCl (w1 h a b cI cJ f g zt zs zc zso znu zty zhd zpa zch zlk zlo zhi zlp zll zlv) s.heap := hP
  have hin0 : ∀ w ∈ wsX10, w ∈ wsX1_remaining := by decide +kernel
  have fl21 := hts (.fieldLink RX1 21 "MessageReaderModel" "thrown" "I") (by decide +kernel)
  have hl := lv_entry ([.ref h, .int i9]) (n := 2) (Nat.le_of_ble_eq_true rfl)
  rw [lg_entry_eq]
  generalize (lg_sl ([.ref h, .int i9]) ++ List.replicate (2 - (lg_sl ([.ref h, .int i9])).length) Slot.unset).toArray = ls at hl ⊢
  have hl : lv_has ls 2 [(0, .ref h), (1, .int i9)] := hl
  refine lv_aload_n hx hb dX1_remaining_0 rfl (lv_at hl 0 rfl) ?_
  refine lv_iconst (v := 0) hx hb dX1_remaining_1 (by decide) ?_
  refine va_put (D := (dC, dI)) (ci := 1) (v := .int 0) (ty := .int) (C := RX1) (T := TX1) (N := 17) hx hb hts hin0 tyX1 tyX1_ok nmX1 hown hK hP hD hS 0 rfl rfl 0 (by decide) fl21 (fun _ h9 => h9) rfl (by decide +kernel) rfl rfl (Nat.le_of_ble_eq_true rfl) dX1_remaining_2 (fun H locs hP hD hS => ?_)
  have hP : va_P (dC, dI) vwCl (w1 h a b cI cJ f g 0 zs zc zso znu zty zhd zpa zch zlk zlo zhi zlp zll zlv) H := hP
  have hD : va_D A (w1 h a b cI cJ f g 0 zs zc zso znu zty zhd zpa zch zlk zlo zhi zlp zll zlv) := hD
  refine lv_aload_n hx hb dX1_remaining_5 rfl (lv_at hl 0 rfl) ?_
  refine lv_iload_n hx hb dX1_remaining_6 rfl (lv_at hl 1 rfl) ?_
  refine lv_if_ge (tgt := 14) hx hb dX1_remaining_7 (by decide) (fun c_1 => ?_) (fun c_1 => ?_)
  · skip
    exact absurd c_1 (Int32.not_le.mpr hi9)
  · skip
    refine lv_iconst (v := 1) hx hb dX1_remaining_10 (by decide) ?_
    refine lv_goto (tgt := 15) hx hb dX1_remaining_11 (by decide) ?_
    refine lv_iconst (v := 1) hx hb dX1_remaining_15 (by decide) ?_
    refine gvi (As := [.int 1, .int 1]) (rest := []) ⟨hx, hb, hml, hown, hts⟩ (c_X1_fails l dC dI tk tw h a b cI cJ _ f g 0 zs zc zso znu zty zhd zpa zch zlk zlo zhi zlp zll zlv 1 1) (cwV 2 hts gX1_remaining_X1_fails rfl rfl rfl (by decide +kernel) ⟨Nat.le_of_ble_eq_true rfl, Nat.le_of_ble_eq_true rfl⟩) hK hP hD hS hA hZ (q0 := 0) (ci := 1) rfl rfl rfl rfl hl.1 rfl (Nat.le_of_ble_eq_true rfl) dX1_remaining_16 ⟨Nat.le_of_ble_eq_true rfl, Nat.le_of_ble_eq_true rfl⟩ (fun r_3 u_4 H locs hw_2 hP hD hS => ?_)
    obtain rfl : u_4 = 1 := hw_2.1.trans (by decide)
    have hP : va_P (dC, dI) vwCl (w1 h a b cI cJ f g 1 zs zc zso znu zty zhd zpa zch zlk zlo zhi zlp zll zlv) H := hP
    have hD : va_D A (w1 h a b cI cJ f g 1 zs zc zso znu zty zhd zpa zch zlk zlo zhi zlp zll zlv) := hD
    obtain rfl : r_3 = 1 := hw_2.2.trans (by decide)
    refine lv_if_eq (tgt := 24) hx hb dX1_remaining_19 (by decide) (fun c_5 => ?_) (fun c_5 => ?_)
    · skip
      exact absurd c_5 (by decide)
    · skip
      refine lv_lconst (v := 0) hx hb dX1_remaining_22 (by decide) ?_
      have hP9 : va_P (dC, dI) vwCl ((fun (_ : Unit) => w1 h a b cI cJ f g 1 zs zc zso znu zty zhd zpa zch zlk zlo zhi zlp zll zlv) (())) H := hP
      have hD9 : va_D A ((fun (_ : Unit) => w1 h a b cI cJ f g 1 zs zc zso znu zty zhd zpa zch zlk zlo zhi zlp zll zlv) (())) := hD
      exact W.lret (v := 0) hx hb hr (fun t ht hW => ⟨⟨0, (), rfl, trivial, by rw [ht]; exact hP9, va_K.moved hW.alike hK, hD9⟩, hS.F ht⟩) hS.2.2 dX1_remaining_23
