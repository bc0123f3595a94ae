set_option maxHeartbeats 4000000 in
set_option maxRecDepth 100000 in
theorem c_X1_pack_b (l : Launch) (dC : Nat → ClassId) (dI : Nat → Nat → Nat) (tk tw : Nat) (h a b : Nat) (cI cJ : ClassId) (sz : Nat) (f : Nat → Int32) (g : Nat → Int64) (zt : Int32) (zs : Int32) (zc : Int32) (zso : Int32) (znu : Int64) (zty : Int32) (zhd : Int32) (zpa : Int64) (zch : Int64) (zlk : Int32) (zlo : Int32) (zhi : Int32) (zlp : Int32) (zll : Int32) (zlv : Int32) (k9 lo hi : Int32) (hb9 : ¬ (0 < k9 ∧ k9 < 13 ∧ (¬ k9 < 8 → ¬ lo < 0) ∧ (k9 = 12 → ¬ hi < -128 ∧ ¬ 127 < hi))) : Met l yX1_pack wsX1_pack ({ frames := 1, cells := 0, slots := 0, locals := 22 }) (va_Pc [.ref h, .int k9, .int lo, .int hi] (pr dC dI (t1 cI cJ) (w1 h a b cI cJ f g zt zs zc zso znu zty zhd zpa zch zlk zlo zhi zlp zll zlv) sz tk tw)) (va_Qi (fun (r : Int32) (_ : Unit) => True) (fun (_ : Unit) => po dC dI (t1 cI cJ) (va_A (w1 h a b cI cJ f g zt zs zc zso znu zty zhd zpa zch zlk zlo zhi zlp zll zlv) sz) (w1 h a b cI cJ f g 1 zs zc zso znu zty zhd zpa zch zlk zlo zhi zlp zll zlv)) (va_A (w1 h a b cI cJ f g zt zs zc zso znu zty zhd zpa zch zlk zlo zhi zlp zll zlv) sz)) 0 0 (va_A (w1 h a b cI cJ f g zt zs zc zso znu zty zhd zpa zch zlk zlo zhi zlp zll zlv) sz) := by
  refine Met.ofW (cc := cX1_pack) (maxL := 11) (ret := (some .int)) (by decide) rfl ?_
  intro p e s m args below meth c s₁ Bd hml hv
  obtain ⟨rfl, hsz, hP, hK, hD0, hZ⟩ := hv
  have hx := Bd.exec
  have hb := Bd.bytes
  have hr := Bd.returns
  have hts := atoms_spec (ws := wsX1_pack) Bd.pre
  have hown : s.vm.findClass RX1 = some m.cls := findClass_of_methodNamed Bd.named
  have hlocks := Bd.notSynchronized
  subst hsz
  have hD := hD0.self (sz := s.heap.size)
  generalize hAe : va_A (w1 h a b cI cJ f g zt zs zc zso znu zty zhd zpa zch zlk zlo zhi zlp zll zlv) s.heap.size = A at hD hZ ⊢
  have hA : ∀ q : Nat, s.heap.size ≤ q → A q := fun q h => by rw [← hAe]; exact Or.inr h
  have hS : va_S A s.heap s.heap [] := va_S.rf
  have hP : va_P (dC, dI) vwCl (w1 h a b cI cJ f g zt zs zc zso znu zty zhd zpa zch zlk zlo zhi zlp zll zlv) s.heap := hP
  have hin0 : ∀ w ∈ wsX10, w ∈ wsX1_pack := by decide +kernel
  have fl21 := hts (.fieldLink RX1 21 "MessageReaderModel" "thrown" "I") (by decide +kernel)
  have hl := lv_entry ([.ref h, .int k9, .int lo, .int hi]) (n := 11) (Nat.le_of_ble_eq_true rfl)
  rw [lg_entry_eq]
  generalize (lg_sl ([.ref h, .int k9, .int lo, .int hi]) ++ List.replicate (11 - (lg_sl ([.ref h, .int k9, .int lo, .int hi])).length) Slot.unset).toArray = ls at hl ⊢
  have hl : lv_has ls 11 [(0, .ref h), (1, .int k9), (2, .int lo), (3, .int hi)] := hl
  refine lv_aload_n hx hb dX1_pack_0 rfl (lv_at hl 0 rfl) ?_
  refine lv_iconst (v := 0) hx hb dX1_pack_1 (by decide) ?_
  refine va_put (D := (dC, dI)) (ci := 1) (v := .int 0) (ty := .int) (C := RX1) (T := TX1) (N := 17) hx hb hts hin0 tyX1 tyX1_ok nmX1 hown hK hP hD hS 0 rfl rfl 0 (by decide) fl21 (fun _ h9 => h9) rfl (by decide +kernel) rfl rfl (Nat.le_of_ble_eq_true rfl) dX1_pack_2 (fun H locs hP hD hS => ?_)
  have hP : va_P (dC, dI) vwCl (w1 h a b cI cJ f g 0 zs zc zso znu zty zhd zpa zch zlk zlo zhi zlp zll zlv) H := hP
  have hD : va_D A (w1 h a b cI cJ f g 0 zs zc zso znu zty zhd zpa zch zlk zlo zhi zlp zll zlv) := hD
  refine lv_iload_n hx hb dX1_pack_5 rfl (lv_at hl 1 rfl) ?_
  refine lv_if_le (tgt := 47) hx hb dX1_pack_6 (by decide) (fun c_1 => ?_) (fun c_1 => ?_)
  · skip
    refine lv_iconst (v := 0) hx hb dX1_pack_47 (by decide) ?_
    refine lv_istore (lv' := [(4, .int 0), (0, .ref h), (1, .int k9), (2, .int lo), (3, .int hi)]) hx hb dX1_pack_48 hl (by decide) rfl (fun ls hl => ?_)
    refine lv_aload_n hx hb dX1_pack_50 rfl (lv_at hl 1 rfl) ?_
    refine lv_iload hx hb dX1_pack_51 (lv_at hl 0 rfl) ?_
    refine lv_if_ne (tgt := 60) hx hb dX1_pack_53 (by decide) (fun c_2 => ?_) (fun c_2 => ?_)
    · skip
      exact absurd (by decide) c_2
    · skip
      refine lv_iconst (v := 1) hx hb dX1_pack_56 (by decide) ?_
      refine lv_goto (tgt := 61) hx hb dX1_pack_57 (by decide) ?_
      refine lv_iconst (v := 1) hx hb dX1_pack_61 (by decide) ?_
      refine gvi (As := [.int 1, .int 1]) (rest := []) ⟨hx, hb, hml, hown, hts⟩ (c_X1_fails l dC dI tk tw h a b cI cJ _ f g 0 zs zc zso znu zty zhd zpa zch zlk zlo zhi zlp zll zlv 1 1) (cwV 2 hts gX1_pack_X1_fails rfl rfl rfl (by decide +kernel) ⟨Nat.le_of_ble_eq_true rfl, Nat.le_of_ble_eq_true rfl⟩) hK hP hD hS hA hZ (q0 := 0) (ci := 1) rfl rfl rfl rfl hl.1 rfl (Nat.le_of_ble_eq_true rfl) dX1_pack_62 ⟨Nat.le_of_ble_eq_true rfl, Nat.le_of_ble_eq_true rfl⟩ (fun r_4 u_5 H locs hw_3 hP hD hS => ?_)
      obtain rfl : u_5 = 1 := hw_3.1.trans (by decide)
      have hP : va_P (dC, dI) vwCl (w1 h a b cI cJ f g 1 zs zc zso znu zty zhd zpa zch zlk zlo zhi zlp zll zlv) H := hP
      have hD : va_D A (w1 h a b cI cJ f g 1 zs zc zso znu zty zhd zpa zch zlk zlo zhi zlp zll zlv) := hD
      obtain rfl : r_4 = 1 := hw_3.2.trans (by decide)
      refine lv_if_eq (tgt := 70) hx hb dX1_pack_65 (by decide) (fun c_6 => ?_) (fun c_6 => ?_)
      · skip
        exact absurd c_6 (by decide)
      · skip
        refine lv_iconst (v := 0) hx hb dX1_pack_68 (by decide) ?_
        have hP9 : va_P (dC, dI) vwCl ((fun (_ : Unit) => w1 h a b cI cJ f g 1 zs zc zso znu zty zhd zpa zch zlk zlo zhi zlp zll zlv) (())) H := hP
        have hD9 : va_D A ((fun (_ : Unit) => w1 h a b cI cJ f g 1 zs zc zso znu zty zhd zpa zch zlk zlo zhi zlp zll zlv) (())) := hD
        exact W.iret (v := 0) hx hb hr (fun t ht hW => ⟨⟨0, (), rfl, trivial, by rw [ht]; exact hP9, va_K.moved hW.alike hK, hD9⟩, hS.F ht⟩) hS.2.2 dX1_pack_69
  · skip
    refine lv_iload_n hx hb dX1_pack_9 rfl (lv_at hl 1 rfl) ?_
    refine lv_bipush (v := 13) hx hb dX1_pack_10 (by decide) ?_
    refine lv_icmp_ge (tgt := 47) hx hb dX1_pack_12 (by decide) (fun c_7 => ?_) (fun c_7 => ?_)
    · skip
      refine lv_iconst (v := 0) hx hb dX1_pack_47 (by decide) ?_
      refine lv_istore (lv' := [(4, .int 0), (0, .ref h), (1, .int k9), (2, .int lo), (3, .int hi)]) hx hb dX1_pack_48 hl (by decide) rfl (fun ls hl => ?_)
      refine lv_aload_n hx hb dX1_pack_50 rfl (lv_at hl 1 rfl) ?_
      refine lv_iload hx hb dX1_pack_51 (lv_at hl 0 rfl) ?_
      refine lv_if_ne (tgt := 60) hx hb dX1_pack_53 (by decide) (fun c_8 => ?_) (fun c_8 => ?_)
      · skip
        exact absurd (by decide) c_8
      · skip
        refine lv_iconst (v := 1) hx hb dX1_pack_56 (by decide) ?_
        refine lv_goto (tgt := 61) hx hb dX1_pack_57 (by decide) ?_
        refine lv_iconst (v := 1) hx hb dX1_pack_61 (by decide) ?_
        refine gvi (As := [.int 1, .int 1]) (rest := []) ⟨hx, hb, hml, hown, hts⟩ (c_X1_fails l dC dI tk tw h a b cI cJ _ f g 0 zs zc zso znu zty zhd zpa zch zlk zlo zhi zlp zll zlv 1 1) (cwV 2 hts gX1_pack_X1_fails rfl rfl rfl (by decide +kernel) ⟨Nat.le_of_ble_eq_true rfl, Nat.le_of_ble_eq_true rfl⟩) hK hP hD hS hA hZ (q0 := 0) (ci := 1) rfl rfl rfl rfl hl.1 rfl (Nat.le_of_ble_eq_true rfl) dX1_pack_62 ⟨Nat.le_of_ble_eq_true rfl, Nat.le_of_ble_eq_true rfl⟩ (fun r_10 u_11 H locs hw_9 hP hD hS => ?_)
        obtain rfl : u_11 = 1 := hw_9.1.trans (by decide)
        have hP : va_P (dC, dI) vwCl (w1 h a b cI cJ f g 1 zs zc zso znu zty zhd zpa zch zlk zlo zhi zlp zll zlv) H := hP
        have hD : va_D A (w1 h a b cI cJ f g 1 zs zc zso znu zty zhd zpa zch zlk zlo zhi zlp zll zlv) := hD
        obtain rfl : r_10 = 1 := hw_9.2.trans (by decide)
        refine lv_if_eq (tgt := 70) hx hb dX1_pack_65 (by decide) (fun c_12 => ?_) (fun c_12 => ?_)
        · skip
          exact absurd c_12 (by decide)
        · skip
          refine lv_iconst (v := 0) hx hb dX1_pack_68 (by decide) ?_
          have hP9 : va_P (dC, dI) vwCl ((fun (_ : Unit) => w1 h a b cI cJ f g 1 zs zc zso znu zty zhd zpa zch zlk zlo zhi zlp zll zlv) (())) H := hP
          have hD9 : va_D A ((fun (_ : Unit) => w1 h a b cI cJ f g 1 zs zc zso znu zty zhd zpa zch zlk zlo zhi zlp zll zlv) (())) := hD
          exact W.iret (v := 0) hx hb hr (fun t ht hW => ⟨⟨0, (), rfl, trivial, by rw [ht]; exact hP9, va_K.moved hW.alike hK, hD9⟩, hS.F ht⟩) hS.2.2 dX1_pack_69
    · skip
      refine lv_iload_n hx hb dX1_pack_15 rfl (lv_at hl 1 rfl) ?_
      refine lv_bipush (v := 8) hx hb dX1_pack_16 (by decide) ?_
      refine lv_icmp_lt (tgt := 25) hx hb dX1_pack_18 (by decide) (fun c_13 => ?_) (fun c_13 => ?_)
      · skip
        refine lv_iload_n hx hb dX1_pack_25 rfl (lv_at hl 1 rfl) ?_
        refine lv_bipush (v := 12) hx hb dX1_pack_26 (by decide) ?_
        refine lv_icmp_ne (tgt := 43) hx hb dX1_pack_28 (by decide) (fun c_14 => ?_) (fun c_14 => ?_)
        · skip
          exact absurd ⟨Int32.not_le.mp c_1, Int32.not_le.mp c_7, fun z => absurd c_13 z, fun z => absurd z c_14⟩ hb9
        · skip
          refine lv_iload_n hx hb dX1_pack_31 rfl (lv_at hl 3 rfl) ?_
          refine lv_bipush (v := -128) hx hb dX1_pack_32 (by decide) ?_
          refine lv_icmp_lt (tgt := 47) hx hb dX1_pack_34 (by decide) (fun c_15 => ?_) (fun c_15 => ?_)
          · skip
            refine lv_iconst (v := 0) hx hb dX1_pack_47 (by decide) ?_
            refine lv_istore (lv' := [(4, .int 0), (0, .ref h), (1, .int k9), (2, .int lo), (3, .int hi)]) hx hb dX1_pack_48 hl (by decide) rfl (fun ls hl => ?_)
            refine lv_aload_n hx hb dX1_pack_50 rfl (lv_at hl 1 rfl) ?_
            refine lv_iload hx hb dX1_pack_51 (lv_at hl 0 rfl) ?_
            refine lv_if_ne (tgt := 60) hx hb dX1_pack_53 (by decide) (fun c_16 => ?_) (fun c_16 => ?_)
            · skip
              exact absurd (by decide) c_16
            · skip
              refine lv_iconst (v := 1) hx hb dX1_pack_56 (by decide) ?_
              refine lv_goto (tgt := 61) hx hb dX1_pack_57 (by decide) ?_
              refine lv_iconst (v := 1) hx hb dX1_pack_61 (by decide) ?_
              refine gvi (As := [.int 1, .int 1]) (rest := []) ⟨hx, hb, hml, hown, hts⟩ (c_X1_fails l dC dI tk tw h a b cI cJ _ f g 0 zs zc zso znu zty zhd zpa zch zlk zlo zhi zlp zll zlv 1 1) (cwV 2 hts gX1_pack_X1_fails rfl rfl rfl (by decide +kernel) ⟨Nat.le_of_ble_eq_true rfl, Nat.le_of_ble_eq_true rfl⟩) hK hP hD hS hA hZ (q0 := 0) (ci := 1) rfl rfl rfl rfl hl.1 rfl (Nat.le_of_ble_eq_true rfl) dX1_pack_62 ⟨Nat.le_of_ble_eq_true rfl, Nat.le_of_ble_eq_true rfl⟩ (fun r_18 u_19 H locs hw_17 hP hD hS => ?_)
              obtain rfl : u_19 = 1 := hw_17.1.trans (by decide)
              have hP : va_P (dC, dI) vwCl (w1 h a b cI cJ f g 1 zs zc zso znu zty zhd zpa zch zlk zlo zhi zlp zll zlv) H := hP
              have hD : va_D A (w1 h a b cI cJ f g 1 zs zc zso znu zty zhd zpa zch zlk zlo zhi zlp zll zlv) := hD
              obtain rfl : r_18 = 1 := hw_17.2.trans (by decide)
              refine lv_if_eq (tgt := 70) hx hb dX1_pack_65 (by decide) (fun c_20 => ?_) (fun c_20 => ?_)
              · skip
                exact absurd c_20 (by decide)
              · skip
                refine lv_iconst (v := 0) hx hb dX1_pack_68 (by decide) ?_
                have hP9 : va_P (dC, dI) vwCl ((fun (_ : Unit) => w1 h a b cI cJ f g 1 zs zc zso znu zty zhd zpa zch zlk zlo zhi zlp zll zlv) (())) H := hP
                have hD9 : va_D A ((fun (_ : Unit) => w1 h a b cI cJ f g 1 zs zc zso znu zty zhd zpa zch zlk zlo zhi zlp zll zlv) (())) := hD
                exact W.iret (v := 0) hx hb hr (fun t ht hW => ⟨⟨0, (), rfl, trivial, by rw [ht]; exact hP9, va_K.moved hW.alike hK, hD9⟩, hS.F ht⟩) hS.2.2 dX1_pack_69
          · skip
            refine lv_iload_n hx hb dX1_pack_37 rfl (lv_at hl 3 rfl) ?_
            refine lv_bipush (v := 127) hx hb dX1_pack_38 (by decide) ?_
            refine lv_icmp_gt (tgt := 47) hx hb dX1_pack_40 (by decide) (fun c_21 => ?_) (fun c_21 => ?_)
            · skip
              refine lv_iconst (v := 0) hx hb dX1_pack_47 (by decide) ?_
              refine lv_istore (lv' := [(4, .int 0), (0, .ref h), (1, .int k9), (2, .int lo), (3, .int hi)]) hx hb dX1_pack_48 hl (by decide) rfl (fun ls hl => ?_)
              refine lv_aload_n hx hb dX1_pack_50 rfl (lv_at hl 1 rfl) ?_
              refine lv_iload hx hb dX1_pack_51 (lv_at hl 0 rfl) ?_
              refine lv_if_ne (tgt := 60) hx hb dX1_pack_53 (by decide) (fun c_22 => ?_) (fun c_22 => ?_)
              · skip
                exact absurd (by decide) c_22
              · skip
                refine lv_iconst (v := 1) hx hb dX1_pack_56 (by decide) ?_
                refine lv_goto (tgt := 61) hx hb dX1_pack_57 (by decide) ?_
                refine lv_iconst (v := 1) hx hb dX1_pack_61 (by decide) ?_
                refine gvi (As := [.int 1, .int 1]) (rest := []) ⟨hx, hb, hml, hown, hts⟩ (c_X1_fails l dC dI tk tw h a b cI cJ _ f g 0 zs zc zso znu zty zhd zpa zch zlk zlo zhi zlp zll zlv 1 1) (cwV 2 hts gX1_pack_X1_fails rfl rfl rfl (by decide +kernel) ⟨Nat.le_of_ble_eq_true rfl, Nat.le_of_ble_eq_true rfl⟩) hK hP hD hS hA hZ (q0 := 0) (ci := 1) rfl rfl rfl rfl hl.1 rfl (Nat.le_of_ble_eq_true rfl) dX1_pack_62 ⟨Nat.le_of_ble_eq_true rfl, Nat.le_of_ble_eq_true rfl⟩ (fun r_24 u_25 H locs hw_23 hP hD hS => ?_)
                obtain rfl : u_25 = 1 := hw_23.1.trans (by decide)
                have hP : va_P (dC, dI) vwCl (w1 h a b cI cJ f g 1 zs zc zso znu zty zhd zpa zch zlk zlo zhi zlp zll zlv) H := hP
                have hD : va_D A (w1 h a b cI cJ f g 1 zs zc zso znu zty zhd zpa zch zlk zlo zhi zlp zll zlv) := hD
                obtain rfl : r_24 = 1 := hw_23.2.trans (by decide)
                refine lv_if_eq (tgt := 70) hx hb dX1_pack_65 (by decide) (fun c_26 => ?_) (fun c_26 => ?_)
                · skip
                  exact absurd c_26 (by decide)
                · skip
                  refine lv_iconst (v := 0) hx hb dX1_pack_68 (by decide) ?_
                  have hP9 : va_P (dC, dI) vwCl ((fun (_ : Unit) => w1 h a b cI cJ f g 1 zs zc zso znu zty zhd zpa zch zlk zlo zhi zlp zll zlv) (())) H := hP
                  have hD9 : va_D A ((fun (_ : Unit) => w1 h a b cI cJ f g 1 zs zc zso znu zty zhd zpa zch zlk zlo zhi zlp zll zlv) (())) := hD
                  exact W.iret (v := 0) hx hb hr (fun t ht hW => ⟨⟨0, (), rfl, trivial, by rw [ht]; exact hP9, va_K.moved hW.alike hK, hD9⟩, hS.F ht⟩) hS.2.2 dX1_pack_69
            · skip
              exact absurd ⟨Int32.not_le.mp c_1, Int32.not_le.mp c_7, fun z => absurd c_13 z, fun _ => ⟨c_15, c_21⟩⟩ hb9
      · skip
        refine lv_iload_n hx hb dX1_pack_21 rfl (lv_at hl 2 rfl) ?_
        refine lv_if_lt (tgt := 47) hx hb dX1_pack_22 (by decide) (fun c_27 => ?_) (fun c_27 => ?_)
        · skip
          refine lv_iconst (v := 0) hx hb dX1_pack_47 (by decide) ?_
          refine lv_istore (lv' := [(4, .int 0), (0, .ref h), (1, .int k9), (2, .int lo), (3, .int hi)]) hx hb dX1_pack_48 hl (by decide) rfl (fun ls hl => ?_)
          refine lv_aload_n hx hb dX1_pack_50 rfl (lv_at hl 1 rfl) ?_
          refine lv_iload hx hb dX1_pack_51 (lv_at hl 0 rfl) ?_
          refine lv_if_ne (tgt := 60) hx hb dX1_pack_53 (by decide) (fun c_28 => ?_) (fun c_28 => ?_)
          · skip
            exact absurd (by decide) c_28
          · skip
            refine lv_iconst (v := 1) hx hb dX1_pack_56 (by decide) ?_
            refine lv_goto (tgt := 61) hx hb dX1_pack_57 (by decide) ?_
            refine lv_iconst (v := 1) hx hb dX1_pack_61 (by decide) ?_
            refine gvi (As := [.int 1, .int 1]) (rest := []) ⟨hx, hb, hml, hown, hts⟩ (c_X1_fails l dC dI tk tw h a b cI cJ _ f g 0 zs zc zso znu zty zhd zpa zch zlk zlo zhi zlp zll zlv 1 1) (cwV 2 hts gX1_pack_X1_fails rfl rfl rfl (by decide +kernel) ⟨Nat.le_of_ble_eq_true rfl, Nat.le_of_ble_eq_true rfl⟩) hK hP hD hS hA hZ (q0 := 0) (ci := 1) rfl rfl rfl rfl hl.1 rfl (Nat.le_of_ble_eq_true rfl) dX1_pack_62 ⟨Nat.le_of_ble_eq_true rfl, Nat.le_of_ble_eq_true rfl⟩ (fun r_30 u_31 H locs hw_29 hP hD hS => ?_)
            obtain rfl : u_31 = 1 := hw_29.1.trans (by decide)
            have hP : va_P (dC, dI) vwCl (w1 h a b cI cJ f g 1 zs zc zso znu zty zhd zpa zch zlk zlo zhi zlp zll zlv) H := hP
            have hD : va_D A (w1 h a b cI cJ f g 1 zs zc zso znu zty zhd zpa zch zlk zlo zhi zlp zll zlv) := hD
            obtain rfl : r_30 = 1 := hw_29.2.trans (by decide)
            refine lv_if_eq (tgt := 70) hx hb dX1_pack_65 (by decide) (fun c_32 => ?_) (fun c_32 => ?_)
            · skip
              exact absurd c_32 (by decide)
            · skip
              refine lv_iconst (v := 0) hx hb dX1_pack_68 (by decide) ?_
              have hP9 : va_P (dC, dI) vwCl ((fun (_ : Unit) => w1 h a b cI cJ f g 1 zs zc zso znu zty zhd zpa zch zlk zlo zhi zlp zll zlv) (())) H := hP
              have hD9 : va_D A ((fun (_ : Unit) => w1 h a b cI cJ f g 1 zs zc zso znu zty zhd zpa zch zlk zlo zhi zlp zll zlv) (())) := hD
              exact W.iret (v := 0) hx hb hr (fun t ht hW => ⟨⟨0, (), rfl, trivial, by rw [ht]; exact hP9, va_K.moved hW.alike hK, hD9⟩, hS.F ht⟩) hS.2.2 dX1_pack_69
        · skip
          refine lv_iload_n hx hb dX1_pack_25 rfl (lv_at hl 1 rfl) ?_
          refine lv_bipush (v := 12) hx hb dX1_pack_26 (by decide) ?_
          refine lv_icmp_ne (tgt := 43) hx hb dX1_pack_28 (by decide) (fun c_33 => ?_) (fun c_33 => ?_)
          · skip
            exact absurd ⟨Int32.not_le.mp c_1, Int32.not_le.mp c_7, fun _ => c_27, fun z => absurd z c_33⟩ hb9
          · skip
            refine lv_iload_n hx hb dX1_pack_31 rfl (lv_at hl 3 rfl) ?_
            refine lv_bipush (v := -128) hx hb dX1_pack_32 (by decide) ?_
            refine lv_icmp_lt (tgt := 47) hx hb dX1_pack_34 (by decide) (fun c_34 => ?_) (fun c_34 => ?_)
            · skip
              refine lv_iconst (v := 0) hx hb dX1_pack_47 (by decide) ?_
              refine lv_istore (lv' := [(4, .int 0), (0, .ref h), (1, .int k9), (2, .int lo), (3, .int hi)]) hx hb dX1_pack_48 hl (by decide) rfl (fun ls hl => ?_)
              refine lv_aload_n hx hb dX1_pack_50 rfl (lv_at hl 1 rfl) ?_
              refine lv_iload hx hb dX1_pack_51 (lv_at hl 0 rfl) ?_
              refine lv_if_ne (tgt := 60) hx hb dX1_pack_53 (by decide) (fun c_35 => ?_) (fun c_35 => ?_)
              · skip
                exact absurd (by decide) c_35
              · skip
                refine lv_iconst (v := 1) hx hb dX1_pack_56 (by decide) ?_
                refine lv_goto (tgt := 61) hx hb dX1_pack_57 (by decide) ?_
                refine lv_iconst (v := 1) hx hb dX1_pack_61 (by decide) ?_
                refine gvi (As := [.int 1, .int 1]) (rest := []) ⟨hx, hb, hml, hown, hts⟩ (c_X1_fails l dC dI tk tw h a b cI cJ _ f g 0 zs zc zso znu zty zhd zpa zch zlk zlo zhi zlp zll zlv 1 1) (cwV 2 hts gX1_pack_X1_fails rfl rfl rfl (by decide +kernel) ⟨Nat.le_of_ble_eq_true rfl, Nat.le_of_ble_eq_true rfl⟩) hK hP hD hS hA hZ (q0 := 0) (ci := 1) rfl rfl rfl rfl hl.1 rfl (Nat.le_of_ble_eq_true rfl) dX1_pack_62 ⟨Nat.le_of_ble_eq_true rfl, Nat.le_of_ble_eq_true rfl⟩ (fun r_37 u_38 H locs hw_36 hP hD hS => ?_)
                obtain rfl : u_38 = 1 := hw_36.1.trans (by decide)
                have hP : va_P (dC, dI) vwCl (w1 h a b cI cJ f g 1 zs zc zso znu zty zhd zpa zch zlk zlo zhi zlp zll zlv) H := hP
                have hD : va_D A (w1 h a b cI cJ f g 1 zs zc zso znu zty zhd zpa zch zlk zlo zhi zlp zll zlv) := hD
                obtain rfl : r_37 = 1 := hw_36.2.trans (by decide)
                refine lv_if_eq (tgt := 70) hx hb dX1_pack_65 (by decide) (fun c_39 => ?_) (fun c_39 => ?_)
                · skip
                  exact absurd c_39 (by decide)
                · skip
                  refine lv_iconst (v := 0) hx hb dX1_pack_68 (by decide) ?_
                  have hP9 : va_P (dC, dI) vwCl ((fun (_ : Unit) => w1 h a b cI cJ f g 1 zs zc zso znu zty zhd zpa zch zlk zlo zhi zlp zll zlv) (())) H := hP
                  have hD9 : va_D A ((fun (_ : Unit) => w1 h a b cI cJ f g 1 zs zc zso znu zty zhd zpa zch zlk zlo zhi zlp zll zlv) (())) := hD
                  exact W.iret (v := 0) hx hb hr (fun t ht hW => ⟨⟨0, (), rfl, trivial, by rw [ht]; exact hP9, va_K.moved hW.alike hK, hD9⟩, hS.F ht⟩) hS.2.2 dX1_pack_69
            · skip
              refine lv_iload_n hx hb dX1_pack_37 rfl (lv_at hl 3 rfl) ?_
              refine lv_bipush (v := 127) hx hb dX1_pack_38 (by decide) ?_
              refine lv_icmp_gt (tgt := 47) hx hb dX1_pack_40 (by decide) (fun c_40 => ?_) (fun c_40 => ?_)
              · skip
                refine lv_iconst (v := 0) hx hb dX1_pack_47 (by decide) ?_
                refine lv_istore (lv' := [(4, .int 0), (0, .ref h), (1, .int k9), (2, .int lo), (3, .int hi)]) hx hb dX1_pack_48 hl (by decide) rfl (fun ls hl => ?_)
                refine lv_aload_n hx hb dX1_pack_50 rfl (lv_at hl 1 rfl) ?_
                refine lv_iload hx hb dX1_pack_51 (lv_at hl 0 rfl) ?_
                refine lv_if_ne (tgt := 60) hx hb dX1_pack_53 (by decide) (fun c_41 => ?_) (fun c_41 => ?_)
                · skip
                  exact absurd (by decide) c_41
                · skip
                  refine lv_iconst (v := 1) hx hb dX1_pack_56 (by decide) ?_
                  refine lv_goto (tgt := 61) hx hb dX1_pack_57 (by decide) ?_
                  refine lv_iconst (v := 1) hx hb dX1_pack_61 (by decide) ?_
                  refine gvi (As := [.int 1, .int 1]) (rest := []) ⟨hx, hb, hml, hown, hts⟩ (c_X1_fails l dC dI tk tw h a b cI cJ _ f g 0 zs zc zso znu zty zhd zpa zch zlk zlo zhi zlp zll zlv 1 1) (cwV 2 hts gX1_pack_X1_fails rfl rfl rfl (by decide +kernel) ⟨Nat.le_of_ble_eq_true rfl, Nat.le_of_ble_eq_true rfl⟩) hK hP hD hS hA hZ (q0 := 0) (ci := 1) rfl rfl rfl rfl hl.1 rfl (Nat.le_of_ble_eq_true rfl) dX1_pack_62 ⟨Nat.le_of_ble_eq_true rfl, Nat.le_of_ble_eq_true rfl⟩ (fun r_43 u_44 H locs hw_42 hP hD hS => ?_)
                  obtain rfl : u_44 = 1 := hw_42.1.trans (by decide)
                  have hP : va_P (dC, dI) vwCl (w1 h a b cI cJ f g 1 zs zc zso znu zty zhd zpa zch zlk zlo zhi zlp zll zlv) H := hP
                  have hD : va_D A (w1 h a b cI cJ f g 1 zs zc zso znu zty zhd zpa zch zlk zlo zhi zlp zll zlv) := hD
                  obtain rfl : r_43 = 1 := hw_42.2.trans (by decide)
                  refine lv_if_eq (tgt := 70) hx hb dX1_pack_65 (by decide) (fun c_45 => ?_) (fun c_45 => ?_)
                  · skip
                    exact absurd c_45 (by decide)
                  · skip
                    refine lv_iconst (v := 0) hx hb dX1_pack_68 (by decide) ?_
                    have hP9 : va_P (dC, dI) vwCl ((fun (_ : Unit) => w1 h a b cI cJ f g 1 zs zc zso znu zty zhd zpa zch zlk zlo zhi zlp zll zlv) (())) H := hP
                    have hD9 : va_D A ((fun (_ : Unit) => w1 h a b cI cJ f g 1 zs zc zso znu zty zhd zpa zch zlk zlo zhi zlp zll zlv) (())) := hD
                    exact W.iret (v := 0) hx hb hr (fun t ht hW => ⟨⟨0, (), rfl, trivial, by rw [ht]; exact hP9, va_K.moved hW.alike hK, hD9⟩, hS.F ht⟩) hS.2.2 dX1_pack_69
              · skip
                exact absurd ⟨Int32.not_le.mp c_1, Int32.not_le.mp c_7, fun _ => c_27, fun _ => ⟨c_34, c_40⟩⟩ hb9
set_option maxHeartbeats 4000000 in
set_option maxRecDepth 100000 in
theorem c_X0_init (l : Launch) (dC : Nat → ClassId) (dI : Nat → Nat → Nat) (h sz : Nat) : Met l yX0_init wsX0_init ({ frames := 1, cells := 2, slots := 4196, locals := 12 }) (va_Pc [.ref h] (fun U => U.heap.size = sz ∧ va_P (dC, dI) vwCl [(h, .inr (0, [.null, .int 0, .int 0, .int 0, .null, .int 0]))] U.heap ∧ va_K (dC, dI) vwCl [] U ∧ va_D (fun _ => True) [(h, .inr (0, [.null, .int 0, .int 0, .int 0, .null, .int 0]))])) (va_Qv (fun (_ : Nat × Nat × ClassId × ClassId) => True) (fun (u : Nat × Nat × ClassId × ClassId) t => va_P (dC, dI) vwCl (w0 h u.1 u.2.1 u.2.2.1 u.2.2.2 (fun _ => 0) (fun _ => 0) 0 0 (-1) 0) t.heap ∧ va_K (dC, dI) vwCl (t0 u.2.2.1 u.2.2.2) t ∧ va_D (va_A [(h, .inr (0, [.null, .int 0, .int 0, .int 0, .null, .int 0]))] sz) (w0 h u.1 u.2.1 u.2.2.1 u.2.2.2 (fun _ => 0) (fun _ => 0) 0 0 (-1) 0)) (va_A [(h, .inr (0, [.null, .int 0, .int 0, .int 0, .null, .int 0]))] sz)) 2 4196 (va_A [(h, .inr (0, [.null, .int 0, .int 0, .int 0, .null, .int 0]))] sz) := by
  refine Met.ofW (cc := cX0_init) (maxL := 1) (ret := none) (by decide) rfl ?_
  intro p e s m args below meth c s₁ Bd hml hv
  obtain ⟨rfl, hsz, hP, hK, hD0⟩ := hv
  have hx := Bd.exec
  have hb := Bd.bytes
  have hr := Bd.returns
  have hts := atoms_spec (ws := wsX0_init) Bd.pre
  have hown : s.vm.findClass RX0 = some m.cls := findClass_of_methodNamed Bd.named
  have hlocks := Bd.notSynchronized
  have hin : meth.name = "<init>" := (name_of_methodNamed Bd.named Bd.method).1
  subst hsz
  have hD := hD0.self (sz := s.heap.size)
  generalize hAe : va_A [(h, .inr (0, [.null, .int 0, .int 0, .int 0, .null, .int 0]))] s.heap.size = A at hD ⊢
  have hA : ∀ q : Nat, s.heap.size ≤ q → A q := fun q h => by rw [← hAe]; exact Or.inr h
  have hS : va_S A s.heap s.heap [] := va_S.rf
  have hP : va_P (dC, dI) vwCl [(h, .inr (0, [.null, .int 0, .int 0, .int 0, .null, .int 0]))] s.heap := hP
  have hin0 : ∀ w ∈ wsX00, w ∈ wsX0_init := by decide +kernel
  have hl := lv_entry ([.ref h]) (n := 1) (Nat.le_of_ble_eq_true rfl)
  rw [lg_entry_eq]
  generalize (lg_sl ([.ref h]) ++ List.replicate (1 - (lg_sl ([.ref h])).length) Slot.unset).toArray = ls at hl ⊢
  have hl : lv_has ls 1 [(0, .ref h)] := hl
  refine lv_aload_n hx hb dX0_init_0 rfl (lv_at hl 0 rfl) ?_
  refine W.objInit hx hb hown (hts (.methodLink RX0 1 objectInit) (by decide +kernel)) (hts (.instanceMethod objectInit) (by decide +kernel)) (hts _ (List.mem_cons_of_mem _ (List.mem_append_left _ (List.mem_of_getElem? (i := 2) rfl)))) rfl (by rw [hml]; exact hl.1) rfl dX0_init_1 (Nat.le_of_ble_eq_true rfl) (Nat.le_of_ble_eq_true rfl) ?_
  refine W.eq (g2 := F0 m 4 ls []) rfl ?_
  refine lv_aload_n hx hb dX0_init_4 rfl (lv_at hl 0 rfl) ?_
  refine lv_sipush (v := 4096) hx hb dX0_init_5 (by decide) ?_
  refine va_newa (atype := .byte) (ty := .byte) (a0 := (4096, .inl (fun _ => 0))) (N' := 4096) hx hb (hts (.arrayClass .byte) (by decide +kernel)) rfl hK hP hD hS hA (fun _ => rfl) (by decide) (by decide) (by decide) (Nat.le_of_ble_eq_true rfl) (Nat.le_of_ble_eq_true rfl) dX0_init_8 (fun a cB H hK hP hD hS => ?_)
  have hP : va_P (dC, dI) vwCl [(h, .inr (0, [.null, .int 0, .int 0, .int 0, .null, .int 0])), (a, .inl (cB, 4096, .inl (fun _ => 0)))] H := hP
  have hD : va_D A [(h, .inr (0, [.null, .int 0, .int 0, .int 0, .null, .int 0])), (a, .inl (cB, 4096, .inl (fun _ => 0)))] := hD
  refine va_putF (D := (dC, dI)) (ci := 0) (v := .ref a) (ty := .array .byte) (C := RX0) (T := TX0) (N := 6) hx hb hts hin0 tyX0 tyX0_ok nmX0 hown hK hP hD hS 0 rfl rfl 0 (by decide) (hts (.fieldLink RX0 9 "MessageReader" "store" "[B") (by decide +kernel)) (fun _ h9 => h9) rfl hin rfl (by decide +kernel) rfl rfl (Nat.le_of_ble_eq_true rfl) dX0_init_10 (fun H locs hP hD hS => ?_)
  have hP : va_P (dC, dI) vwCl [(h, .inr (0, [.ref a, .int 0, .int 0, .int 0, .null, .int 0])), (a, .inl (cB, 4096, .inl (fun _ => 0)))] H := hP
  have hD : va_D A [(h, .inr (0, [.ref a, .int 0, .int 0, .int 0, .null, .int 0])), (a, .inl (cB, 4096, .inl (fun _ => 0)))] := hD
  refine lv_aload_n hx hb dX0_init_13 rfl (lv_at hl 0 rfl) ?_
  refine lv_iconst (v := 0) hx hb dX0_init_14 (by decide) ?_
  refine va_put (D := (dC, dI)) (ci := 0) (v := .int 0) (ty := .int) (C := RX0) (T := TX0) (N := 6) hx hb hts hin0 tyX0 tyX0_ok nmX0 hown hK hP hD hS 0 rfl rfl 1 (by decide) (hts (.fieldLink RX0 13 "MessageReader" "size" "I") (by decide +kernel)) (fun _ h9 => h9) rfl (by decide +kernel) rfl rfl (Nat.le_of_ble_eq_true rfl) dX0_init_15 (fun H locs hP hD hS => ?_)
  have hP : va_P (dC, dI) vwCl [(h, .inr (0, [.ref a, .int 0, .int 0, .int 0, .null, .int 0])), (a, .inl (cB, 4096, .inl (fun _ => 0)))] H := hP
  have hD : va_D A [(h, .inr (0, [.ref a, .int 0, .int 0, .int 0, .null, .int 0])), (a, .inl (cB, 4096, .inl (fun _ => 0)))] := hD
  refine lv_aload_n hx hb dX0_init_18 rfl (lv_at hl 0 rfl) ?_
  refine lv_iconst (v := 0) hx hb dX0_init_19 (by decide) ?_
  refine va_put (D := (dC, dI)) (ci := 0) (v := .int 0) (ty := .int) (C := RX0) (T := TX0) (N := 6) hx hb hts hin0 tyX0 tyX0_ok nmX0 hown hK hP hD hS 0 rfl rfl 2 (by decide) (hts (.fieldLink RX0 17 "MessageReader" "consumed" "I") (by decide +kernel)) (fun _ h9 => h9) rfl (by decide +kernel) rfl rfl (Nat.le_of_ble_eq_true rfl) dX0_init_20 (fun H locs hP hD hS => ?_)
  have hP : va_P (dC, dI) vwCl [(h, .inr (0, [.ref a, .int 0, .int 0, .int 0, .null, .int 0])), (a, .inl (cB, 4096, .inl (fun _ => 0)))] H := hP
  have hD : va_D A [(h, .inr (0, [.ref a, .int 0, .int 0, .int 0, .null, .int 0])), (a, .inl (cB, 4096, .inl (fun _ => 0)))] := hD
  refine lv_aload_n hx hb dX0_init_23 rfl (lv_at hl 0 rfl) ?_
  refine lv_iconst (v := -1) hx hb dX0_init_24 (by decide) ?_
  refine va_put (D := (dC, dI)) (ci := 0) (v := .int (-1)) (ty := .int) (C := RX0) (T := TX0) (N := 6) hx hb hts hin0 tyX0 tyX0_ok nmX0 hown hK hP hD hS 0 rfl rfl 3 (by decide) (hts (.fieldLink RX0 20 "MessageReader" "given" "I") (by decide +kernel)) (fun _ h9 => h9) rfl (by decide +kernel) rfl rfl (Nat.le_of_ble_eq_true rfl) dX0_init_25 (fun H locs hP hD hS => ?_)
  have hP : va_P (dC, dI) vwCl [(h, .inr (0, [.ref a, .int 0, .int 0, .int (-1), .null, .int 0])), (a, .inl (cB, 4096, .inl (fun _ => 0)))] H := hP
  have hD : va_D A [(h, .inr (0, [.ref a, .int 0, .int 0, .int (-1), .null, .int 0])), (a, .inl (cB, 4096, .inl (fun _ => 0)))] := hD
  refine lv_aload_n hx hb dX0_init_28 rfl (lv_at hl 0 rfl) ?_
  refine lv_bipush (v := 100) hx hb dX0_init_29 (by decide) ?_
  refine va_newa (atype := .long) (ty := .long) (a0 := (100, .inr (.inl (fun _ => 0)))) (N' := 100) hx hb (hts (.arrayClass .long) (by decide +kernel)) rfl hK hP hD hS hA (fun _ => rfl) (by decide) (by decide) (by decide) (Nat.le_of_ble_eq_true rfl) (Nat.le_of_ble_eq_true rfl) dX0_init_31 (fun b cJ H hK hP hD hS => ?_)
  have hP : va_P (dC, dI) vwCl [(h, .inr (0, [.ref a, .int 0, .int 0, .int (-1), .null, .int 0])), (a, .inl (cB, 4096, .inl (fun _ => 0))), (b, .inl (cJ, 100, .inr (.inl (fun _ => 0))))] H := hP
  have hD : va_D A [(h, .inr (0, [.ref a, .int 0, .int 0, .int (-1), .null, .int 0])), (a, .inl (cB, 4096, .inl (fun _ => 0))), (b, .inl (cJ, 100, .inr (.inl (fun _ => 0))))] := hD
  refine va_putF (D := (dC, dI)) (ci := 0) (v := .ref b) (ty := .array .long) (C := RX0) (T := TX0) (N := 6) hx hb hts hin0 tyX0 tyX0_ok nmX0 hown hK hP hD hS 0 rfl rfl 4 (by decide) (hts (.fieldLink RX0 23 "MessageReader" "childrenLeft" "[J") (by decide +kernel)) (fun _ h9 => h9) rfl hin rfl (by decide +kernel) rfl rfl (Nat.le_of_ble_eq_true rfl) dX0_init_33 (fun H locs hP hD hS => ?_)
  have hP : va_P (dC, dI) vwCl [(h, .inr (0, [.ref a, .int 0, .int 0, .int (-1), .ref b, .int 0])), (a, .inl (cB, 4096, .inl (fun _ => 0))), (b, .inl (cJ, 100, .inr (.inl (fun _ => 0))))] H := hP
  have hD : va_D A [(h, .inr (0, [.ref a, .int 0, .int 0, .int (-1), .ref b, .int 0])), (a, .inl (cB, 4096, .inl (fun _ => 0))), (b, .inl (cJ, 100, .inr (.inl (fun _ => 0))))] := hD
  refine lv_aload_n hx hb dX0_init_36 rfl (lv_at hl 0 rfl) ?_
  refine lv_iconst (v := 0) hx hb dX0_init_37 (by decide) ?_
  refine va_put (D := (dC, dI)) (ci := 0) (v := .int 0) (ty := .int) (C := RX0) (T := TX0) (N := 6) hx hb hts hin0 tyX0 tyX0_ok nmX0 hown hK hP hD hS 0 rfl rfl 5 (by decide) (hts (.fieldLink RX0 27 "MessageReader" "open" "I") (by decide +kernel)) (fun _ h9 => h9) rfl (by decide +kernel) rfl rfl (Nat.le_of_ble_eq_true rfl) dX0_init_38 (fun H locs hP hD hS => ?_)
  have hP : va_P (dC, dI) vwCl [(h, .inr (0, [.ref a, .int 0, .int 0, .int (-1), .ref b, .int 0])), (a, .inl (cB, 4096, .inl (fun _ => 0))), (b, .inl (cJ, 100, .inr (.inl (fun _ => 0))))] H := hP
  have hD : va_D A [(h, .inr (0, [.ref a, .int 0, .int 0, .int (-1), .ref b, .int 0])), (a, .inl (cB, 4096, .inl (fun _ => 0))), (b, .inl (cJ, 100, .inr (.inl (fun _ => 0))))] := hD
  refine W.widen (k := 2) (n := 4196) (by omega) (by omega) ?_
  exact W.vret hx hb hr (fun t ht hW => ⟨⟨(a, b, cB, cJ), rfl, trivial, by rw [ht]; exact hP, va_K.moved hW.alike hK, hD⟩, hS.F ht⟩) hS.2.2 dX0_init_41
set_option maxHeartbeats 4000000 in
set_option maxRecDepth 100000 in
theorem c_X1_init (l : Launch) (dC : Nat → ClassId) (dI : Nat → Nat → Nat) (h sz : Nat) : Met l yX1_init wsX1_init ({ frames := 1, cells := 2, slots := 4196, locals := 12 }) (va_Pc [.ref h] (fun U => U.heap.size = sz ∧ va_P (dC, dI) vwCl [(h, .inr (1, [.int 0, .null, .int 0, .int 0, .int 0, .long 0, .int 0, .int 0, .long 0, .long 0, .int 0, .int 0, .int 0, .int 0, .int 0, .null, .int 0]))] U.heap ∧ va_K (dC, dI) vwCl [] U ∧ va_D (fun _ => True) [(h, .inr (1, [.int 0, .null, .int 0, .int 0, .int 0, .long 0, .int 0, .int 0, .long 0, .long 0, .int 0, .int 0, .int 0, .int 0, .int 0, .null, .int 0]))])) (va_Qv (fun (_ : Nat × Nat × ClassId × ClassId) => True) (fun (u : Nat × Nat × ClassId × ClassId) t => va_P (dC, dI) vwCl (w1 h u.1 u.2.1 u.2.2.1 u.2.2.2 (fun _ => 0) (fun _ => 0) 0 0 0 0 0 0 0 0 0 (-1) 0 0 0 0 0) t.heap ∧ va_K (dC, dI) vwCl (t1 u.2.2.1 u.2.2.2) t ∧ va_D (va_A [(h, .inr (1, [.int 0, .null, .int 0, .int 0, .int 0, .long 0, .int 0, .int 0, .long 0, .long 0, .int 0, .int 0, .int 0, .int 0, .int 0, .null, .int 0]))] sz) (w1 h u.1 u.2.1 u.2.2.1 u.2.2.2 (fun _ => 0) (fun _ => 0) 0 0 0 0 0 0 0 0 0 (-1) 0 0 0 0 0)) (va_A [(h, .inr (1, [.int 0, .null, .int 0, .int 0, .int 0, .long 0, .int 0, .int 0, .long 0, .long 0, .int 0, .int 0, .int 0, .int 0, .int 0, .null, .int 0]))] sz)) 2 4196 (va_A [(h, .inr (1, [.int 0, .null, .int 0, .int 0, .int 0, .long 0, .int 0, .int 0, .long 0, .long 0, .int 0, .int 0, .int 0, .int 0, .int 0, .null, .int 0]))] sz) := by
  refine Met.ofW (cc := cX1_init) (maxL := 1) (ret := none) (by decide) rfl ?_
  intro p e s m args below meth c s₁ Bd hml hv
  obtain ⟨rfl, hsz, hP, hK, hD0⟩ := hv
  have hx := Bd.exec
  have hb := Bd.bytes
  have hr := Bd.returns
  have hts := atoms_spec (ws := wsX1_init) Bd.pre
  have hown : s.vm.findClass RX1 = some m.cls := findClass_of_methodNamed Bd.named
  have hlocks := Bd.notSynchronized
  have hin : meth.name = "<init>" := (name_of_methodNamed Bd.named Bd.method).1
  subst hsz
  have hD := hD0.self (sz := s.heap.size)
  generalize hAe : va_A [(h, .inr (1, [.int 0, .null, .int 0, .int 0, .int 0, .long 0, .int 0, .int 0, .long 0, .long 0, .int 0, .int 0, .int 0, .int 0, .int 0, .null, .int 0]))] s.heap.size = A at hD ⊢
  have hA : ∀ q : Nat, s.heap.size ≤ q → A q := fun q h => by rw [← hAe]; exact Or.inr h
  have hS : va_S A s.heap s.heap [] := va_S.rf
  have hP : va_P (dC, dI) vwCl [(h, .inr (1, [.int 0, .null, .int 0, .int 0, .int 0, .long 0, .int 0, .int 0, .long 0, .long 0, .int 0, .int 0, .int 0, .int 0, .int 0, .null, .int 0]))] s.heap := hP
  have hin0 : ∀ w ∈ wsX10, w ∈ wsX1_init := by decide +kernel
  have hl := lv_entry ([.ref h]) (n := 1) (Nat.le_of_ble_eq_true rfl)
  rw [lg_entry_eq]
  generalize (lg_sl ([.ref h]) ++ List.replicate (1 - (lg_sl ([.ref h])).length) Slot.unset).toArray = ls at hl ⊢
  have hl : lv_has ls 1 [(0, .ref h)] := hl
  refine lv_aload_n hx hb dX1_init_0 rfl (lv_at hl 0 rfl) ?_
  refine W.objInit hx hb hown (hts (.methodLink RX1 1 objectInit) (by decide +kernel)) (hts (.instanceMethod objectInit) (by decide +kernel)) (hts _ (List.mem_cons_of_mem _ (List.mem_append_left _ (List.mem_of_getElem? (i := 2) rfl)))) rfl (by rw [hml]; exact hl.1) rfl dX1_init_1 (Nat.le_of_ble_eq_true rfl) (Nat.le_of_ble_eq_true rfl) ?_
  refine W.eq (g2 := F0 m 4 ls []) rfl ?_
  refine lv_aload_n hx hb dX1_init_4 rfl (lv_at hl 0 rfl) ?_
  refine lv_sipush (v := 4096) hx hb dX1_init_5 (by decide) ?_
  refine va_newa (atype := .int) (ty := .int) (a0 := (4096, .inl (fun _ => 0))) (N' := 4096) hx hb (hts (.arrayClass .int) (by decide +kernel)) rfl hK hP hD hS hA (fun _ => rfl) (by decide) (by decide) (by decide) (Nat.le_of_ble_eq_true rfl) (Nat.le_of_ble_eq_true rfl) dX1_init_8 (fun a cI H hK hP hD hS => ?_)
  have hP : va_P (dC, dI) vwCl [(h, .inr (1, [.int 0, .null, .int 0, .int 0, .int 0, .long 0, .int 0, .int 0, .long 0, .long 0, .int 0, .int 0, .int 0, .int 0, .int 0, .null, .int 0])), (a, .inl (cI, 4096, .inl (fun _ => 0)))] H := hP
  have hD : va_D A [(h, .inr (1, [.int 0, .null, .int 0, .int 0, .int 0, .long 0, .int 0, .int 0, .long 0, .long 0, .int 0, .int 0, .int 0, .int 0, .int 0, .null, .int 0])), (a, .inl (cI, 4096, .inl (fun _ => 0)))] := hD
  refine va_putF (D := (dC, dI)) (ci := 1) (v := .ref a) (ty := .array .int) (C := RX1) (T := TX1) (N := 17) hx hb hts hin0 tyX1 tyX1_ok nmX1 hown hK hP hD hS 0 rfl rfl 1 (by decide) (hts (.fieldLink RX1 7 "MessageReaderModel" "bytes" "[I") (by decide +kernel)) (fun _ h9 => h9) rfl hin rfl (by decide +kernel) rfl rfl (Nat.le_of_ble_eq_true rfl) dX1_init_10 (fun H locs hP hD hS => ?_)
  have hP : va_P (dC, dI) vwCl [(h, .inr (1, [.int 0, .ref a, .int 0, .int 0, .int 0, .long 0, .int 0, .int 0, .long 0, .long 0, .int 0, .int 0, .int 0, .int 0, .int 0, .null, .int 0])), (a, .inl (cI, 4096, .inl (fun _ => 0)))] H := hP
  have hD : va_D A [(h, .inr (1, [.int 0, .ref a, .int 0, .int 0, .int 0, .long 0, .int 0, .int 0, .long 0, .long 0, .int 0, .int 0, .int 0, .int 0, .int 0, .null, .int 0])), (a, .inl (cI, 4096, .inl (fun _ => 0)))] := hD
  refine lv_aload_n hx hb dX1_init_13 rfl (lv_at hl 0 rfl) ?_
  refine lv_iconst (v := -1) hx hb dX1_init_14 (by decide) ?_
  refine va_put (D := (dC, dI)) (ci := 1) (v := .int (-1)) (ty := .int) (C := RX1) (T := TX1) (N := 17) hx hb hts hin0 tyX1 tyX1_ok nmX1 hown hK hP hD hS 0 rfl rfl 10 (by decide) (hts (.fieldLink RX1 13 "MessageReaderModel" "lastKind" "I") (by decide +kernel)) (fun _ h9 => h9) rfl (by decide +kernel) rfl rfl (Nat.le_of_ble_eq_true rfl) dX1_init_15 (fun H locs hP hD hS => ?_)
  have hP : va_P (dC, dI) vwCl [(h, .inr (1, [.int 0, .ref a, .int 0, .int 0, .int 0, .long 0, .int 0, .int 0, .long 0, .long 0, .int (-1), .int 0, .int 0, .int 0, .int 0, .null, .int 0])), (a, .inl (cI, 4096, .inl (fun _ => 0)))] H := hP
  have hD : va_D A [(h, .inr (1, [.int 0, .ref a, .int 0, .int 0, .int 0, .long 0, .int 0, .int 0, .long 0, .long 0, .int (-1), .int 0, .int 0, .int 0, .int 0, .null, .int 0])), (a, .inl (cI, 4096, .inl (fun _ => 0)))] := hD
  refine lv_aload_n hx hb dX1_init_18 rfl (lv_at hl 0 rfl) ?_
  refine lv_bipush (v := 100) hx hb dX1_init_19 (by decide) ?_
  refine va_newa (atype := .long) (ty := .long) (a0 := (100, .inr (.inl (fun _ => 0)))) (N' := 100) hx hb (hts (.arrayClass .long) (by decide +kernel)) rfl hK hP hD hS hA (fun _ => rfl) (by decide) (by decide) (by decide) (Nat.le_of_ble_eq_true rfl) (Nat.le_of_ble_eq_true rfl) dX1_init_21 (fun b cJ H hK hP hD hS => ?_)
  have hP : va_P (dC, dI) vwCl [(h, .inr (1, [.int 0, .ref a, .int 0, .int 0, .int 0, .long 0, .int 0, .int 0, .long 0, .long 0, .int (-1), .int 0, .int 0, .int 0, .int 0, .null, .int 0])), (a, .inl (cI, 4096, .inl (fun _ => 0))), (b, .inl (cJ, 100, .inr (.inl (fun _ => 0))))] H := hP
  have hD : va_D A [(h, .inr (1, [.int 0, .ref a, .int 0, .int 0, .int 0, .long 0, .int 0, .int 0, .long 0, .long 0, .int (-1), .int 0, .int 0, .int 0, .int 0, .null, .int 0])), (a, .inl (cI, 4096, .inl (fun _ => 0))), (b, .inl (cJ, 100, .inr (.inl (fun _ => 0))))] := hD
  refine va_putF (D := (dC, dI)) (ci := 1) (v := .ref b) (ty := .array .long) (C := RX1) (T := TX1) (N := 17) hx hb hts hin0 tyX1 tyX1_ok nmX1 hown hK hP hD hS 0 rfl rfl 15 (by decide) (hts (.fieldLink RX1 17 "MessageReaderModel" "open" "[J") (by decide +kernel)) (fun _ h9 => h9) rfl hin rfl (by decide +kernel) rfl rfl (Nat.le_of_ble_eq_true rfl) dX1_init_23 (fun H locs hP hD hS => ?_)
  have hP : va_P (dC, dI) vwCl [(h, .inr (1, [.int 0, .ref a, .int 0, .int 0, .int 0, .long 0, .int 0, .int 0, .long 0, .long 0, .int (-1), .int 0, .int 0, .int 0, .int 0, .ref b, .int 0])), (a, .inl (cI, 4096, .inl (fun _ => 0))), (b, .inl (cJ, 100, .inr (.inl (fun _ => 0))))] H := hP
  have hD : va_D A [(h, .inr (1, [.int 0, .ref a, .int 0, .int 0, .int 0, .long 0, .int 0, .int 0, .long 0, .long 0, .int (-1), .int 0, .int 0, .int 0, .int 0, .ref b, .int 0])), (a, .inl (cI, 4096, .inl (fun _ => 0))), (b, .inl (cJ, 100, .inr (.inl (fun _ => 0))))] := hD
  refine W.widen (k := 2) (n := 4196) (by omega) (by omega) ?_
  exact W.vret hx hb hr (fun t ht hW => ⟨⟨(a, b, cI, cJ), rfl, trivial, by rw [ht]; exact hP, va_K.moved hW.alike hK, hD⟩, hS.F ht⟩) hS.2.2 dX1_init_26
