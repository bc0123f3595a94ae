def hiS (so ty : Int32) (nu : Int64) : Int32 := if so = 12 then ty else if so = 4 then (nu >>> ((32 : Int32).toInt64 &&& 63)).toInt32 else if so = 5 then (nu >>> ((32 : Int32).toInt64 &&& 63)).toInt32 else if so = 7 then (nu >>> ((32 : Int32).toInt64 &&& 63)).toInt32 else 0
set_option maxHeartbeats 4000000 in
set_option maxRecDepth 100000 in
theorem c_X1_give (l : Launch) (dC : Nat → ClassId) (dI : Nat → Nat → Nat) (tk tw : Nat) (h a b : Nat) (cI cJ : ClassId) (sz : Nat) (f : Nat → Int32) (g : Nat → Int64) (zt : Int32) (zs : Int32) (zc : Int32) (zso : Int32) (znu : Int64) (zty : Int32) (zhd : Int32) (zpa : Int64) (zch : Int64) (zlk : Int32) (zlo : Int32) (zhi : Int32) (zlp : Int32) (zll : Int32) (zlv : Int32) (p9 : Int32) : Met l yX1_give wsX1_give ({ frames := 0, cells := 0, slots := 0, locals := 0 }) (va_Pc [.ref h, .int p9] (pr dC dI (t1 cI cJ) (w1 h a b cI cJ f g zt zs zc zso znu zty zhd zpa zch zlk zlo zhi zlp zll zlv) sz tk tw)) (va_Qv (fun (_ : Unit) => True) (fun (_ : Unit) => po dC dI (t1 cI cJ) (va_A (w1 h a b cI cJ f g zt zs zc zso znu zty zhd zpa zch zlk zlo zhi zlp zll zlv) sz) (w1 h a b cI cJ f g zt zs zc zso znu zty zhd zpa zch zso znu.toInt32 (hiS zso zty znu) p9 zpa.toInt32 zlv)) (va_A (w1 h a b cI cJ f g zt zs zc zso znu zty zhd zpa zch zlk zlo zhi zlp zll zlv) sz)) 0 0 (va_A (w1 h a b cI cJ f g zt zs zc zso znu zty zhd zpa zch zlk zlo zhi zlp zll zlv) sz) := by
  refine Met.ofW (cc := cX1_give) (maxL := 2) (ret := none) (by decide) rfl ?_
  intro p e s m args below meth c s₁ Bd hml hv
  obtain ⟨rfl, hsz, hP, hK, hD0, hZ⟩ := hv
  have hx := Bd.exec
  have hb := Bd.bytes
  have hr := Bd.returns
  have hts := atoms_spec (ws := wsX1_give) Bd.pre
  have hown : s.vm.findClass RX1 = some m.cls := findClass_of_methodNamed Bd.named
  have hlocks := Bd.notSynchronized
  subst hsz
  have hD := hD0.self (sz := s.heap.size)
  generalize hAe : va_A (w1 h a b cI cJ f g zt zs zc zso znu zty zhd zpa zch zlk zlo zhi zlp zll zlv) s.heap.size = A at hD hZ ⊢
  have hA : ∀ q : Nat, s.heap.size ≤ q → A q := fun q h => by rw [← hAe]; exact Or.inr h
  have hS : va_S A s.heap s.heap [] := va_S.rf
  have hP : va_P (dC, dI) vwCl (w1 h a b cI cJ f g zt zs zc zso znu zty zhd zpa zch zlk zlo zhi zlp zll zlv) s.heap := hP
  have hin0 : ∀ w ∈ wsX10, w ∈ wsX1_give := by decide +kernel
  have fl13 := hts (.fieldLink RX1 13 "MessageReaderModel" "lastKind" "I") (by decide +kernel)
  have fl47 := hts (.fieldLink RX1 47 "MessageReaderModel" "sort" "I") (by decide +kernel)
  have fl61 := hts (.fieldLink RX1 61 "MessageReaderModel" "number" "J") (by decide +kernel)
  have fl65 := hts (.fieldLink RX1 65 "MessageReaderModel" "type" "I") (by decide +kernel)
  have fl68 := hts (.fieldLink RX1 68 "MessageReaderModel" "payload" "J") (by decide +kernel)
  have fl78 := hts (.fieldLink RX1 78 "MessageReaderModel" "low" "I") (by decide +kernel)
  have fl81 := hts (.fieldLink RX1 81 "MessageReaderModel" "high" "I") (by decide +kernel)
  have fl84 := hts (.fieldLink RX1 84 "MessageReaderModel" "lastPayload" "I") (by decide +kernel)
  have fl87 := hts (.fieldLink RX1 87 "MessageReaderModel" "lastLength" "I") (by decide +kernel)
  have hl := lv_entry ([.ref h, .int p9]) (n := 2) (Nat.le_of_ble_eq_true rfl)
  rw [lg_entry_eq]
  generalize (lg_sl ([.ref h, .int p9]) ++ List.replicate (2 - (lg_sl ([.ref h, .int p9])).length) Slot.unset).toArray = ls at hl ⊢
  have hl : lv_has ls 2 [(0, .ref h), (1, .int p9)] := hl
  refine lv_aload_n hx hb dX1_give_0 rfl (lv_at hl 0 rfl) ?_
  refine lv_aload_n hx hb dX1_give_1 rfl (lv_at hl 0 rfl) ?_
  refine va_get (D := (dC, dI)) (ci := 1) (v := .int zso) (C := RX1) (T := TX1) (N := 17) hx hb hts hin0 hown hK hP 0 rfl rfl 4 (by decide) fl47 (fun _ h9 => h9) rfl dX1_give_2 ?_
  refine va_put (D := (dC, dI)) (ci := 1) (v := .int zso) (ty := .int) (C := RX1) (T := TX1) (N := 17) hx hb hts hin0 tyX1 tyX1_ok nmX1 hown hK hP hD hS 0 rfl rfl 10 (by decide) fl13 (fun _ h9 => h9) rfl (by decide +kernel) rfl rfl (Nat.le_of_ble_eq_true rfl) dX1_give_5 (fun H locs hP hD hS => ?_)
  have hP : va_P (dC, dI) vwCl (w1 h a b cI cJ f g zt zs zc zso znu zty zhd zpa zch zso zlo zhi zlp zll zlv) H := hP
  have hD : va_D A (w1 h a b cI cJ f g zt zs zc zso znu zty zhd zpa zch zso zlo zhi zlp zll zlv) := hD
  refine lv_aload_n hx hb dX1_give_8 rfl (lv_at hl 0 rfl) ?_
  refine lv_aload_n hx hb dX1_give_9 rfl (lv_at hl 0 rfl) ?_
  refine va_get (D := (dC, dI)) (ci := 1) (v := .long znu) (C := RX1) (T := TX1) (N := 17) hx hb hts hin0 hown hK hP 0 rfl rfl 5 (by decide) fl61 (fun _ h9 => h9) rfl dX1_give_10 ?_
  refine lv_l2i hx hb dX1_give_13 rfl ?_
  refine va_put (D := (dC, dI)) (ci := 1) (v := .int znu.toInt32) (ty := .int) (C := RX1) (T := TX1) (N := 17) hx hb hts hin0 tyX1 tyX1_ok nmX1 hown hK hP hD hS 0 rfl rfl 11 (by decide) fl78 (fun _ h9 => h9) rfl (by decide +kernel) rfl rfl (Nat.le_of_ble_eq_true rfl) dX1_give_14 (fun H locs hP hD hS => ?_)
  have hP : va_P (dC, dI) vwCl (w1 h a b cI cJ f g zt zs zc zso znu zty zhd zpa zch zso znu.toInt32 zhi zlp zll zlv) H := hP
  have hD : va_D A (w1 h a b cI cJ f g zt zs zc zso znu zty zhd zpa zch zso znu.toInt32 zhi zlp zll zlv) := hD
  refine lv_aload_n hx hb dX1_give_17 rfl (lv_at hl 0 rfl) ?_
  refine lv_aload_n hx hb dX1_give_18 rfl (lv_at hl 0 rfl) ?_
  refine va_get (D := (dC, dI)) (ci := 1) (v := .int zso) (C := RX1) (T := TX1) (N := 17) hx hb hts hin0 hown hK hP 0 rfl rfl 4 (by decide) fl47 (fun _ h9 => h9) rfl dX1_give_19 ?_
  refine lv_bipush (v := 12) hx hb dX1_give_22 (by decide) ?_
  refine lv_icmp_ne (tgt := 34) hx hb dX1_give_24 (by decide) (fun c_1 => ?_) (fun c_1 => ?_)
  · skip
    refine lv_aload_n hx hb dX1_give_34 rfl (lv_at hl 0 rfl) ?_
    refine va_get (D := (dC, dI)) (ci := 1) (v := .int zso) (C := RX1) (T := TX1) (N := 17) hx hb hts hin0 hown hK hP 0 rfl rfl 4 (by decide) fl47 (fun _ h9 => h9) rfl dX1_give_35 ?_
    refine lv_iconst (v := 4) hx hb dX1_give_38 (by decide) ?_
    refine lv_icmp_eq (tgt := 59) hx hb dX1_give_39 (by decide) (fun c_2 => ?_) (fun c_2 => ?_)
    · skip
      refine lv_aload_n hx hb dX1_give_59 rfl (lv_at hl 0 rfl) ?_
      refine va_get (D := (dC, dI)) (ci := 1) (v := .long znu) (C := RX1) (T := TX1) (N := 17) hx hb hts hin0 hown hK hP 0 rfl rfl 5 (by decide) fl61 (fun _ h9 => h9) rfl dX1_give_60 ?_
      refine lv_bipush (v := 32) hx hb dX1_give_63 (by decide) ?_
      refine lv_lshr hx hb dX1_give_65 rfl ?_
      refine lv_l2i hx hb dX1_give_66 rfl ?_
      refine lv_goto (tgt := 71) hx hb dX1_give_67 (by decide) ?_
      refine va_put (D := (dC, dI)) (ci := 1) (v := .int ((znu >>> ((32 : Int32).toInt64 &&& 63)).toInt32)) (ty := .int) (C := RX1) (T := TX1) (N := 17) hx hb hts hin0 tyX1 tyX1_ok nmX1 hown hK hP hD hS 0 rfl rfl 12 (by decide) fl81 (fun _ h9 => h9) rfl (by decide +kernel) rfl rfl (Nat.le_of_ble_eq_true rfl) dX1_give_71 (fun H locs hP hD hS => ?_)
      have hP : va_P (dC, dI) vwCl (w1 h a b cI cJ f g zt zs zc zso znu zty zhd zpa zch zso znu.toInt32 ((znu >>> ((32 : Int32).toInt64 &&& 63)).toInt32) zlp zll zlv) H := hP
      have hD : va_D A (w1 h a b cI cJ f g zt zs zc zso znu zty zhd zpa zch zso znu.toInt32 ((znu >>> ((32 : Int32).toInt64 &&& 63)).toInt32) zlp zll zlv) := hD
      refine lv_aload_n hx hb dX1_give_74 rfl (lv_at hl 0 rfl) ?_
      refine lv_iload_n hx hb dX1_give_75 rfl (lv_at hl 1 rfl) ?_
      refine va_put (D := (dC, dI)) (ci := 1) (v := .int p9) (ty := .int) (C := RX1) (T := TX1) (N := 17) hx hb hts hin0 tyX1 tyX1_ok nmX1 hown hK hP hD hS 0 rfl rfl 13 (by decide) fl84 (fun _ h9 => h9) rfl (by decide +kernel) rfl rfl (Nat.le_of_ble_eq_true rfl) dX1_give_76 (fun H locs hP hD hS => ?_)
      have hP : va_P (dC, dI) vwCl (w1 h a b cI cJ f g zt zs zc zso znu zty zhd zpa zch zso znu.toInt32 ((znu >>> ((32 : Int32).toInt64 &&& 63)).toInt32) p9 zll zlv) H := hP
      have hD : va_D A (w1 h a b cI cJ f g zt zs zc zso znu zty zhd zpa zch zso znu.toInt32 ((znu >>> ((32 : Int32).toInt64 &&& 63)).toInt32) p9 zll zlv) := hD
      refine lv_aload_n hx hb dX1_give_79 rfl (lv_at hl 0 rfl) ?_
      refine lv_aload_n hx hb dX1_give_80 rfl (lv_at hl 0 rfl) ?_
      refine va_get (D := (dC, dI)) (ci := 1) (v := .long zpa) (C := RX1) (T := TX1) (N := 17) hx hb hts hin0 hown hK hP 0 rfl rfl 8 (by decide) fl68 (fun _ h9 => h9) rfl dX1_give_81 ?_
      refine lv_l2i hx hb dX1_give_84 rfl ?_
      refine va_put (D := (dC, dI)) (ci := 1) (v := .int zpa.toInt32) (ty := .int) (C := RX1) (T := TX1) (N := 17) hx hb hts hin0 tyX1 tyX1_ok nmX1 hown hK hP hD hS 0 rfl rfl 14 (by decide) fl87 (fun _ h9 => h9) rfl (by decide +kernel) rfl rfl (Nat.le_of_ble_eq_true rfl) dX1_give_85 (fun H locs hP hD hS => ?_)
      have hP : va_P (dC, dI) vwCl (w1 h a b cI cJ f g zt zs zc zso znu zty zhd zpa zch zso znu.toInt32 ((znu >>> ((32 : Int32).toInt64 &&& 63)).toInt32) p9 zpa.toInt32 zlv) H := hP
      have hD : va_D A (w1 h a b cI cJ f g zt zs zc zso znu zty zhd zpa zch zso znu.toInt32 ((znu >>> ((32 : Int32).toInt64 &&& 63)).toInt32) p9 zpa.toInt32 zlv) := hD
      have hP9 : va_P (dC, dI) vwCl ((fun (_ : Unit) => w1 h a b cI cJ f g zt zs zc zso znu zty zhd zpa zch zso znu.toInt32 (hiS zso zty znu) p9 zpa.toInt32 zlv) (())) H := by rw [show hiS zso zty znu = (znu >>> ((32 : Int32).toInt64 &&& 63)).toInt32 from by unfold hiS; rw [if_neg c_1, if_pos c_2]]; exact hP
      have hD9 : va_D A ((fun (_ : Unit) => w1 h a b cI cJ f g zt zs zc zso znu zty zhd zpa zch zso znu.toInt32 (hiS zso zty znu) p9 zpa.toInt32 zlv) (())) := by rw [show hiS zso zty znu = (znu >>> ((32 : Int32).toInt64 &&& 63)).toInt32 from by unfold hiS; rw [if_neg c_1, if_pos c_2]]; exact hD
      exact W.vret hx hb hr (fun t ht hW => ⟨⟨(), rfl, trivial, by rw [ht]; exact hP9, va_K.moved hW.alike hK, hD9⟩, hS.F ht⟩) hS.2.2 dX1_give_88
    · skip
      refine lv_aload_n hx hb dX1_give_42 rfl (lv_at hl 0 rfl) ?_
      refine va_get (D := (dC, dI)) (ci := 1) (v := .int zso) (C := RX1) (T := TX1) (N := 17) hx hb hts hin0 hown hK hP 0 rfl rfl 4 (by decide) fl47 (fun _ h9 => h9) rfl dX1_give_43 ?_
      refine lv_iconst (v := 5) hx hb dX1_give_46 (by decide) ?_
      refine lv_icmp_eq (tgt := 59) hx hb dX1_give_47 (by decide) (fun c_3 => ?_) (fun c_3 => ?_)
      · skip
        refine lv_aload_n hx hb dX1_give_59 rfl (lv_at hl 0 rfl) ?_
        refine va_get (D := (dC, dI)) (ci := 1) (v := .long znu) (C := RX1) (T := TX1) (N := 17) hx hb hts hin0 hown hK hP 0 rfl rfl 5 (by decide) fl61 (fun _ h9 => h9) rfl dX1_give_60 ?_
        refine lv_bipush (v := 32) hx hb dX1_give_63 (by decide) ?_
        refine lv_lshr hx hb dX1_give_65 rfl ?_
        refine lv_l2i hx hb dX1_give_66 rfl ?_
        refine lv_goto (tgt := 71) hx hb dX1_give_67 (by decide) ?_
        refine va_put (D := (dC, dI)) (ci := 1) (v := .int ((znu >>> ((32 : Int32).toInt64 &&& 63)).toInt32)) (ty := .int) (C := RX1) (T := TX1) (N := 17) hx hb hts hin0 tyX1 tyX1_ok nmX1 hown hK hP hD hS 0 rfl rfl 12 (by decide) fl81 (fun _ h9 => h9) rfl (by decide +kernel) rfl rfl (Nat.le_of_ble_eq_true rfl) dX1_give_71 (fun H locs hP hD hS => ?_)
        have hP : va_P (dC, dI) vwCl (w1 h a b cI cJ f g zt zs zc zso znu zty zhd zpa zch zso znu.toInt32 ((znu >>> ((32 : Int32).toInt64 &&& 63)).toInt32) zlp zll zlv) H := hP
        have hD : va_D A (w1 h a b cI cJ f g zt zs zc zso znu zty zhd zpa zch zso znu.toInt32 ((znu >>> ((32 : Int32).toInt64 &&& 63)).toInt32) zlp zll zlv) := hD
        refine lv_aload_n hx hb dX1_give_74 rfl (lv_at hl 0 rfl) ?_
        refine lv_iload_n hx hb dX1_give_75 rfl (lv_at hl 1 rfl) ?_
        refine va_put (D := (dC, dI)) (ci := 1) (v := .int p9) (ty := .int) (C := RX1) (T := TX1) (N := 17) hx hb hts hin0 tyX1 tyX1_ok nmX1 hown hK hP hD hS 0 rfl rfl 13 (by decide) fl84 (fun _ h9 => h9) rfl (by decide +kernel) rfl rfl (Nat.le_of_ble_eq_true rfl) dX1_give_76 (fun H locs hP hD hS => ?_)
        have hP : va_P (dC, dI) vwCl (w1 h a b cI cJ f g zt zs zc zso znu zty zhd zpa zch zso znu.toInt32 ((znu >>> ((32 : Int32).toInt64 &&& 63)).toInt32) p9 zll zlv) H := hP
        have hD : va_D A (w1 h a b cI cJ f g zt zs zc zso znu zty zhd zpa zch zso znu.toInt32 ((znu >>> ((32 : Int32).toInt64 &&& 63)).toInt32) p9 zll zlv) := hD
        refine lv_aload_n hx hb dX1_give_79 rfl (lv_at hl 0 rfl) ?_
        refine lv_aload_n hx hb dX1_give_80 rfl (lv_at hl 0 rfl) ?_
        refine va_get (D := (dC, dI)) (ci := 1) (v := .long zpa) (C := RX1) (T := TX1) (N := 17) hx hb hts hin0 hown hK hP 0 rfl rfl 8 (by decide) fl68 (fun _ h9 => h9) rfl dX1_give_81 ?_
        refine lv_l2i hx hb dX1_give_84 rfl ?_
        refine va_put (D := (dC, dI)) (ci := 1) (v := .int zpa.toInt32) (ty := .int) (C := RX1) (T := TX1) (N := 17) hx hb hts hin0 tyX1 tyX1_ok nmX1 hown hK hP hD hS 0 rfl rfl 14 (by decide) fl87 (fun _ h9 => h9) rfl (by decide +kernel) rfl rfl (Nat.le_of_ble_eq_true rfl) dX1_give_85 (fun H locs hP hD hS => ?_)
        have hP : va_P (dC, dI) vwCl (w1 h a b cI cJ f g zt zs zc zso znu zty zhd zpa zch zso znu.toInt32 ((znu >>> ((32 : Int32).toInt64 &&& 63)).toInt32) p9 zpa.toInt32 zlv) H := hP
        have hD : va_D A (w1 h a b cI cJ f g zt zs zc zso znu zty zhd zpa zch zso znu.toInt32 ((znu >>> ((32 : Int32).toInt64 &&& 63)).toInt32) p9 zpa.toInt32 zlv) := hD
        have hP9 : va_P (dC, dI) vwCl ((fun (_ : Unit) => w1 h a b cI cJ f g zt zs zc zso znu zty zhd zpa zch zso znu.toInt32 (hiS zso zty znu) p9 zpa.toInt32 zlv) (())) H := by rw [show hiS zso zty znu = (znu >>> ((32 : Int32).toInt64 &&& 63)).toInt32 from by unfold hiS; rw [if_neg c_1, if_neg c_2, if_pos c_3]]; exact hP
        have hD9 : va_D A ((fun (_ : Unit) => w1 h a b cI cJ f g zt zs zc zso znu zty zhd zpa zch zso znu.toInt32 (hiS zso zty znu) p9 zpa.toInt32 zlv) (())) := by rw [show hiS zso zty znu = (znu >>> ((32 : Int32).toInt64 &&& 63)).toInt32 from by unfold hiS; rw [if_neg c_1, if_neg c_2, if_pos c_3]]; exact hD
        exact W.vret hx hb hr (fun t ht hW => ⟨⟨(), rfl, trivial, by rw [ht]; exact hP9, va_K.moved hW.alike hK, hD9⟩, hS.F ht⟩) hS.2.2 dX1_give_88
      · skip
        refine lv_aload_n hx hb dX1_give_50 rfl (lv_at hl 0 rfl) ?_
        refine va_get (D := (dC, dI)) (ci := 1) (v := .int zso) (C := RX1) (T := TX1) (N := 17) hx hb hts hin0 hown hK hP 0 rfl rfl 4 (by decide) fl47 (fun _ h9 => h9) rfl dX1_give_51 ?_
        refine lv_bipush (v := 7) hx hb dX1_give_54 (by decide) ?_
        refine lv_icmp_ne (tgt := 70) hx hb dX1_give_56 (by decide) (fun c_4 => ?_) (fun c_4 => ?_)
        · skip
          refine lv_iconst (v := 0) hx hb dX1_give_70 (by decide) ?_
          refine va_put (D := (dC, dI)) (ci := 1) (v := .int 0) (ty := .int) (C := RX1) (T := TX1) (N := 17) hx hb hts hin0 tyX1 tyX1_ok nmX1 hown hK hP hD hS 0 rfl rfl 12 (by decide) fl81 (fun _ h9 => h9) rfl (by decide +kernel) rfl rfl (Nat.le_of_ble_eq_true rfl) dX1_give_71 (fun H locs hP hD hS => ?_)
          have hP : va_P (dC, dI) vwCl (w1 h a b cI cJ f g zt zs zc zso znu zty zhd zpa zch zso znu.toInt32 0 zlp zll zlv) H := hP
          have hD : va_D A (w1 h a b cI cJ f g zt zs zc zso znu zty zhd zpa zch zso znu.toInt32 0 zlp zll zlv) := hD
          refine lv_aload_n hx hb dX1_give_74 rfl (lv_at hl 0 rfl) ?_
          refine lv_iload_n hx hb dX1_give_75 rfl (lv_at hl 1 rfl) ?_
          refine va_put (D := (dC, dI)) (ci := 1) (v := .int p9) (ty := .int) (C := RX1) (T := TX1) (N := 17) hx hb hts hin0 tyX1 tyX1_ok nmX1 hown hK hP hD hS 0 rfl rfl 13 (by decide) fl84 (fun _ h9 => h9) rfl (by decide +kernel) rfl rfl (Nat.le_of_ble_eq_true rfl) dX1_give_76 (fun H locs hP hD hS => ?_)
          have hP : va_P (dC, dI) vwCl (w1 h a b cI cJ f g zt zs zc zso znu zty zhd zpa zch zso znu.toInt32 0 p9 zll zlv) H := hP
          have hD : va_D A (w1 h a b cI cJ f g zt zs zc zso znu zty zhd zpa zch zso znu.toInt32 0 p9 zll zlv) := hD
          refine lv_aload_n hx hb dX1_give_79 rfl (lv_at hl 0 rfl) ?_
          refine lv_aload_n hx hb dX1_give_80 rfl (lv_at hl 0 rfl) ?_
          refine va_get (D := (dC, dI)) (ci := 1) (v := .long zpa) (C := RX1) (T := TX1) (N := 17) hx hb hts hin0 hown hK hP 0 rfl rfl 8 (by decide) fl68 (fun _ h9 => h9) rfl dX1_give_81 ?_
          refine lv_l2i hx hb dX1_give_84 rfl ?_
          refine va_put (D := (dC, dI)) (ci := 1) (v := .int zpa.toInt32) (ty := .int) (C := RX1) (T := TX1) (N := 17) hx hb hts hin0 tyX1 tyX1_ok nmX1 hown hK hP hD hS 0 rfl rfl 14 (by decide) fl87 (fun _ h9 => h9) rfl (by decide +kernel) rfl rfl (Nat.le_of_ble_eq_true rfl) dX1_give_85 (fun H locs hP hD hS => ?_)
          have hP : va_P (dC, dI) vwCl (w1 h a b cI cJ f g zt zs zc zso znu zty zhd zpa zch zso znu.toInt32 0 p9 zpa.toInt32 zlv) H := hP
          have hD : va_D A (w1 h a b cI cJ f g zt zs zc zso znu zty zhd zpa zch zso znu.toInt32 0 p9 zpa.toInt32 zlv) := hD
          have hP9 : va_P (dC, dI) vwCl ((fun (_ : Unit) => w1 h a b cI cJ f g zt zs zc zso znu zty zhd zpa zch zso znu.toInt32 (hiS zso zty znu) p9 zpa.toInt32 zlv) (())) H := by rw [show hiS zso zty znu = 0 from by unfold hiS; rw [if_neg c_1, if_neg c_2, if_neg c_3, if_neg c_4]]; exact hP
          have hD9 : va_D A ((fun (_ : Unit) => w1 h a b cI cJ f g zt zs zc zso znu zty zhd zpa zch zso znu.toInt32 (hiS zso zty znu) p9 zpa.toInt32 zlv) (())) := by rw [show hiS zso zty znu = 0 from by unfold hiS; rw [if_neg c_1, if_neg c_2, if_neg c_3, if_neg c_4]]; exact hD
          exact W.vret hx hb hr (fun t ht hW => ⟨⟨(), rfl, trivial, by rw [ht]; exact hP9, va_K.moved hW.alike hK, hD9⟩, hS.F ht⟩) hS.2.2 dX1_give_88
        · skip
          refine lv_aload_n hx hb dX1_give_59 rfl (lv_at hl 0 rfl) ?_
          refine va_get (D := (dC, dI)) (ci := 1) (v := .long znu) (C := RX1) (T := TX1) (N := 17) hx hb hts hin0 hown hK hP 0 rfl rfl 5 (by decide) fl61 (fun _ h9 => h9) rfl dX1_give_60 ?_
          refine lv_bipush (v := 32) hx hb dX1_give_63 (by decide) ?_
          refine lv_lshr hx hb dX1_give_65 rfl ?_
          refine lv_l2i hx hb dX1_give_66 rfl ?_
          refine lv_goto (tgt := 71) hx hb dX1_give_67 (by decide) ?_
          refine va_put (D := (dC, dI)) (ci := 1) (v := .int ((znu >>> ((32 : Int32).toInt64 &&& 63)).toInt32)) (ty := .int) (C := RX1) (T := TX1) (N := 17) hx hb hts hin0 tyX1 tyX1_ok nmX1 hown hK hP hD hS 0 rfl rfl 12 (by decide) fl81 (fun _ h9 => h9) rfl (by decide +kernel) rfl rfl (Nat.le_of_ble_eq_true rfl) dX1_give_71 (fun H locs hP hD hS => ?_)
          have hP : va_P (dC, dI) vwCl (w1 h a b cI cJ f g zt zs zc zso znu zty zhd zpa zch zso znu.toInt32 ((znu >>> ((32 : Int32).toInt64 &&& 63)).toInt32) zlp zll zlv) H := hP
          have hD : va_D A (w1 h a b cI cJ f g zt zs zc zso znu zty zhd zpa zch zso znu.toInt32 ((znu >>> ((32 : Int32).toInt64 &&& 63)).toInt32) zlp zll zlv) := hD
          refine lv_aload_n hx hb dX1_give_74 rfl (lv_at hl 0 rfl) ?_
          refine lv_iload_n hx hb dX1_give_75 rfl (lv_at hl 1 rfl) ?_
          refine va_put (D := (dC, dI)) (ci := 1) (v := .int p9) (ty := .int) (C := RX1) (T := TX1) (N := 17) hx hb hts hin0 tyX1 tyX1_ok nmX1 hown hK hP hD hS 0 rfl rfl 13 (by decide) fl84 (fun _ h9 => h9) rfl (by decide +kernel) rfl rfl (Nat.le_of_ble_eq_true rfl) dX1_give_76 (fun H locs hP hD hS => ?_)
          have hP : va_P (dC, dI) vwCl (w1 h a b cI cJ f g zt zs zc zso znu zty zhd zpa zch zso znu.toInt32 ((znu >>> ((32 : Int32).toInt64 &&& 63)).toInt32) p9 zll zlv) H := hP
          have hD : va_D A (w1 h a b cI cJ f g zt zs zc zso znu zty zhd zpa zch zso znu.toInt32 ((znu >>> ((32 : Int32).toInt64 &&& 63)).toInt32) p9 zll zlv) := hD
          refine lv_aload_n hx hb dX1_give_79 rfl (lv_at hl 0 rfl) ?_
          refine lv_aload_n hx hb dX1_give_80 rfl (lv_at hl 0 rfl) ?_
          refine va_get (D := (dC, dI)) (ci := 1) (v := .long zpa) (C := RX1) (T := TX1) (N := 17) hx hb hts hin0 hown hK hP 0 rfl rfl 8 (by decide) fl68 (fun _ h9 => h9) rfl dX1_give_81 ?_
          refine lv_l2i hx hb dX1_give_84 rfl ?_
          refine va_put (D := (dC, dI)) (ci := 1) (v := .int zpa.toInt32) (ty := .int) (C := RX1) (T := TX1) (N := 17) hx hb hts hin0 tyX1 tyX1_ok nmX1 hown hK hP hD hS 0 rfl rfl 14 (by decide) fl87 (fun _ h9 => h9) rfl (by decide +kernel) rfl rfl (Nat.le_of_ble_eq_true rfl) dX1_give_85 (fun H locs hP hD hS => ?_)
          have hP : va_P (dC, dI) vwCl (w1 h a b cI cJ f g zt zs zc zso znu zty zhd zpa zch zso znu.toInt32 ((znu >>> ((32 : Int32).toInt64 &&& 63)).toInt32) p9 zpa.toInt32 zlv) H := hP
          have hD : va_D A (w1 h a b cI cJ f g zt zs zc zso znu zty zhd zpa zch zso znu.toInt32 ((znu >>> ((32 : Int32).toInt64 &&& 63)).toInt32) p9 zpa.toInt32 zlv) := hD
          have hP9 : va_P (dC, dI) vwCl ((fun (_ : Unit) => w1 h a b cI cJ f g zt zs zc zso znu zty zhd zpa zch zso znu.toInt32 (hiS zso zty znu) p9 zpa.toInt32 zlv) (())) H := by rw [show hiS zso zty znu = (znu >>> ((32 : Int32).toInt64 &&& 63)).toInt32 from by unfold hiS; rw [if_neg c_1, if_neg c_2, if_neg c_3, if_pos c_4]]; exact hP
          have hD9 : va_D A ((fun (_ : Unit) => w1 h a b cI cJ f g zt zs zc zso znu zty zhd zpa zch zso znu.toInt32 (hiS zso zty znu) p9 zpa.toInt32 zlv) (())) := by rw [show hiS zso zty znu = (znu >>> ((32 : Int32).toInt64 &&& 63)).toInt32 from by unfold hiS; rw [if_neg c_1, if_neg c_2, if_neg c_3, if_pos c_4]]; exact hD
          exact W.vret hx hb hr (fun t ht hW => ⟨⟨(), rfl, trivial, by rw [ht]; exact hP9, va_K.moved hW.alike hK, hD9⟩, hS.F ht⟩) hS.2.2 dX1_give_88
  · skip
    refine lv_aload_n hx hb dX1_give_27 rfl (lv_at hl 0 rfl) ?_
    refine va_get (D := (dC, dI)) (ci := 1) (v := .int zty) (C := RX1) (T := TX1) (N := 17) hx hb hts hin0 hown hK hP 0 rfl rfl 6 (by decide) fl65 (fun _ h9 => h9) rfl dX1_give_28 ?_
    refine lv_goto (tgt := 71) hx hb dX1_give_31 (by decide) ?_
    refine va_put (D := (dC, dI)) (ci := 1) (v := .int zty) (ty := .int) (C := RX1) (T := TX1) (N := 17) hx hb hts hin0 tyX1 tyX1_ok nmX1 hown hK hP hD hS 0 rfl rfl 12 (by decide) fl81 (fun _ h9 => h9) rfl (by decide +kernel) rfl rfl (Nat.le_of_ble_eq_true rfl) dX1_give_71 (fun H locs hP hD hS => ?_)
    have hP : va_P (dC, dI) vwCl (w1 h a b cI cJ f g zt zs zc zso znu zty zhd zpa zch zso znu.toInt32 zty zlp zll zlv) H := hP
    have hD : va_D A (w1 h a b cI cJ f g zt zs zc zso znu zty zhd zpa zch zso znu.toInt32 zty zlp zll zlv) := hD
    refine lv_aload_n hx hb dX1_give_74 rfl (lv_at hl 0 rfl) ?_
    refine lv_iload_n hx hb dX1_give_75 rfl (lv_at hl 1 rfl) ?_
    refine va_put (D := (dC, dI)) (ci := 1) (v := .int p9) (ty := .int) (C := RX1) (T := TX1) (N := 17) hx hb hts hin0 tyX1 tyX1_ok nmX1 hown hK hP hD hS 0 rfl rfl 13 (by decide) fl84 (fun _ h9 => h9) rfl (by decide +kernel) rfl rfl (Nat.le_of_ble_eq_true rfl) dX1_give_76 (fun H locs hP hD hS => ?_)
    have hP : va_P (dC, dI) vwCl (w1 h a b cI cJ f g zt zs zc zso znu zty zhd zpa zch zso znu.toInt32 zty p9 zll zlv) H := hP
    have hD : va_D A (w1 h a b cI cJ f g zt zs zc zso znu zty zhd zpa zch zso znu.toInt32 zty p9 zll zlv) := hD
    refine lv_aload_n hx hb dX1_give_79 rfl (lv_at hl 0 rfl) ?_
    refine lv_aload_n hx hb dX1_give_80 rfl (lv_at hl 0 rfl) ?_
    refine va_get (D := (dC, dI)) (ci := 1) (v := .long zpa) (C := RX1) (T := TX1) (N := 17) hx hb hts hin0 hown hK hP 0 rfl rfl 8 (by decide) fl68 (fun _ h9 => h9) rfl dX1_give_81 ?_
    refine lv_l2i hx hb dX1_give_84 rfl ?_
    refine va_put (D := (dC, dI)) (ci := 1) (v := .int zpa.toInt32) (ty := .int) (C := RX1) (T := TX1) (N := 17) hx hb hts hin0 tyX1 tyX1_ok nmX1 hown hK hP hD hS 0 rfl rfl 14 (by decide) fl87 (fun _ h9 => h9) rfl (by decide +kernel) rfl rfl (Nat.le_of_ble_eq_true rfl) dX1_give_85 (fun H locs hP hD hS => ?_)
    have hP : va_P (dC, dI) vwCl (w1 h a b cI cJ f g zt zs zc zso znu zty zhd zpa zch zso znu.toInt32 zty p9 zpa.toInt32 zlv) H := hP
    have hD : va_D A (w1 h a b cI cJ f g zt zs zc zso znu zty zhd zpa zch zso znu.toInt32 zty p9 zpa.toInt32 zlv) := hD
    have hP9 : va_P (dC, dI) vwCl ((fun (_ : Unit) => w1 h a b cI cJ f g zt zs zc zso znu zty zhd zpa zch zso znu.toInt32 (hiS zso zty znu) p9 zpa.toInt32 zlv) (())) H := by rw [show hiS zso zty znu = zty from by unfold hiS; rw [if_pos c_1]]; exact hP
    have hD9 : va_D A ((fun (_ : Unit) => w1 h a b cI cJ f g zt zs zc zso znu zty zhd zpa zch zso znu.toInt32 (hiS zso zty znu) p9 zpa.toInt32 zlv) (())) := by rw [show hiS zso zty znu = zty from by unfold hiS; rw [if_pos c_1]]; exact hD
    exact W.vret hx hb hr (fun t ht hW => ⟨⟨(), rfl, trivial, by rw [ht]; exact hP9, va_K.moved hW.alike hK, hD9⟩, hS.F ht⟩) hS.2.2 dX1_give_88
set_option maxHeartbeats 4000000 in
set_option maxRecDepth 100000 in
theorem c_X1_end (l : Launch) (dC : Nat → ClassId) (dI : Nat → Nat → Nat) (tk tw : Nat) (h a b : Nat) (cI cJ : ClassId) (sz : Nat) (f : Nat → Int32) (g : Nat → Int64) (zt : Int32) (zc : Int32) (zso : Int32) (znu : Int64) (zty : Int32) (zhd : Int32) (zpa : Int64) (zch : Int64) (zlk : Int32) (zlo : Int32) (zhi : Int32) (zlp : Int32) (zll : Int32) (zlv : Int32) (B : Nat → Nat) (hB : ∀ j, B j < 256) (n8 a9 : Nat) (hn8 : n8 ≤ 4096) (h9 : a9 ≤ 4096) (hf9 : ∀ j, j < n8 → f j = nI (B j)) : Met l yX1_end wsX1_end ({ frames := 2, cells := 0, slots := 0, locals := 49 }) (va_Pc [.ref h, .int (nI a9)] (pr dC dI (t1 cI cJ) (w1 h a b cI cJ f g zt (nI n8) zc zso znu zty zhd zpa zch zlk zlo zhi zlp zll zlv) sz tk tw)) (va_Qi (fun (r : Int32) (u : Int32 × Int64 × Int32 × Int32 × Int64 × Int64) => enP B n8 a9 r u) (fun (u : Int32 × Int64 × Int32 × Int32 × Int64 × Int64) => po dC dI (t1 cI cJ) (va_A (w1 h a b cI cJ f g zt (nI n8) zc zso znu zty zhd zpa zch zlk zlo zhi zlp zll zlv) sz) (w1 h a b cI cJ f g zt (nI n8) zc u.1 u.2.1 u.2.2.1 u.2.2.2.1 u.2.2.2.2.1 u.2.2.2.2.2 zlk zlo zhi zlp zll zlv)) (va_A (w1 h a b cI cJ f g zt (nI n8) zc zso znu zty zhd zpa zch zlk zlo zhi zlp zll zlv) sz)) 0 0 (va_A (w1 h a b cI cJ f g zt (nI n8) zc zso znu zty zhd zpa zch zlk zlo zhi zlp zll zlv) sz) := by
  refine Met.ofW (cc := cX1_end) (maxL := 6) (ret := (some .int)) (by decide) rfl ?_
  intro p e s m args below meth c s₁ Bd hml hv
  obtain ⟨rfl, hsz, hP, hK, hD0, hZ⟩ := hv
  have hx := Bd.exec
  have hb := Bd.bytes
  have hr := Bd.returns
  have hts := atoms_spec (ws := wsX1_end) Bd.pre
  have hown : s.vm.findClass RX1 = some m.cls := findClass_of_methodNamed Bd.named
  have hlocks := Bd.notSynchronized
  subst hsz
  have hD := hD0.self (sz := s.heap.size)
  generalize hAe : va_A (w1 h a b cI cJ f g zt (nI n8) zc zso znu zty zhd zpa zch zlk zlo zhi zlp zll zlv) s.heap.size = A at hD hZ ⊢
  have hA : ∀ q : Nat, s.heap.size ≤ q → A q := fun q h => by rw [← hAe]; exact Or.inr h
  have hS : va_S A s.heap s.heap [] := va_S.rf
  have hP : va_P (dC, dI) vwCl (w1 h a b cI cJ f g zt (nI n8) zc zso znu zty zhd zpa zch zlk zlo zhi zlp zll zlv) s.heap := hP
  have hin0 : ∀ w ∈ wsX10, w ∈ wsX1_end := by decide +kernel
  have fl50 := hts (.fieldLink RX1 50 "MessageReaderModel" "head" "I") (by decide +kernel)
  have fl68 := hts (.fieldLink RX1 68 "MessageReaderModel" "payload" "J") (by decide +kernel)
  have fl71 := hts (.fieldLink RX1 71 "MessageReaderModel" "children" "J") (by decide +kernel)
  have hl := lv_entry ([.ref h, .int (nI a9)]) (n := 6) (Nat.le_of_ble_eq_true rfl)
  rw [lg_entry_eq]
  generalize (lg_sl ([.ref h, .int (nI a9)]) ++ List.replicate (6 - (lg_sl ([.ref h, .int (nI a9)])).length) Slot.unset).toArray = ls at hl ⊢
  have hl : lv_has ls 6 [(0, .ref h), (1, .int (nI a9))] := hl
  refine lv_iload_n hx hb dX1_end_0 rfl (lv_at hl 1 rfl) ?_
  refine lv_istore_n (lv' := [(2, .int (nI a9)), (0, .ref h), (1, .int (nI a9))]) hx hb dX1_end_1 rfl hl (by decide) rfl (fun ls hl => ?_)
  refine lv_lconst (v := 1) hx hb dX1_end_2 (by decide) ?_
  refine lv_lstore_n (lv' := [(3, .long 1), (2, .int (nI a9)), (0, .ref h), (1, .int (nI a9))]) hx hb dX1_end_3 rfl hl (by decide) rfl (fun ls hl => ?_)
  have loop4 : ∀ (fz : Nat) (q x D : Nat) (s1 : Int32) (s2 : Int64) (s3 s4 : Int32) (s5 s6 : Int64), q < fz → x ≤ 4096 → D ≤ x * 4294967296 + 1 → enI B n8 a9 q x D (s1, s2, s3, s4, s5, s6) → ∀ (H : Heap) (locs : List Loc), va_P (dC, dI) vwCl (w1 h a b cI cJ f g zt (nI n8) zc s1 s2 s3 s4 s5 s6 zlk zlo zhi zlp zll zlv) H → va_D A (w1 h a b cI cJ f g zt (nI n8) zc s1 s2 s3 s4 s5 s6 zlk zlo zhi zlp zll zlv) → va_S A s.heap H locs → ∀ ls : Array Slot, lv_has ls 6 [(0, .ref h), (1, .int (nI a9)), (2, .int (nI x)), (3, .long (lN D))] → W p l e (headSpec wsX1_end ({ frames := 2, cells := 0, slots := 0, locals := 49 })).room s m ([.ref h, .int (nI a9)]).toArray below meth c H locs 0 0 (MQ below (va_Qi (fun (r : Int32) (u : Int32 × Int64 × Int32 × Int32 × Int64 × Int64) => enP B n8 a9 r u) (fun (u : Int32 × Int64 × Int32 × Int32 × Int64 × Int64) => po dC dI (t1 cI cJ) A (w1 h a b cI cJ f g zt (nI n8) zc u.1 u.2.1 u.2.2.1 u.2.2.2.1 u.2.2.2.2.1 u.2.2.2.2.2 zlk zlo zhi zlp zll zlv)) A) ([.ref h, .int (nI a9)]).toArray s 0 0 A) (F0 m 4 ls []) := by
    intro fz
    induction fz with
    | zero =>
      intro q x D s1 s2 s3 s4 s5 s6 hq hx9 hD9 hI H locs hP hD hS ls hl
      exact absurd hq (Nat.not_lt_zero _)
    | succ fz ih =>
      intro q x D s1 s2 s3 s4 s5 s6 hq hx9 hD9 hI H locs hP hD hS ls hl
      refine lv_lload_n hx hb dX1_end_4 rfl (lv_at hl 3 rfl) ?_
      refine lv_lconst (v := 0) hx hb dX1_end_5 (by decide) ?_
      refine W.lcmp hx hb dX1_end_6 ?_
      refine lv_if_le (tgt := 50) hx hb dX1_end_7 (by decide) (fun c_1 => ?_) (fun c_1 => ?_)
      · skip
        have c_1 := (lg_cmp_le (lN D) (0 : Int64)).mp c_1
        have hD0 : D = 0 := by
          have z := c_1
          rw [show (0 : Int64) = lN 0 from rfl, pk_lLE (by omega) (by decide)] at z
          omega
        refine lv_iload_n hx hb dX1_end_50 rfl (lv_at hl 2 rfl) ?_
        have hP9 : va_P (dC, dI) vwCl ((fun (u : Int32 × Int64 × Int32 × Int32 × Int64 × Int64) => w1 h a b cI cJ f g zt (nI n8) zc u.1 u.2.1 u.2.2.1 u.2.2.2.1 u.2.2.2.2.1 u.2.2.2.2.2 zlk zlo zhi zlp zll zlv) ((s1, s2, s3, s4, s5, s6))) H := hP
        have hD9 : va_D A ((fun (u : Int32 × Int64 × Int32 × Int32 × Int64 × Int64) => w1 h a b cI cJ f g zt (nI n8) zc u.1 u.2.1 u.2.2.1 u.2.2.2.1 u.2.2.2.2.1 u.2.2.2.2.2 zlk zlo zhi zlp zll zlv) ((s1, s2, s3, s4, s5, s6))) := hD
        exact W.iret (v := nI x) hx hb hr (fun t ht hW => ⟨⟨nI x, (s1, s2, s3, s4, s5, s6), rfl, (by rw [hD0] at hI; exact en_zero hB hn8 h9 hI), by rw [ht]; exact hP9, va_K.moved hW.alike hK, hD9⟩, hS.F ht⟩) hS.2.2 dX1_end_51
      · skip
        have c_1 := (not_congr (lg_cmp_le (lN D) (0 : Int64))).mp c_1
        have hD1 : 1 ≤ D := by
          rcases Nat.eq_zero_or_pos D with y | y
          · exact absurd (by rw [y]; decide) c_1
          · exact y
        obtain ⟨hw1, hw2, hw3⟩ := enI_pos hI hD1
        obtain ⟨t, rfl⟩ : ∃ t, q = t + 1 := ⟨q - 1, by omega⟩
        refine lv_aload_n hx hb dX1_end_10 rfl (lv_at hl 0 rfl) ?_
        refine lv_iload_n hx hb dX1_end_11 rfl (lv_at hl 2 rfl) ?_
        refine gvi (As := [.int (nI x)]) (rest := []) ⟨hx, hb, hml, hown, hts⟩ (c_X1_look l dC dI tk tw h a b cI cJ _ f g zt zc s1 s2 s3 s4 s5 s6 zlk zlo zhi zlp zll zlv B hB n8 x hn8 hx9 hf9) (cwV 1 hts gX1_end_X1_look rfl rfl rfl (by decide +kernel) ⟨Nat.le_of_ble_eq_true rfl, Nat.le_of_ble_eq_true rfl⟩) hK hP hD hS hA hZ (q0 := 0) (ci := 1) rfl rfl rfl rfl hl.1 rfl (Nat.le_of_ble_eq_true rfl) dX1_end_12 ⟨Nat.le_of_ble_eq_true rfl, Nat.le_of_ble_eq_true rfl⟩ (fun r_3 u_4 H locs hw_2 hP hD hS => ?_)
        obtain ⟨so1, nu1, ty1, hd1, pa1, ch1⟩ := u_4
        have hP : va_P (dC, dI) vwCl (w1 h a b cI cJ f g zt (nI n8) zc so1 nu1 ty1 hd1 pa1 ch1 zlk zlo zhi zlp zll zlv) H := hP
        have hD : va_D A (w1 h a b cI cJ f g zt (nI n8) zc so1 nu1 ty1 hd1 pa1 ch1 zlk zlo zhi zlp zll zlv) := hD
        refine lv_istore (lv' := [(5, .int r_3), (0, .ref h), (1, .int (nI a9)), (2, .int (nI x)), (3, .long (lN D))]) hx hb dX1_end_15 hl (by decide) rfl (fun ls hl => ?_)
        refine lv_iload hx hb dX1_end_17 (lv_at hl 0 rfl) ?_
        refine lv_if_eq (tgt := 25) hx hb dX1_end_19 (by decide) (fun c_5 => ?_) (fun c_5 => ?_)
        · skip
          obtain ⟨p1, p2⟩ := loP_ok hw_2 c_5
          have p2 : so1 = nI (kd (B x)) ∧ nu1 = nv B x ∧ (kd (B x) = 12 → ty1 = tyS B x) ∧ hd1 = nI (hd (B x)) ∧ pa1 = paL B x ∧ ch1 = ch B x := p2
          obtain ⟨p3, p4, p5, p6, p7, p8⟩ := id p2
          have q2 := nx_eq hB hn8 hx9 p1
          obtain ⟨C, hC, eC⟩ := ch_nat hB hn8 hx9 p1
          have e8 : ch1 = lN C := p8.trans eC
          have e7 : nI x + (hd1 + pa1.toInt32) = nI (nx B x) := by rw [p6, p7, paL32 hB hn8 hx9 p1, ← q2.1, Int32.add_assoc]
          have e9 : lN D + (ch1 - 1) = lN (D + C - 1) := by rw [e8]; exact lN_dec hD1
          have z9 := en_step (u := (so1, nu1, ty1, hd1, pa1, ch1)) hB hn8 hx9 p1 hw1 hw3 eC hC hD1 p2 hD9
          refine lv_iload_n hx hb dX1_end_25 rfl (lv_at hl 3 rfl) ?_
          refine lv_aload_n hx hb dX1_end_26 rfl (lv_at hl 1 rfl) ?_
          refine va_get (D := (dC, dI)) (ci := 1) (v := .int hd1) (C := RX1) (T := TX1) (N := 17) hx hb hts hin0 hown hK hP 0 rfl rfl 7 (by decide) fl50 (fun _ h9 => h9) rfl dX1_end_27 ?_
          refine lv_aload_n hx hb dX1_end_30 rfl (lv_at hl 1 rfl) ?_
          refine va_get (D := (dC, dI)) (ci := 1) (v := .long pa1) (C := RX1) (T := TX1) (N := 17) hx hb hts hin0 hown hK hP 0 rfl rfl 8 (by decide) fl68 (fun _ h9 => h9) rfl dX1_end_31 ?_
          refine lv_l2i hx hb dX1_end_34 rfl ?_
          refine lv_iadd hx hb dX1_end_35 ?_
          refine lv_iadd hx hb dX1_end_36 ?_
          have e_6 : ((nI x) + (hd1 + pa1.toInt32) : Int32) = nI (nx B x) := e7
          rw [e_6]
          refine lv_istore_n (lv' := [(2, .int (nI (nx B x))), (5, .int r_3), (0, .ref h), (1, .int (nI a9)), (3, .long (lN D))]) hx hb dX1_end_37 rfl hl (by decide) rfl (fun ls hl => ?_)
          refine lv_lload_n hx hb dX1_end_38 rfl (lv_at hl 4 rfl) ?_
          refine lv_aload_n hx hb dX1_end_39 rfl (lv_at hl 2 rfl) ?_
          refine va_get (D := (dC, dI)) (ci := 1) (v := .long ch1) (C := RX1) (T := TX1) (N := 17) hx hb hts hin0 hown hK hP 0 rfl rfl 9 (by decide) fl71 (fun _ h9 => h9) rfl dX1_end_40 ?_
          refine lv_lconst (v := 1) hx hb dX1_end_43 (by decide) ?_
          refine lv_lsub hx hb dX1_end_44 ?_
          refine lv_ladd hx hb dX1_end_45 ?_
          have e_7 : ((lN D) + (ch1 - 1) : Int64) = lN (D + C - 1) := e9
          rw [e_7]
          refine lv_lstore_n (lv' := [(3, .long (lN (D + C - 1))), (2, .int (nI (nx B x))), (5, .int r_3), (0, .ref h), (1, .int (nI a9))]) hx hb dX1_end_46 rfl hl (by decide) rfl (fun ls hl => ?_)
          refine lv_goto (tgt := 4) hx hb dX1_end_47 (by decide) ?_
          exact ih t (nx B x) (D + C - 1) _ _ _ _ _ _ (by omega) (by have := q2.2.1; omega) (by have := q2.2.2.1; omega) z9 _ _ hP hD hS ls (lv_sub hl [3, 4, 1, 0] rfl)
        · skip
          refine lv_iload hx hb dX1_end_22 (lv_at hl 0 rfl) ?_
          have hP9 : va_P (dC, dI) vwCl ((fun (u : Int32 × Int64 × Int32 × Int32 × Int64 × Int64) => w1 h a b cI cJ f g zt (nI n8) zc u.1 u.2.1 u.2.2.1 u.2.2.2.1 u.2.2.2.2.1 u.2.2.2.2.2 zlk zlo zhi zlp zll zlv) ((so1, nu1, ty1, hd1, pa1, ch1))) H := hP
          have hD9 : va_D A ((fun (u : Int32 × Int64 × Int32 × Int32 × Int64 × Int64) => w1 h a b cI cJ f g zt (nI n8) zc u.1 u.2.1 u.2.2.1 u.2.2.2.1 u.2.2.2.2.1 u.2.2.2.2.2 zlk zlo zhi zlp zll zlv) ((so1, nu1, ty1, hd1, pa1, ch1))) := hD
          exact W.iret (v := r_3) hx hb hr (fun t ht hW => ⟨⟨r_3, (so1, nu1, ty1, hd1, pa1, ch1), rfl, (en_neg hw3 hw_2 c_5), by rw [ht]; exact hP9, va_K.moved hW.alike hK, hD9⟩, hS.F ht⟩) hS.2.2 dX1_end_24
  exact loop4 (4097 + 1) 4097 a9 1 _ _ _ _ _ _ (by omega) h9 (by omega) (Or.inl ⟨Nat.le_refl 1, by omega, by omega, rfl⟩) _ _ hP hD hS ls (lv_sub hl [2, 3, 1, 0] rfl)
set_option maxHeartbeats 4000000 in
set_option maxRecDepth 100000 in
theorem c_X1_payload (l : Launch) (dC : Nat → ClassId) (dI : Nat → Nat → Nat) (tk tw : Nat) (h a b : Nat) (cI cJ : ClassId) (sz : Nat) (f : Nat → Int32) (g : Nat → Int64) (zt : Int32) (zs : Int32) (zc : Int32) (zso : Int32) (znu : Int64) (zty : Int32) (zhd : Int32) (zpa : Int64) (zch : Int64) (zlk : Int32) (zlo : Int32) (zhi : Int32) (zlv : Int32) (p9 v9 : Nat) (h9 : p9 + v9 ≤ 4096) (i9 : Int32) : Met l yX1_payload wsX1_payload ({ frames := 0, cells := 0, slots := 0, locals := 0 }) (va_Pc [.ref h, .int i9] (pr dC dI (t1 cI cJ) (w1 h a b cI cJ f g zt zs zc zso znu zty zhd zpa zch zlk zlo zhi (nI p9) (nI v9) zlv) sz tk tw)) (va_Qi (fun (r : Int32) (_ : Unit) => r = (if i9 < 0 then -1 else if i9 < nI v9 then f (p9 + i9.toNatClampNeg) else -1)) (fun (_ : Unit) => po dC dI (t1 cI cJ) (va_A (w1 h a b cI cJ f g zt zs zc zso znu zty zhd zpa zch zlk zlo zhi (nI p9) (nI v9) zlv) sz) (w1 h a b cI cJ f g 0 zs zc zso znu zty zhd zpa zch zlk zlo zhi (nI p9) (nI v9) zlv)) (va_A (w1 h a b cI cJ f g zt zs zc zso znu zty zhd zpa zch zlk zlo zhi (nI p9) (nI v9) zlv) sz)) 0 0 (va_A (w1 h a b cI cJ f g zt zs zc zso znu zty zhd zpa zch zlk zlo zhi (nI p9) (nI v9) zlv) sz) := by
  refine Met.ofW (cc := cX1_payload) (maxL := 2) (ret := (some .int)) (by decide) rfl ?_
  intro p e s m args below meth c s₁ Bd hml hv
  obtain ⟨rfl, hsz, hP, hK, hD0, hZ⟩ := hv
  have hx := Bd.exec
  have hb := Bd.bytes
  have hr := Bd.returns
  have hts := atoms_spec (ws := wsX1_payload) Bd.pre
  have hown : s.vm.findClass RX1 = some m.cls := findClass_of_methodNamed Bd.named
  have hlocks := Bd.notSynchronized
  subst hsz
  have hD := hD0.self (sz := s.heap.size)
  generalize hAe : va_A (w1 h a b cI cJ f g zt zs zc zso znu zty zhd zpa zch zlk zlo zhi (nI p9) (nI v9) zlv) s.heap.size = A at hD hZ ⊢
  have hA : ∀ q : Nat, s.heap.size ≤ q → A q := fun q h => by rw [← hAe]; exact Or.inr h
  have hS : va_S A s.heap s.heap [] := va_S.rf
  have hP : va_P (dC, dI) vwCl (w1 h a b cI cJ f g zt zs zc zso znu zty zhd zpa zch zlk zlo zhi (nI p9) (nI v9) zlv) s.heap := hP
  have hin0 : ∀ w ∈ wsX10, w ∈ wsX1_payload := by decide +kernel
  have fl7 := hts (.fieldLink RX1 7 "MessageReaderModel" "bytes" "[I") (by decide +kernel)
  have fl21 := hts (.fieldLink RX1 21 "MessageReaderModel" "thrown" "I") (by decide +kernel)
  have fl84 := hts (.fieldLink RX1 84 "MessageReaderModel" "lastPayload" "I") (by decide +kernel)
  have fl87 := hts (.fieldLink RX1 87 "MessageReaderModel" "lastLength" "I") (by decide +kernel)
  have hl := lv_entry ([.ref h, .int i9]) (n := 2) (Nat.le_of_ble_eq_true rfl)
  rw [lg_entry_eq]
  generalize (lg_sl ([.ref h, .int i9]) ++ List.replicate (2 - (lg_sl ([.ref h, .int i9])).length) Slot.unset).toArray = ls at hl ⊢
  have hl : lv_has ls 2 [(0, .ref h), (1, .int i9)] := hl
  refine lv_aload_n hx hb dX1_payload_0 rfl (lv_at hl 0 rfl) ?_
  refine lv_iconst (v := 0) hx hb dX1_payload_1 (by decide) ?_
  refine va_put (D := (dC, dI)) (ci := 1) (v := .int 0) (ty := .int) (C := RX1) (T := TX1) (N := 17) hx hb hts hin0 tyX1 tyX1_ok nmX1 hown hK hP hD hS 0 rfl rfl 0 (by decide) fl21 (fun _ h9 => h9) rfl (by decide +kernel) rfl rfl (Nat.le_of_ble_eq_true rfl) dX1_payload_2 (fun H locs hP hD hS => ?_)
  have hP : va_P (dC, dI) vwCl (w1 h a b cI cJ f g 0 zs zc zso znu zty zhd zpa zch zlk zlo zhi (nI p9) (nI v9) zlv) H := hP
  have hD : va_D A (w1 h a b cI cJ f g 0 zs zc zso znu zty zhd zpa zch zlk zlo zhi (nI p9) (nI v9) zlv) := hD
  refine lv_iload_n hx hb dX1_payload_5 rfl (lv_at hl 1 rfl) ?_
  refine lv_if_lt (tgt := 17) hx hb dX1_payload_6 (by decide) (fun c_1 => ?_) (fun c_1 => ?_)
  · skip
    refine lv_iconst (v := -1) hx hb dX1_payload_17 (by decide) ?_
    refine lv_goto (tgt := 32) hx hb dX1_payload_18 (by decide) ?_
    have hP9 : va_P (dC, dI) vwCl ((fun (_ : Unit) => w1 h a b cI cJ f g 0 zs zc zso znu zty zhd zpa zch zlk zlo zhi (nI p9) (nI v9) zlv) (())) H := hP
    have hD9 : va_D A ((fun (_ : Unit) => w1 h a b cI cJ f g 0 zs zc zso znu zty zhd zpa zch zlk zlo zhi (nI p9) (nI v9) zlv) (())) := hD
    exact W.iret (v := -1) hx hb hr (fun t ht hW => ⟨⟨-1, (), rfl, (by rw [if_pos c_1]), by rw [ht]; exact hP9, va_K.moved hW.alike hK, hD9⟩, hS.F ht⟩) hS.2.2 dX1_payload_32
  · skip
    refine lv_iload_n hx hb dX1_payload_9 rfl (lv_at hl 1 rfl) ?_
    refine lv_aload_n hx hb dX1_payload_10 rfl (lv_at hl 0 rfl) ?_
    refine va_get (D := (dC, dI)) (ci := 1) (v := .int (nI v9)) (C := RX1) (T := TX1) (N := 17) hx hb hts hin0 hown hK hP 0 rfl rfl 14 (by decide) fl87 (fun _ h9 => h9) rfl dX1_payload_11 ?_
    refine lv_icmp_lt (tgt := 21) hx hb dX1_payload_14 (by decide) (fun c_2 => ?_) (fun c_2 => ?_)
    · skip
      have q5 := nI_self c_1
      have q6 : i9.toNatClampNeg < v9 := by
        have z := c_2
        rw [← q5] at z
        exact (nI_ltI (by obtain ⟨j, hj, e⟩ := nI_of c_1; rw [e, nI_clamp hj]; exact hj) (by omega)).mp z
      refine lv_aload_n hx hb dX1_payload_21 rfl (lv_at hl 0 rfl) ?_
      refine va_get (D := (dC, dI)) (ci := 1) (v := .ref a) (C := RX1) (T := TX1) (N := 17) hx hb hts hin0 hown hK hP 0 rfl rfl 1 (by decide) fl7 (fun _ h9 => h9) rfl dX1_payload_22 ?_
      refine lv_aload_n hx hb dX1_payload_25 rfl (lv_at hl 0 rfl) ?_
      refine va_get (D := (dC, dI)) (ci := 1) (v := .int (nI p9)) (C := RX1) (T := TX1) (N := 17) hx hb hts hin0 hown hK hP 0 rfl rfl 13 (by decide) fl84 (fun _ h9 => h9) rfl dX1_payload_26 ?_
      refine lv_iload_n hx hb dX1_payload_29 rfl (lv_at hl 1 rfl) ?_
      refine lv_iadd hx hb dX1_payload_30 ?_
      have e_3 : ((nI p9) + i9 : Int32) = nI (p9 + i9.toNatClampNeg) := by rw [← nI_add, q5]
      rw [e_3]
      refine va_iald hx hb hK hP 1 0 rfl rfl (vp_in_nI (by omega) (by decide)) dX1_payload_31 ?_
      have hP9 : va_P (dC, dI) vwCl ((fun (_ : Unit) => w1 h a b cI cJ f g 0 zs zc zso znu zty zhd zpa zch zlk zlo zhi (nI p9) (nI v9) zlv) (())) H := hP
      have hD9 : va_D A ((fun (_ : Unit) => w1 h a b cI cJ f g 0 zs zc zso znu zty zhd zpa zch zlk zlo zhi (nI p9) (nI v9) zlv) (())) := hD
      exact W.iret (v := f (nI (p9 + i9.toNatClampNeg)).toNatClampNeg) hx hb hr (fun t ht hW => ⟨⟨f (nI (p9 + i9.toNatClampNeg)).toNatClampNeg, (), rfl, (by rw [if_neg c_1, if_pos c_2]; rw [nI_clamp (by omega)]), by rw [ht]; exact hP9, va_K.moved hW.alike hK, hD9⟩, hS.F ht⟩) hS.2.2 dX1_payload_32
    · skip
      refine lv_iconst (v := -1) hx hb dX1_payload_17 (by decide) ?_
      refine lv_goto (tgt := 32) hx hb dX1_payload_18 (by decide) ?_
      have hP9 : va_P (dC, dI) vwCl ((fun (_ : Unit) => w1 h a b cI cJ f g 0 zs zc zso znu zty zhd zpa zch zlk zlo zhi (nI p9) (nI v9) zlv) (())) H := hP
      have hD9 : va_D A ((fun (_ : Unit) => w1 h a b cI cJ f g 0 zs zc zso znu zty zhd zpa zch zlk zlo zhi (nI p9) (nI v9) zlv) (())) := hD
      exact W.iret (v := -1) hx hb hr (fun t ht hW => ⟨⟨-1, (), rfl, (by rw [if_neg c_1, if_neg c_2]), by rw [ht]; exact hP9, va_K.moved hW.alike hK, hD9⟩, hS.F ht⟩) hS.2.2 dX1_payload_32
