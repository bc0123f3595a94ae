set_option maxHeartbeats 4000000 in
set_option maxRecDepth 100000 in
theorem c_X1_next (l : Launch) (dC : Nat → ClassId) (dI : Nat → Nat → Nat) (tk tw : Nat) (h a b : Nat) (cI cJ : ClassId) (sz : Nat) (f : Nat → Int32) (g : Nat → Int64) (zt : Int32) (zso : Int32) (znu : Int64) (zty : Int32) (zhd : Int32) (zpa : Int64) (zch : Int64) (zlk : Int32) (zlo : Int32) (zhi : Int32) (zlp : Int32) (zll : Int32) (B : Nat → Nat) (hB : ∀ j, B j < 256) (n8 c9 : Nat) (hn8 : n8 ≤ 4096) (hc9 : c9 ≤ 4096) (hf9 : ∀ j, j < n8 → f j = nI (B j)) (k9 : Nat) (hk9 : k9 ≤ 100) : Met l yX1_next wsX1_next ({ frames := 2, cells := 0, slots := 0, locals := 49 }) (va_Pc [.ref h] (pr dC dI (t1 cI cJ) (w1 h a b cI cJ f g zt (nI n8) (nI c9) zso znu zty zhd zpa zch zlk zlo zhi zlp zll (nI k9)) sz tk tw)) (va_Qi (fun (r : Int32) (u : (Int32 × Int64 × Int32 × Int32 × Int64 × Int64) × ((Nat → Int64) × Int32 × Int32 × Int32 × Int32 × Int32 × Int32 × Int32)) => nyP B g n8 c9 (zlk, zlo, zhi, zlp, zll) k9 r u.2) (fun (u : (Int32 × Int64 × Int32 × Int32 × Int64 × Int64) × ((Nat → Int64) × Int32 × Int32 × Int32 × Int32 × Int32 × Int32 × Int32)) => po dC dI (t1 cI cJ) (va_A (w1 h a b cI cJ f g zt (nI n8) (nI c9) zso znu zty zhd zpa zch zlk zlo zhi zlp zll (nI k9)) sz) (w1 h a b cI cJ f u.2.1 0 (nI n8) u.2.2.1 u.1.1 u.1.2.1 u.1.2.2.1 u.1.2.2.2.1 u.1.2.2.2.2.1 u.1.2.2.2.2.2 u.2.2.2.1 u.2.2.2.2.1 u.2.2.2.2.2.1 u.2.2.2.2.2.2.1 u.2.2.2.2.2.2.2.1 u.2.2.2.2.2.2.2.2)) (va_A (w1 h a b cI cJ f g zt (nI n8) (nI c9) zso znu zty zhd zpa zch zlk zlo zhi zlp zll (nI k9)) sz)) 0 0 (va_A (w1 h a b cI cJ f g zt (nI n8) (nI c9) zso znu zty zhd zpa zch zlk zlo zhi zlp zll (nI k9)) sz) := by
  refine Met.ofW (cc := cX1_next) (maxL := 2) (ret := (some .int)) (by decide) rfl ?_
  intro p e s m args below meth c s₁ Bd hml hv
  obtain ⟨rfl, hsz, hP, hK, hD0, hZ⟩ := hv
  have hx := Bd.exec
  have hb := Bd.bytes
  have hr := Bd.returns
  have hts := atoms_spec (ws := wsX1_next) Bd.pre
  have hown : s.vm.findClass RX1 = some m.cls := findClass_of_methodNamed Bd.named
  have hlocks := Bd.notSynchronized
  subst hsz
  have hD := hD0.self (sz := s.heap.size)
  generalize hAe : va_A (w1 h a b cI cJ f g zt (nI n8) (nI c9) zso znu zty zhd zpa zch zlk zlo zhi zlp zll (nI k9)) s.heap.size = A at hD hZ ⊢
  have hA : ∀ q : Nat, s.heap.size ≤ q → A q := fun q h => by rw [← hAe]; exact Or.inr h
  have hS : va_S A s.heap s.heap [] := va_S.rf
  have hP : va_P (dC, dI) vwCl (w1 h a b cI cJ f g zt (nI n8) (nI c9) zso znu zty zhd zpa zch zlk zlo zhi zlp zll (nI k9)) s.heap := hP
  have hin0 : ∀ w ∈ wsX10, w ∈ wsX1_next := by decide +kernel
  have fl17 := hts (.fieldLink RX1 17 "MessageReaderModel" "open" "[J") (by decide +kernel)
  have fl21 := hts (.fieldLink RX1 21 "MessageReaderModel" "thrown" "I") (by decide +kernel)
  have fl37 := hts (.fieldLink RX1 37 "MessageReaderModel" "consumed" "I") (by decide +kernel)
  have fl47 := hts (.fieldLink RX1 47 "MessageReaderModel" "sort" "I") (by decide +kernel)
  have fl50 := hts (.fieldLink RX1 50 "MessageReaderModel" "head" "I") (by decide +kernel)
  have fl68 := hts (.fieldLink RX1 68 "MessageReaderModel" "payload" "J") (by decide +kernel)
  have fl71 := hts (.fieldLink RX1 71 "MessageReaderModel" "children" "J") (by decide +kernel)
  have fl90 := hts (.fieldLink RX1 90 "MessageReaderModel" "level" "I") (by decide +kernel)
  have hl := lv_entry ([.ref h]) (n := 2) (Nat.le_of_ble_eq_true rfl)
  rw [lg_entry_eq]
  generalize (lg_sl ([.ref h]) ++ List.replicate (2 - (lg_sl ([.ref h])).length) Slot.unset).toArray = ls at hl ⊢
  have hl : lv_has ls 2 [(0, .ref h)] := hl
  refine lv_aload_n hx hb dX1_next_0 rfl (lv_at hl 0 rfl) ?_
  refine lv_iconst (v := 0) hx hb dX1_next_1 (by decide) ?_
  refine va_put (D := (dC, dI)) (ci := 1) (v := .int 0) (ty := .int) (C := RX1) (T := TX1) (N := 17) hx hb hts hin0 tyX1 tyX1_ok nmX1 hown hK hP hD hS 0 rfl rfl 0 (by decide) fl21 (fun _ h9 => h9) rfl (by decide +kernel) rfl rfl (Nat.le_of_ble_eq_true rfl) dX1_next_2 (fun H locs hP hD hS => ?_)
  have hP : va_P (dC, dI) vwCl (w1 h a b cI cJ f g 0 (nI n8) (nI c9) zso znu zty zhd zpa zch zlk zlo zhi zlp zll (nI k9)) H := hP
  have hD : va_D A (w1 h a b cI cJ f g 0 (nI n8) (nI c9) zso znu zty zhd zpa zch zlk zlo zhi zlp zll (nI k9)) := hD
  refine lv_aload_n hx hb dX1_next_5 rfl (lv_at hl 0 rfl) ?_
  refine lv_aload_n hx hb dX1_next_6 rfl (lv_at hl 0 rfl) ?_
  refine va_get (D := (dC, dI)) (ci := 1) (v := .int (nI c9)) (C := RX1) (T := TX1) (N := 17) hx hb hts hin0 hown hK hP 0 rfl rfl 3 (by decide) fl37 (fun _ h9 => h9) rfl dX1_next_7 ?_
  refine gvi (As := [.int (nI c9)]) (rest := []) ⟨hx, hb, hml, hown, hts⟩ (c_X1_look l dC dI tk tw h a b cI cJ _ f g 0 (nI c9) zso znu zty zhd zpa zch zlk zlo zhi zlp zll (nI k9) B hB n8 c9 hn8 hc9 hf9) (cwV 1 hts gX1_next_X1_look rfl rfl rfl (by decide +kernel) ⟨Nat.le_of_ble_eq_true rfl, Nat.le_of_ble_eq_true rfl⟩) hK hP hD hS hA hZ (q0 := 0) (ci := 1) rfl rfl rfl rfl hl.1 rfl (Nat.le_of_ble_eq_true rfl) dX1_next_10 ⟨Nat.le_of_ble_eq_true rfl, Nat.le_of_ble_eq_true rfl⟩ (fun r_2 u_3 H locs hw_1 hP hD hS => ?_)
  obtain ⟨so1, nu1, ty1, hd1, pa1, ch1⟩ := u_3
  have hP : va_P (dC, dI) vwCl (w1 h a b cI cJ f g 0 (nI n8) (nI c9) so1 nu1 ty1 hd1 pa1 ch1 zlk zlo zhi zlp zll (nI k9)) H := hP
  have hD : va_D A (w1 h a b cI cJ f g 0 (nI n8) (nI c9) so1 nu1 ty1 hd1 pa1 ch1 zlk zlo zhi zlp zll (nI k9)) := hD
  refine lv_istore_n (lv' := [(1, .int r_2), (0, .ref h)]) hx hb dX1_next_13 rfl hl (by decide) rfl (fun ls hl => ?_)
  refine lv_iload_n hx hb dX1_next_14 rfl (lv_at hl 0 rfl) ?_
  refine lv_if_eq (tgt := 20) hx hb dX1_next_15 (by decide) (fun c_4 => ?_) (fun c_4 => ?_)
  · skip
    obtain ⟨p1, p2⟩ := loP_ok hw_1 c_4
    have p2 : so1 = nI (kd (B c9)) ∧ nu1 = nv B c9 ∧ (kd (B c9) = 12 → ty1 = tyS B c9) ∧ hd1 = nI (hd (B c9)) ∧ pa1 = paL B c9 ∧ ch1 = ch B c9 := p2
    obtain ⟨rfl, rfl, p5, rfl, rfl, rfl⟩ := p2
    have q2 := nx_eq hB hn8 hc9 p1
    have hP : va_P (dC, dI) vwCl (w1 h a b cI cJ f g 0 (nI n8) (nI c9) (nI (kd (B c9))) (nv B c9) ty1 (nI (hd (B c9))) (paL B c9) (ch B c9) zlk zlo zhi zlp zll (nI k9)) H := hP
    have hD : va_D A (w1 h a b cI cJ f g 0 (nI n8) (nI c9) (nI (kd (B c9))) (nv B c9) ty1 (nI (hd (B c9))) (paL B c9) (ch B c9) zlk zlo zhi zlp zll (nI k9)) := hD
    refine lv_aload_n hx hb dX1_next_20 rfl (lv_at hl 1 rfl) ?_
    refine va_get (D := (dC, dI)) (ci := 1) (v := .long (ch B c9)) (C := RX1) (T := TX1) (N := 17) hx hb hts hin0 hown hK hP 0 rfl rfl 9 (by decide) fl71 (fun _ h9 => h9) rfl dX1_next_21 ?_
    refine lv_lconst (v := 0) hx hb dX1_next_24 (by decide) ?_
    refine W.lcmp hx hb dX1_next_25 ?_
    refine lv_if_le (tgt := 41) hx hb dX1_next_26 (by decide) (fun c_5 => ?_) (fun c_5 => ?_)
    · skip
      have c_5 := (lg_cmp_le (ch B c9) (0 : Int64)).mp c_5
      refine lv_aload_n hx hb dX1_next_41 rfl (lv_at hl 1 rfl) ?_
      refine lv_aload_n hx hb dX1_next_42 rfl (lv_at hl 1 rfl) ?_
      refine va_get (D := (dC, dI)) (ci := 1) (v := .int (nI c9)) (C := RX1) (T := TX1) (N := 17) hx hb hts hin0 hown hK hP 0 rfl rfl 3 (by decide) fl37 (fun _ h9 => h9) rfl dX1_next_43 ?_
      refine lv_aload_n hx hb dX1_next_46 rfl (lv_at hl 1 rfl) ?_
      refine va_get (D := (dC, dI)) (ci := 1) (v := .int (nI (hd (B c9)))) (C := RX1) (T := TX1) (N := 17) hx hb hts hin0 hown hK hP 0 rfl rfl 7 (by decide) fl50 (fun _ h9 => h9) rfl dX1_next_47 ?_
      refine lv_iadd hx hb dX1_next_50 ?_
      have e_6 : ((nI c9) + (nI (hd (B c9))) : Int32) = nI (c9 + hd (B c9)) := nI_add _ _
      rw [e_6]
      refine gvv (As := [.int (nI (c9 + hd (B c9)))]) (rest := []) ⟨hx, hb, hml, hown, hts⟩ (c_X1_give l dC dI tk tw h a b cI cJ _ f g 0 (nI n8) (nI c9) (nI (kd (B c9))) (nv B c9) ty1 (nI (hd (B c9))) (paL B c9) (ch B c9) zlk zlo zhi zlp zll (nI k9) (nI (c9 + hd (B c9)))) (cwV 1 hts gX1_next_X1_give rfl rfl rfl (by decide +kernel) ⟨Nat.le_of_ble_eq_true rfl, Nat.le_of_ble_eq_true rfl⟩) hK hP hD hS hA hZ (q0 := 0) (ci := 1) rfl rfl rfl rfl hl.1 rfl (Nat.le_of_ble_eq_true rfl) dX1_next_51 ⟨Nat.le_of_ble_eq_true rfl, Nat.le_of_ble_eq_true rfl⟩ (fun u_9 H locs hw_7 hP hD hS => ?_)
      have hP : va_P (dC, dI) vwCl (w1 h a b cI cJ f g 0 (nI n8) (nI c9) (nI (kd (B c9))) (nv B c9) ty1 (nI (hd (B c9))) (paL B c9) (ch B c9) (nI (kd (B c9))) ((nv B c9).toInt32) (hiS (nI (kd (B c9))) ty1 (nv B c9)) (nI (c9 + hd (B c9))) ((paL B c9).toInt32) (nI k9)) H := hP
      have hD : va_D A (w1 h a b cI cJ f g 0 (nI n8) (nI c9) (nI (kd (B c9))) (nv B c9) ty1 (nI (hd (B c9))) (paL B c9) (ch B c9) (nI (kd (B c9))) ((nv B c9).toInt32) (hiS (nI (kd (B c9))) ty1 (nv B c9)) (nI (c9 + hd (B c9))) ((paL B c9).toInt32) (nI k9)) := hD
      have e_10 : (hiS (nI (kd (B c9))) ty1 (nv B c9) : Int32) = hiV B c9 := hiV_eq hB p5
      rw [e_10] at hP hD
      have e_11 : ((paL B c9).toInt32 : Int32) = pl B c9 := paL32 hB hn8 hc9 p1
      rw [e_11] at hP hD
      have hP : va_P (dC, dI) vwCl (w1 h a b cI cJ f g 0 (nI n8) (nI c9) (nI (kd (B c9))) (nv B c9) ty1 (nI (hd (B c9))) (paL B c9) (ch B c9) (nI (kd (B c9))) ((nv B c9).toInt32) (hiV B c9) (nI (c9 + hd (B c9))) (pl B c9) (nI k9)) H := hP
      have hD : va_D A (w1 h a b cI cJ f g 0 (nI n8) (nI c9) (nI (kd (B c9))) (nv B c9) ty1 (nI (hd (B c9))) (paL B c9) (ch B c9) (nI (kd (B c9))) ((nv B c9).toInt32) (hiV B c9) (nI (c9 + hd (B c9))) (pl B c9) (nI k9)) := hD
      refine lv_aload_n hx hb dX1_next_54 rfl (lv_at hl 1 rfl) ?_
      refine lv_dup hx hb dX1_next_55 rfl ?_
      refine va_get (D := (dC, dI)) (ci := 1) (v := .int (nI c9)) (C := RX1) (T := TX1) (N := 17) hx hb hts hin0 hown hK hP 0 rfl rfl 3 (by decide) fl37 (fun _ h9 => h9) rfl dX1_next_56 ?_
      refine lv_aload_n hx hb dX1_next_59 rfl (lv_at hl 1 rfl) ?_
      refine va_get (D := (dC, dI)) (ci := 1) (v := .int (nI (hd (B c9)))) (C := RX1) (T := TX1) (N := 17) hx hb hts hin0 hown hK hP 0 rfl rfl 7 (by decide) fl50 (fun _ h9 => h9) rfl dX1_next_60 ?_
      refine lv_aload_n hx hb dX1_next_63 rfl (lv_at hl 1 rfl) ?_
      refine va_get (D := (dC, dI)) (ci := 1) (v := .long (paL B c9)) (C := RX1) (T := TX1) (N := 17) hx hb hts hin0 hown hK hP 0 rfl rfl 8 (by decide) fl68 (fun _ h9 => h9) rfl dX1_next_64 ?_
      refine lv_l2i hx hb dX1_next_67 rfl ?_
      refine lv_iadd hx hb dX1_next_68 ?_
      refine lv_iadd hx hb dX1_next_69 ?_
      have e_12 : ((nI c9) + ((nI (hd (B c9))) + ((paL B c9).toInt32)) : Int32) = nI (nx B c9) := by rw [paL32 hB hn8 hc9 p1, ← q2.1, Int32.add_assoc]
      rw [e_12]
      refine va_put (D := (dC, dI)) (ci := 1) (v := .int (nI (nx B c9))) (ty := .int) (C := RX1) (T := TX1) (N := 17) hx hb hts hin0 tyX1 tyX1_ok nmX1 hown hK hP hD hS 0 rfl rfl 3 (by decide) fl37 (fun _ h9 => h9) rfl (by decide +kernel) rfl rfl (Nat.le_of_ble_eq_true rfl) dX1_next_70 (fun H locs hP hD hS => ?_)
      have hP : va_P (dC, dI) vwCl (w1 h a b cI cJ f g 0 (nI n8) (nI (nx B c9)) (nI (kd (B c9))) (nv B c9) ty1 (nI (hd (B c9))) (paL B c9) (ch B c9) (nI (kd (B c9))) ((nv B c9).toInt32) (hiV B c9) (nI (c9 + hd (B c9))) (pl B c9) (nI k9)) H := hP
      have hD : va_D A (w1 h a b cI cJ f g 0 (nI n8) (nI (nx B c9)) (nI (kd (B c9))) (nv B c9) ty1 (nI (hd (B c9))) (paL B c9) (ch B c9) (nI (kd (B c9))) ((nv B c9).toInt32) (hiV B c9) (nI (c9 + hd (B c9))) (pl B c9) (nI k9)) := hD
      refine lv_aload_n hx hb dX1_next_73 rfl (lv_at hl 1 rfl) ?_
      refine va_get (D := (dC, dI)) (ci := 1) (v := .int (nI k9)) (C := RX1) (T := TX1) (N := 17) hx hb hts hin0 hown hK hP 0 rfl rfl 16 (by decide) fl90 (fun _ h9 => h9) rfl dX1_next_74 ?_
      refine lv_if_le (tgt := 95) hx hb dX1_next_77 (by decide) (fun c_13 => ?_) (fun c_13 => ?_)
      · skip
        have e_14 : (g : Nat → Int64) = cc1 g k9 := (cc1_z (Nat.eq_zero_of_not_pos (fun z => nI_nle z (by omega) c_13))).symm
        rw [e_14] at hP hD
        have hP : va_P (dC, dI) vwCl (w1 h a b cI cJ f (cc1 g k9) 0 (nI n8) (nI (nx B c9)) (nI (kd (B c9))) (nv B c9) ty1 (nI (hd (B c9))) (paL B c9) (ch B c9) (nI (kd (B c9))) ((nv B c9).toInt32) (hiV B c9) (nI (c9 + hd (B c9))) (pl B c9) (nI k9)) H := hP
        have hD : va_D A (w1 h a b cI cJ f (cc1 g k9) 0 (nI n8) (nI (nx B c9)) (nI (kd (B c9))) (nv B c9) ty1 (nI (hd (B c9))) (paL B c9) (ch B c9) (nI (kd (B c9))) ((nv B c9).toInt32) (hiV B c9) (nI (c9 + hd (B c9))) (pl B c9) (nI k9)) := hD
        refine lv_aload_n hx hb dX1_next_95 rfl (lv_at hl 1 rfl) ?_
        refine va_get (D := (dC, dI)) (ci := 1) (v := .long (ch B c9)) (C := RX1) (T := TX1) (N := 17) hx hb hts hin0 hown hK hP 0 rfl rfl 9 (by decide) fl71 (fun _ h9 => h9) rfl dX1_next_96 ?_
        refine lv_lconst (v := 0) hx hb dX1_next_99 (by decide) ?_
        refine W.lcmp hx hb dX1_next_100 ?_
        refine lv_if_le (tgt := 127) hx hb dX1_next_101 (by decide) (fun c_15 => ?_) (fun c_15 => ?_)
        · skip
          have c_15 := (lg_cmp_le (ch B c9) (0 : Int64)).mp c_15
          have e_16 : (cc1 g k9 : Nat → Int64) = og (cc1 g k9) k9 (ch B c9) := (og_n (fun z => Int64.not_lt.mpr c_5 z.1)).symm
          rw [e_16] at hP hD
          have e_17 : (nI k9 : Int32) = nI (ok k9 (ch B c9)) := by rw [ok_n (fun z => Int64.not_lt.mpr c_5 z.1)]
          rw [e_17] at hP hD
          have hP : va_P (dC, dI) vwCl (w1 h a b cI cJ f (og (cc1 g k9) k9 (ch B c9)) 0 (nI n8) (nI (nx B c9)) (nI (kd (B c9))) (nv B c9) ty1 (nI (hd (B c9))) (paL B c9) (ch B c9) (nI (kd (B c9))) ((nv B c9).toInt32) (hiV B c9) (nI (c9 + hd (B c9))) (pl B c9) (nI (ok k9 (ch B c9)))) H := hP
          have hD : va_D A (w1 h a b cI cJ f (og (cc1 g k9) k9 (ch B c9)) 0 (nI n8) (nI (nx B c9)) (nI (kd (B c9))) (nv B c9) ty1 (nI (hd (B c9))) (paL B c9) (ch B c9) (nI (kd (B c9))) ((nv B c9).toInt32) (hiV B c9) (nI (c9 + hd (B c9))) (pl B c9) (nI (ok k9 (ch B c9)))) := hD
          refine lv_aload_n hx hb dX1_next_127 rfl (lv_at hl 1 rfl) ?_
          refine gvv (As := []) (rest := []) ⟨hx, hb, hml, hown, hts⟩ (c_X1_closeDone l dC dI tk tw h a b cI cJ _ f (og (cc1 g k9) k9 (ch B c9)) 0 (nI n8) (nI (nx B c9)) (nI (kd (B c9))) (nv B c9) ty1 (nI (hd (B c9))) (paL B c9) (ch B c9) (nI (kd (B c9))) ((nv B c9).toInt32) (hiV B c9) (nI (c9 + hd (B c9))) (pl B c9) (ok k9 (ch B c9)) (ok_le hk9)) (cwV 0 hts gX1_next_X1_closeDone rfl rfl rfl (by decide +kernel) ⟨Nat.le_of_ble_eq_true rfl, Nat.le_of_ble_eq_true rfl⟩) hK hP hD hS hA hZ (q0 := 0) (ci := 1) rfl rfl rfl rfl hl.1 rfl (Nat.le_of_ble_eq_true rfl) dX1_next_128 ⟨Nat.le_of_ble_eq_true rfl, Nat.le_of_ble_eq_true rfl⟩ (fun u_20 H locs hw_18 hP hD hS => ?_)
          have hP : va_P (dC, dI) vwCl (w1 h a b cI cJ f (og (cc1 g k9) k9 (ch B c9)) 0 (nI n8) (nI (nx B c9)) (nI (kd (B c9))) (nv B c9) ty1 (nI (hd (B c9))) (paL B c9) (ch B c9) (nI (kd (B c9))) ((nv B c9).toInt32) (hiV B c9) (nI (c9 + hd (B c9))) (pl B c9) (nI (cl (og (cc1 g k9) k9 (ch B c9)) (ok k9 (ch B c9))))) H := hP
          have hD : va_D A (w1 h a b cI cJ f (og (cc1 g k9) k9 (ch B c9)) 0 (nI n8) (nI (nx B c9)) (nI (kd (B c9))) (nv B c9) ty1 (nI (hd (B c9))) (paL B c9) (ch B c9) (nI (kd (B c9))) ((nv B c9).toInt32) (hiV B c9) (nI (c9 + hd (B c9))) (pl B c9) (nI (cl (og (cc1 g k9) k9 (ch B c9)) (ok k9 (ch B c9))))) := hD
          refine lv_aload_n hx hb dX1_next_131 rfl (lv_at hl 1 rfl) ?_
          refine va_get (D := (dC, dI)) (ci := 1) (v := .int (nI (kd (B c9)))) (C := RX1) (T := TX1) (N := 17) hx hb hts hin0 hown hK hP 0 rfl rfl 4 (by decide) fl47 (fun _ h9 => h9) rfl dX1_next_132 ?_
          have hP9 : va_P (dC, dI) vwCl ((fun (u : (Int32 × Int64 × Int32 × Int32 × Int64 × Int64) × ((Nat → Int64) × Int32 × Int32 × Int32 × Int32 × Int32 × Int32 × Int32)) => w1 h a b cI cJ f u.2.1 0 (nI n8) u.2.2.1 u.1.1 u.1.2.1 u.1.2.2.1 u.1.2.2.2.1 u.1.2.2.2.2.1 u.1.2.2.2.2.2 u.2.2.2.1 u.2.2.2.2.1 u.2.2.2.2.2.1 u.2.2.2.2.2.2.1 u.2.2.2.2.2.2.2.1 u.2.2.2.2.2.2.2.2) (((nI (kd (B c9)), nv B c9, ty1, nI (hd (B c9)), paL B c9, ch B c9), (og (cc1 g k9) k9 (ch B c9), nI (nx B c9), nI (kd (B c9)), (nv B c9).toInt32, hiV B c9, nI (c9 + hd (B c9)), pl B c9, nI (cl (og (cc1 g k9) k9 (ch B c9)) (ok k9 (ch B c9))))))) H := hP
          have hD9 : va_D A ((fun (u : (Int32 × Int64 × Int32 × Int32 × Int64 × Int64) × ((Nat → Int64) × Int32 × Int32 × Int32 × Int32 × Int32 × Int32 × Int32)) => w1 h a b cI cJ f u.2.1 0 (nI n8) u.2.2.1 u.1.1 u.1.2.1 u.1.2.2.1 u.1.2.2.2.1 u.1.2.2.2.2.1 u.1.2.2.2.2.2 u.2.2.2.1 u.2.2.2.2.1 u.2.2.2.2.2.1 u.2.2.2.2.2.2.1 u.2.2.2.2.2.2.2.1 u.2.2.2.2.2.2.2.2) (((nI (kd (B c9)), nv B c9, ty1, nI (hd (B c9)), paL B c9, ch B c9), (og (cc1 g k9) k9 (ch B c9), nI (nx B c9), nI (kd (B c9)), (nv B c9).toInt32, hiV B c9, nI (c9 + hd (B c9)), pl B c9, nI (cl (og (cc1 g k9) k9 (ch B c9)) (ok k9 (ch B c9))))))) := hD
          exact W.iret (v := nI (kd (B c9))) hx hb hr (fun t ht hW => ⟨⟨nI (kd (B c9)), ((nI (kd (B c9)), nv B c9, ty1, nI (hd (B c9)), paL B c9, ch B c9), (og (cc1 g k9) k9 (ch B c9), nI (nx B c9), nI (kd (B c9)), (nv B c9).toInt32, hiV B c9, nI (c9 + hd (B c9)), pl B c9, nI (cl (og (cc1 g k9) k9 (ch B c9)) (ok k9 (ch B c9))))), rfl, (Or.inr (Or.inr ⟨p1, fun z => Int64.not_lt.mpr c_5 z.1, rfl, rfl⟩)), by rw [ht]; exact hP9, va_K.moved hW.alike hK, hD9⟩, hS.F ht⟩) hS.2.2 dX1_next_135
        · skip
          have c_15 := (not_congr (lg_cmp_le (ch B c9) (0 : Int64))).mp c_15
          exact absurd c_5 c_15
      · skip
        have q0 : 0 < k9 := Nat.pos_of_ne_zero (fun z => c_13 (by rw [z]; decide))
        have q3 : nI k9 - 1 = nI (k9 - 1) := pk_sub (b := 1) q0
        refine lv_aload_n hx hb dX1_next_80 rfl (lv_at hl 1 rfl) ?_
        refine va_get (D := (dC, dI)) (ci := 1) (v := .ref b) (C := RX1) (T := TX1) (N := 17) hx hb hts hin0 hown hK hP 0 rfl rfl 15 (by decide) fl17 (fun _ h9 => h9) rfl dX1_next_81 ?_
        refine lv_aload_n hx hb dX1_next_84 rfl (lv_at hl 1 rfl) ?_
        refine va_get (D := (dC, dI)) (ci := 1) (v := .int (nI k9)) (C := RX1) (T := TX1) (N := 17) hx hb hts hin0 hown hK hP 0 rfl rfl 16 (by decide) fl90 (fun _ h9 => h9) rfl dX1_next_85 ?_
        refine lv_iconst (v := 1) hx hb dX1_next_88 (by decide) ?_
        refine lv_isub hx hb dX1_next_89 ?_
        have e_21 : ((nI k9) - 1 : Int32) = nI (k9 - 1) := q3
        rw [e_21]
        refine lv_dup2_11 hx hb dX1_next_90 rfl rfl ?_
        refine va_lald hx hb hK hP 2 1 rfl rfl (vp_in_nI (by omega) (by decide)) dX1_next_91 ?_
        refine lv_lconst (v := 1) hx hb dX1_next_92 (by decide) ?_
        refine lv_lsub hx hb dX1_next_93 ?_
        refine va_last hx hb hK hP hD hS 2 1 rfl rfl (vp_in_nI (by omega) (by decide)) dX1_next_94 (fun H locs hP hD hS => ?_)
        have hP : va_P (dC, dI) vwCl (w1 h a b cI cJ f (vp_updL g (nI (k9 - 1)).toNatClampNeg ((g (nI (k9 - 1)).toNatClampNeg) - 1)) 0 (nI n8) (nI (nx B c9)) (nI (kd (B c9))) (nv B c9) ty1 (nI (hd (B c9))) (paL B c9) (ch B c9) (nI (kd (B c9))) ((nv B c9).toInt32) (hiV B c9) (nI (c9 + hd (B c9))) (pl B c9) (nI k9)) H := hP
        have hD : va_D A (w1 h a b cI cJ f (vp_updL g (nI (k9 - 1)).toNatClampNeg ((g (nI (k9 - 1)).toNatClampNeg) - 1)) 0 (nI n8) (nI (nx B c9)) (nI (kd (B c9))) (nv B c9) ty1 (nI (hd (B c9))) (paL B c9) (ch B c9) (nI (kd (B c9))) ((nv B c9).toInt32) (hiV B c9) (nI (c9 + hd (B c9))) (pl B c9) (nI k9)) := hD
        have e_22 : (vp_updL g (nI (k9 - 1)).toNatClampNeg ((g (nI (k9 - 1)).toNatClampNeg) - 1) : Nat → Int64) = cc1 g k9 := by rw [nI_clamp (by omega)]; exact (cc1_p q0).symm
        rw [e_22] at hP hD
        have hP : va_P (dC, dI) vwCl (w1 h a b cI cJ f (cc1 g k9) 0 (nI n8) (nI (nx B c9)) (nI (kd (B c9))) (nv B c9) ty1 (nI (hd (B c9))) (paL B c9) (ch B c9) (nI (kd (B c9))) ((nv B c9).toInt32) (hiV B c9) (nI (c9 + hd (B c9))) (pl B c9) (nI k9)) H := hP
        have hD : va_D A (w1 h a b cI cJ f (cc1 g k9) 0 (nI n8) (nI (nx B c9)) (nI (kd (B c9))) (nv B c9) ty1 (nI (hd (B c9))) (paL B c9) (ch B c9) (nI (kd (B c9))) ((nv B c9).toInt32) (hiV B c9) (nI (c9 + hd (B c9))) (pl B c9) (nI k9)) := hD
        refine lv_aload_n hx hb dX1_next_95 rfl (lv_at hl 1 rfl) ?_
        refine va_get (D := (dC, dI)) (ci := 1) (v := .long (ch B c9)) (C := RX1) (T := TX1) (N := 17) hx hb hts hin0 hown hK hP 0 rfl rfl 9 (by decide) fl71 (fun _ h9 => h9) rfl dX1_next_96 ?_
        refine lv_lconst (v := 0) hx hb dX1_next_99 (by decide) ?_
        refine W.lcmp hx hb dX1_next_100 ?_
        refine lv_if_le (tgt := 127) hx hb dX1_next_101 (by decide) (fun c_23 => ?_) (fun c_23 => ?_)
        · skip
          have c_23 := (lg_cmp_le (ch B c9) (0 : Int64)).mp c_23
          have e_24 : (cc1 g k9 : Nat → Int64) = og (cc1 g k9) k9 (ch B c9) := (og_n (fun z => Int64.not_lt.mpr c_5 z.1)).symm
          rw [e_24] at hP hD
          have e_25 : (nI k9 : Int32) = nI (ok k9 (ch B c9)) := by rw [ok_n (fun z => Int64.not_lt.mpr c_5 z.1)]
          rw [e_25] at hP hD
          have hP : va_P (dC, dI) vwCl (w1 h a b cI cJ f (og (cc1 g k9) k9 (ch B c9)) 0 (nI n8) (nI (nx B c9)) (nI (kd (B c9))) (nv B c9) ty1 (nI (hd (B c9))) (paL B c9) (ch B c9) (nI (kd (B c9))) ((nv B c9).toInt32) (hiV B c9) (nI (c9 + hd (B c9))) (pl B c9) (nI (ok k9 (ch B c9)))) H := hP
          have hD : va_D A (w1 h a b cI cJ f (og (cc1 g k9) k9 (ch B c9)) 0 (nI n8) (nI (nx B c9)) (nI (kd (B c9))) (nv B c9) ty1 (nI (hd (B c9))) (paL B c9) (ch B c9) (nI (kd (B c9))) ((nv B c9).toInt32) (hiV B c9) (nI (c9 + hd (B c9))) (pl B c9) (nI (ok k9 (ch B c9)))) := hD
          refine lv_aload_n hx hb dX1_next_127 rfl (lv_at hl 1 rfl) ?_
          refine gvv (As := []) (rest := []) ⟨hx, hb, hml, hown, hts⟩ (c_X1_closeDone l dC dI tk tw h a b cI cJ _ f (og (cc1 g k9) k9 (ch B c9)) 0 (nI n8) (nI (nx B c9)) (nI (kd (B c9))) (nv B c9) ty1 (nI (hd (B c9))) (paL B c9) (ch B c9) (nI (kd (B c9))) ((nv B c9).toInt32) (hiV B c9) (nI (c9 + hd (B c9))) (pl B c9) (ok k9 (ch B c9)) (ok_le hk9)) (cwV 0 hts gX1_next_X1_closeDone rfl rfl rfl (by decide +kernel) ⟨Nat.le_of_ble_eq_true rfl, Nat.le_of_ble_eq_true rfl⟩) hK hP hD hS hA hZ (q0 := 0) (ci := 1) rfl rfl rfl rfl hl.1 rfl (Nat.le_of_ble_eq_true rfl) dX1_next_128 ⟨Nat.le_of_ble_eq_true rfl, Nat.le_of_ble_eq_true rfl⟩ (fun u_28 H locs hw_26 hP hD hS => ?_)
          have hP : va_P (dC, dI) vwCl (w1 h a b cI cJ f (og (cc1 g k9) k9 (ch B c9)) 0 (nI n8) (nI (nx B c9)) (nI (kd (B c9))) (nv B c9) ty1 (nI (hd (B c9))) (paL B c9) (ch B c9) (nI (kd (B c9))) ((nv B c9).toInt32) (hiV B c9) (nI (c9 + hd (B c9))) (pl B c9) (nI (cl (og (cc1 g k9) k9 (ch B c9)) (ok k9 (ch B c9))))) H := hP
          have hD : va_D A (w1 h a b cI cJ f (og (cc1 g k9) k9 (ch B c9)) 0 (nI n8) (nI (nx B c9)) (nI (kd (B c9))) (nv B c9) ty1 (nI (hd (B c9))) (paL B c9) (ch B c9) (nI (kd (B c9))) ((nv B c9).toInt32) (hiV B c9) (nI (c9 + hd (B c9))) (pl B c9) (nI (cl (og (cc1 g k9) k9 (ch B c9)) (ok k9 (ch B c9))))) := hD
          refine lv_aload_n hx hb dX1_next_131 rfl (lv_at hl 1 rfl) ?_
          refine va_get (D := (dC, dI)) (ci := 1) (v := .int (nI (kd (B c9)))) (C := RX1) (T := TX1) (N := 17) hx hb hts hin0 hown hK hP 0 rfl rfl 4 (by decide) fl47 (fun _ h9 => h9) rfl dX1_next_132 ?_
          have hP9 : va_P (dC, dI) vwCl ((fun (u : (Int32 × Int64 × Int32 × Int32 × Int64 × Int64) × ((Nat → Int64) × Int32 × Int32 × Int32 × Int32 × Int32 × Int32 × Int32)) => w1 h a b cI cJ f u.2.1 0 (nI n8) u.2.2.1 u.1.1 u.1.2.1 u.1.2.2.1 u.1.2.2.2.1 u.1.2.2.2.2.1 u.1.2.2.2.2.2 u.2.2.2.1 u.2.2.2.2.1 u.2.2.2.2.2.1 u.2.2.2.2.2.2.1 u.2.2.2.2.2.2.2.1 u.2.2.2.2.2.2.2.2) (((nI (kd (B c9)), nv B c9, ty1, nI (hd (B c9)), paL B c9, ch B c9), (og (cc1 g k9) k9 (ch B c9), nI (nx B c9), nI (kd (B c9)), (nv B c9).toInt32, hiV B c9, nI (c9 + hd (B c9)), pl B c9, nI (cl (og (cc1 g k9) k9 (ch B c9)) (ok k9 (ch B c9))))))) H := hP
          have hD9 : va_D A ((fun (u : (Int32 × Int64 × Int32 × Int32 × Int64 × Int64) × ((Nat → Int64) × Int32 × Int32 × Int32 × Int32 × Int32 × Int32 × Int32)) => w1 h a b cI cJ f u.2.1 0 (nI n8) u.2.2.1 u.1.1 u.1.2.1 u.1.2.2.1 u.1.2.2.2.1 u.1.2.2.2.2.1 u.1.2.2.2.2.2 u.2.2.2.1 u.2.2.2.2.1 u.2.2.2.2.2.1 u.2.2.2.2.2.2.1 u.2.2.2.2.2.2.2.1 u.2.2.2.2.2.2.2.2) (((nI (kd (B c9)), nv B c9, ty1, nI (hd (B c9)), paL B c9, ch B c9), (og (cc1 g k9) k9 (ch B c9), nI (nx B c9), nI (kd (B c9)), (nv B c9).toInt32, hiV B c9, nI (c9 + hd (B c9)), pl B c9, nI (cl (og (cc1 g k9) k9 (ch B c9)) (ok k9 (ch B c9))))))) := hD
          exact W.iret (v := nI (kd (B c9))) hx hb hr (fun t ht hW => ⟨⟨nI (kd (B c9)), ((nI (kd (B c9)), nv B c9, ty1, nI (hd (B c9)), paL B c9, ch B c9), (og (cc1 g k9) k9 (ch B c9), nI (nx B c9), nI (kd (B c9)), (nv B c9).toInt32, hiV B c9, nI (c9 + hd (B c9)), pl B c9, nI (cl (og (cc1 g k9) k9 (ch B c9)) (ok k9 (ch B c9))))), rfl, (Or.inr (Or.inr ⟨p1, fun z => Int64.not_lt.mpr c_5 z.1, rfl, rfl⟩)), by rw [ht]; exact hP9, va_K.moved hW.alike hK, hD9⟩, hS.F ht⟩) hS.2.2 dX1_next_135
        · skip
          have c_23 := (not_congr (lg_cmp_le (ch B c9) (0 : Int64))).mp c_23
          exact absurd c_5 c_23
    · skip
      have c_5 := (not_congr (lg_cmp_le (ch B c9) (0 : Int64))).mp c_5
      refine lv_aload_n hx hb dX1_next_29 rfl (lv_at hl 1 rfl) ?_
      refine va_get (D := (dC, dI)) (ci := 1) (v := .int (nI k9)) (C := RX1) (T := TX1) (N := 17) hx hb hts hin0 hown hK hP 0 rfl rfl 16 (by decide) fl90 (fun _ h9 => h9) rfl dX1_next_30 ?_
      refine lv_bipush (v := 100) hx hb dX1_next_33 (by decide) ?_
      refine lv_icmp_ne (tgt := 41) hx hb dX1_next_35 (by decide) (fun c_29 => ?_) (fun c_29 => ?_)
      · skip
        refine lv_aload_n hx hb dX1_next_41 rfl (lv_at hl 1 rfl) ?_
        refine lv_aload_n hx hb dX1_next_42 rfl (lv_at hl 1 rfl) ?_
        refine va_get (D := (dC, dI)) (ci := 1) (v := .int (nI c9)) (C := RX1) (T := TX1) (N := 17) hx hb hts hin0 hown hK hP 0 rfl rfl 3 (by decide) fl37 (fun _ h9 => h9) rfl dX1_next_43 ?_
        refine lv_aload_n hx hb dX1_next_46 rfl (lv_at hl 1 rfl) ?_
        refine va_get (D := (dC, dI)) (ci := 1) (v := .int (nI (hd (B c9)))) (C := RX1) (T := TX1) (N := 17) hx hb hts hin0 hown hK hP 0 rfl rfl 7 (by decide) fl50 (fun _ h9 => h9) rfl dX1_next_47 ?_
        refine lv_iadd hx hb dX1_next_50 ?_
        have e_30 : ((nI c9) + (nI (hd (B c9))) : Int32) = nI (c9 + hd (B c9)) := nI_add _ _
        rw [e_30]
        refine gvv (As := [.int (nI (c9 + hd (B c9)))]) (rest := []) ⟨hx, hb, hml, hown, hts⟩ (c_X1_give l dC dI tk tw h a b cI cJ _ f g 0 (nI n8) (nI c9) (nI (kd (B c9))) (nv B c9) ty1 (nI (hd (B c9))) (paL B c9) (ch B c9) zlk zlo zhi zlp zll (nI k9) (nI (c9 + hd (B c9)))) (cwV 1 hts gX1_next_X1_give rfl rfl rfl (by decide +kernel) ⟨Nat.le_of_ble_eq_true rfl, Nat.le_of_ble_eq_true rfl⟩) hK hP hD hS hA hZ (q0 := 0) (ci := 1) rfl rfl rfl rfl hl.1 rfl (Nat.le_of_ble_eq_true rfl) dX1_next_51 ⟨Nat.le_of_ble_eq_true rfl, Nat.le_of_ble_eq_true rfl⟩ (fun u_33 H locs hw_31 hP hD hS => ?_)
        have hP : va_P (dC, dI) vwCl (w1 h a b cI cJ f g 0 (nI n8) (nI c9) (nI (kd (B c9))) (nv B c9) ty1 (nI (hd (B c9))) (paL B c9) (ch B c9) (nI (kd (B c9))) ((nv B c9).toInt32) (hiS (nI (kd (B c9))) ty1 (nv B c9)) (nI (c9 + hd (B c9))) ((paL B c9).toInt32) (nI k9)) H := hP
        have hD : va_D A (w1 h a b cI cJ f g 0 (nI n8) (nI c9) (nI (kd (B c9))) (nv B c9) ty1 (nI (hd (B c9))) (paL B c9) (ch B c9) (nI (kd (B c9))) ((nv B c9).toInt32) (hiS (nI (kd (B c9))) ty1 (nv B c9)) (nI (c9 + hd (B c9))) ((paL B c9).toInt32) (nI k9)) := hD
        have e_34 : (hiS (nI (kd (B c9))) ty1 (nv B c9) : Int32) = hiV B c9 := hiV_eq hB p5
        rw [e_34] at hP hD
        have e_35 : ((paL B c9).toInt32 : Int32) = pl B c9 := paL32 hB hn8 hc9 p1
        rw [e_35] at hP hD
        have hP : va_P (dC, dI) vwCl (w1 h a b cI cJ f g 0 (nI n8) (nI c9) (nI (kd (B c9))) (nv B c9) ty1 (nI (hd (B c9))) (paL B c9) (ch B c9) (nI (kd (B c9))) ((nv B c9).toInt32) (hiV B c9) (nI (c9 + hd (B c9))) (pl B c9) (nI k9)) H := hP
        have hD : va_D A (w1 h a b cI cJ f g 0 (nI n8) (nI c9) (nI (kd (B c9))) (nv B c9) ty1 (nI (hd (B c9))) (paL B c9) (ch B c9) (nI (kd (B c9))) ((nv B c9).toInt32) (hiV B c9) (nI (c9 + hd (B c9))) (pl B c9) (nI k9)) := hD
        refine lv_aload_n hx hb dX1_next_54 rfl (lv_at hl 1 rfl) ?_
        refine lv_dup hx hb dX1_next_55 rfl ?_
        refine va_get (D := (dC, dI)) (ci := 1) (v := .int (nI c9)) (C := RX1) (T := TX1) (N := 17) hx hb hts hin0 hown hK hP 0 rfl rfl 3 (by decide) fl37 (fun _ h9 => h9) rfl dX1_next_56 ?_
        refine lv_aload_n hx hb dX1_next_59 rfl (lv_at hl 1 rfl) ?_
        refine va_get (D := (dC, dI)) (ci := 1) (v := .int (nI (hd (B c9)))) (C := RX1) (T := TX1) (N := 17) hx hb hts hin0 hown hK hP 0 rfl rfl 7 (by decide) fl50 (fun _ h9 => h9) rfl dX1_next_60 ?_
        refine lv_aload_n hx hb dX1_next_63 rfl (lv_at hl 1 rfl) ?_
        refine va_get (D := (dC, dI)) (ci := 1) (v := .long (paL B c9)) (C := RX1) (T := TX1) (N := 17) hx hb hts hin0 hown hK hP 0 rfl rfl 8 (by decide) fl68 (fun _ h9 => h9) rfl dX1_next_64 ?_
        refine lv_l2i hx hb dX1_next_67 rfl ?_
        refine lv_iadd hx hb dX1_next_68 ?_
        refine lv_iadd hx hb dX1_next_69 ?_
        have e_36 : ((nI c9) + ((nI (hd (B c9))) + ((paL B c9).toInt32)) : Int32) = nI (nx B c9) := by rw [paL32 hB hn8 hc9 p1, ← q2.1, Int32.add_assoc]
        rw [e_36]
        refine va_put (D := (dC, dI)) (ci := 1) (v := .int (nI (nx B c9))) (ty := .int) (C := RX1) (T := TX1) (N := 17) hx hb hts hin0 tyX1 tyX1_ok nmX1 hown hK hP hD hS 0 rfl rfl 3 (by decide) fl37 (fun _ h9 => h9) rfl (by decide +kernel) rfl rfl (Nat.le_of_ble_eq_true rfl) dX1_next_70 (fun H locs hP hD hS => ?_)
        have hP : va_P (dC, dI) vwCl (w1 h a b cI cJ f g 0 (nI n8) (nI (nx B c9)) (nI (kd (B c9))) (nv B c9) ty1 (nI (hd (B c9))) (paL B c9) (ch B c9) (nI (kd (B c9))) ((nv B c9).toInt32) (hiV B c9) (nI (c9 + hd (B c9))) (pl B c9) (nI k9)) H := hP
        have hD : va_D A (w1 h a b cI cJ f g 0 (nI n8) (nI (nx B c9)) (nI (kd (B c9))) (nv B c9) ty1 (nI (hd (B c9))) (paL B c9) (ch B c9) (nI (kd (B c9))) ((nv B c9).toInt32) (hiV B c9) (nI (c9 + hd (B c9))) (pl B c9) (nI k9)) := hD
        refine lv_aload_n hx hb dX1_next_73 rfl (lv_at hl 1 rfl) ?_
        refine va_get (D := (dC, dI)) (ci := 1) (v := .int (nI k9)) (C := RX1) (T := TX1) (N := 17) hx hb hts hin0 hown hK hP 0 rfl rfl 16 (by decide) fl90 (fun _ h9 => h9) rfl dX1_next_74 ?_
        refine lv_if_le (tgt := 95) hx hb dX1_next_77 (by decide) (fun c_37 => ?_) (fun c_37 => ?_)
        · skip
          have e_38 : (g : Nat → Int64) = cc1 g k9 := (cc1_z (Nat.eq_zero_of_not_pos (fun z => nI_nle z (by omega) c_37))).symm
          rw [e_38] at hP hD
          have hP : va_P (dC, dI) vwCl (w1 h a b cI cJ f (cc1 g k9) 0 (nI n8) (nI (nx B c9)) (nI (kd (B c9))) (nv B c9) ty1 (nI (hd (B c9))) (paL B c9) (ch B c9) (nI (kd (B c9))) ((nv B c9).toInt32) (hiV B c9) (nI (c9 + hd (B c9))) (pl B c9) (nI k9)) H := hP
          have hD : va_D A (w1 h a b cI cJ f (cc1 g k9) 0 (nI n8) (nI (nx B c9)) (nI (kd (B c9))) (nv B c9) ty1 (nI (hd (B c9))) (paL B c9) (ch B c9) (nI (kd (B c9))) ((nv B c9).toInt32) (hiV B c9) (nI (c9 + hd (B c9))) (pl B c9) (nI k9)) := hD
          refine lv_aload_n hx hb dX1_next_95 rfl (lv_at hl 1 rfl) ?_
          refine va_get (D := (dC, dI)) (ci := 1) (v := .long (ch B c9)) (C := RX1) (T := TX1) (N := 17) hx hb hts hin0 hown hK hP 0 rfl rfl 9 (by decide) fl71 (fun _ h9 => h9) rfl dX1_next_96 ?_
          refine lv_lconst (v := 0) hx hb dX1_next_99 (by decide) ?_
          refine W.lcmp hx hb dX1_next_100 ?_
          refine lv_if_le (tgt := 127) hx hb dX1_next_101 (by decide) (fun c_39 => ?_) (fun c_39 => ?_)
          · skip
            have c_39 := (lg_cmp_le (ch B c9) (0 : Int64)).mp c_39
            exact absurd c_39 c_5
          · skip
            have c_39 := (not_congr (lg_cmp_le (ch B c9) (0 : Int64))).mp c_39
            have q8 : k9 < 100 := by
              have z : ¬ k9 = 100 := fun z => c_29 (by rw [z]; rfl)
              omega
            refine lv_aload_n hx hb dX1_next_104 rfl (lv_at hl 1 rfl) ?_
            refine va_get (D := (dC, dI)) (ci := 1) (v := .ref b) (C := RX1) (T := TX1) (N := 17) hx hb hts hin0 hown hK hP 0 rfl rfl 15 (by decide) fl17 (fun _ h9 => h9) rfl dX1_next_105 ?_
            refine lv_aload_n hx hb dX1_next_108 rfl (lv_at hl 1 rfl) ?_
            refine va_get (D := (dC, dI)) (ci := 1) (v := .int (nI k9)) (C := RX1) (T := TX1) (N := 17) hx hb hts hin0 hown hK hP 0 rfl rfl 16 (by decide) fl90 (fun _ h9 => h9) rfl dX1_next_109 ?_
            refine lv_aload_n hx hb dX1_next_112 rfl (lv_at hl 1 rfl) ?_
            refine va_get (D := (dC, dI)) (ci := 1) (v := .long (ch B c9)) (C := RX1) (T := TX1) (N := 17) hx hb hts hin0 hown hK hP 0 rfl rfl 9 (by decide) fl71 (fun _ h9 => h9) rfl dX1_next_113 ?_
            refine va_last hx hb hK hP hD hS 2 1 rfl rfl (vp_in_nI (by omega) (by decide)) dX1_next_116 (fun H locs hP hD hS => ?_)
            have hP : va_P (dC, dI) vwCl (w1 h a b cI cJ f (vp_updL (cc1 g k9) (nI k9).toNatClampNeg (ch B c9)) 0 (nI n8) (nI (nx B c9)) (nI (kd (B c9))) (nv B c9) ty1 (nI (hd (B c9))) (paL B c9) (ch B c9) (nI (kd (B c9))) ((nv B c9).toInt32) (hiV B c9) (nI (c9 + hd (B c9))) (pl B c9) (nI k9)) H := hP
            have hD : va_D A (w1 h a b cI cJ f (vp_updL (cc1 g k9) (nI k9).toNatClampNeg (ch B c9)) 0 (nI n8) (nI (nx B c9)) (nI (kd (B c9))) (nv B c9) ty1 (nI (hd (B c9))) (paL B c9) (ch B c9) (nI (kd (B c9))) ((nv B c9).toInt32) (hiV B c9) (nI (c9 + hd (B c9))) (pl B c9) (nI k9)) := hD
            refine lv_aload_n hx hb dX1_next_117 rfl (lv_at hl 1 rfl) ?_
            refine lv_dup hx hb dX1_next_118 rfl ?_
            refine va_get (D := (dC, dI)) (ci := 1) (v := .int (nI k9)) (C := RX1) (T := TX1) (N := 17) hx hb hts hin0 hown hK hP 0 rfl rfl 16 (by decide) fl90 (fun _ h9 => h9) rfl dX1_next_119 ?_
            refine lv_iconst (v := 1) hx hb dX1_next_122 (by decide) ?_
            refine lv_iadd hx hb dX1_next_123 ?_
            have e_40 : ((nI k9) + 1 : Int32) = nI (k9 + 1) := nI_1 k9
            rw [e_40]
            refine va_put (D := (dC, dI)) (ci := 1) (v := .int (nI (k9 + 1))) (ty := .int) (C := RX1) (T := TX1) (N := 17) hx hb hts hin0 tyX1 tyX1_ok nmX1 hown hK hP hD hS 0 rfl rfl 16 (by decide) fl90 (fun _ h9 => h9) rfl (by decide +kernel) rfl rfl (Nat.le_of_ble_eq_true rfl) dX1_next_124 (fun H locs hP hD hS => ?_)
            have hP : va_P (dC, dI) vwCl (w1 h a b cI cJ f (vp_updL (cc1 g k9) (nI k9).toNatClampNeg (ch B c9)) 0 (nI n8) (nI (nx B c9)) (nI (kd (B c9))) (nv B c9) ty1 (nI (hd (B c9))) (paL B c9) (ch B c9) (nI (kd (B c9))) ((nv B c9).toInt32) (hiV B c9) (nI (c9 + hd (B c9))) (pl B c9) (nI (k9 + 1))) H := hP
            have hD : va_D A (w1 h a b cI cJ f (vp_updL (cc1 g k9) (nI k9).toNatClampNeg (ch B c9)) 0 (nI n8) (nI (nx B c9)) (nI (kd (B c9))) (nv B c9) ty1 (nI (hd (B c9))) (paL B c9) (ch B c9) (nI (kd (B c9))) ((nv B c9).toInt32) (hiV B c9) (nI (c9 + hd (B c9))) (pl B c9) (nI (k9 + 1))) := hD
            have e_41 : (vp_updL (cc1 g k9) (nI k9).toNatClampNeg (ch B c9) : Nat → Int64) = og (cc1 g k9) k9 (ch B c9) := by rw [nI_clamp (by omega)]; exact (og_p ⟨Int64.not_le.mp c_5, q8⟩).symm
            rw [e_41] at hP hD
            have e_42 : (nI (k9 + 1) : Int32) = nI (ok k9 (ch B c9)) := by rw [ok_p ⟨Int64.not_le.mp c_5, q8⟩]
            rw [e_42] at hP hD
            have hP : va_P (dC, dI) vwCl (w1 h a b cI cJ f (og (cc1 g k9) k9 (ch B c9)) 0 (nI n8) (nI (nx B c9)) (nI (kd (B c9))) (nv B c9) ty1 (nI (hd (B c9))) (paL B c9) (ch B c9) (nI (kd (B c9))) ((nv B c9).toInt32) (hiV B c9) (nI (c9 + hd (B c9))) (pl B c9) (nI (ok k9 (ch B c9)))) H := hP
            have hD : va_D A (w1 h a b cI cJ f (og (cc1 g k9) k9 (ch B c9)) 0 (nI n8) (nI (nx B c9)) (nI (kd (B c9))) (nv B c9) ty1 (nI (hd (B c9))) (paL B c9) (ch B c9) (nI (kd (B c9))) ((nv B c9).toInt32) (hiV B c9) (nI (c9 + hd (B c9))) (pl B c9) (nI (ok k9 (ch B c9)))) := hD
            refine lv_aload_n hx hb dX1_next_127 rfl (lv_at hl 1 rfl) ?_
            refine gvv (As := []) (rest := []) ⟨hx, hb, hml, hown, hts⟩ (c_X1_closeDone l dC dI tk tw h a b cI cJ _ f (og (cc1 g k9) k9 (ch B c9)) 0 (nI n8) (nI (nx B c9)) (nI (kd (B c9))) (nv B c9) ty1 (nI (hd (B c9))) (paL B c9) (ch B c9) (nI (kd (B c9))) ((nv B c9).toInt32) (hiV B c9) (nI (c9 + hd (B c9))) (pl B c9) (ok k9 (ch B c9)) (ok_le hk9)) (cwV 0 hts gX1_next_X1_closeDone rfl rfl rfl (by decide +kernel) ⟨Nat.le_of_ble_eq_true rfl, Nat.le_of_ble_eq_true rfl⟩) hK hP hD hS hA hZ (q0 := 0) (ci := 1) rfl rfl rfl rfl hl.1 rfl (Nat.le_of_ble_eq_true rfl) dX1_next_128 ⟨Nat.le_of_ble_eq_true rfl, Nat.le_of_ble_eq_true rfl⟩ (fun u_45 H locs hw_43 hP hD hS => ?_)
            have hP : va_P (dC, dI) vwCl (w1 h a b cI cJ f (og (cc1 g k9) k9 (ch B c9)) 0 (nI n8) (nI (nx B c9)) (nI (kd (B c9))) (nv B c9) ty1 (nI (hd (B c9))) (paL B c9) (ch B c9) (nI (kd (B c9))) ((nv B c9).toInt32) (hiV B c9) (nI (c9 + hd (B c9))) (pl B c9) (nI (cl (og (cc1 g k9) k9 (ch B c9)) (ok k9 (ch B c9))))) H := hP
            have hD : va_D A (w1 h a b cI cJ f (og (cc1 g k9) k9 (ch B c9)) 0 (nI n8) (nI (nx B c9)) (nI (kd (B c9))) (nv B c9) ty1 (nI (hd (B c9))) (paL B c9) (ch B c9) (nI (kd (B c9))) ((nv B c9).toInt32) (hiV B c9) (nI (c9 + hd (B c9))) (pl B c9) (nI (cl (og (cc1 g k9) k9 (ch B c9)) (ok k9 (ch B c9))))) := hD
            refine lv_aload_n hx hb dX1_next_131 rfl (lv_at hl 1 rfl) ?_
            refine va_get (D := (dC, dI)) (ci := 1) (v := .int (nI (kd (B c9)))) (C := RX1) (T := TX1) (N := 17) hx hb hts hin0 hown hK hP 0 rfl rfl 4 (by decide) fl47 (fun _ h9 => h9) rfl dX1_next_132 ?_
            have hP9 : va_P (dC, dI) vwCl ((fun (u : (Int32 × Int64 × Int32 × Int32 × Int64 × Int64) × ((Nat → Int64) × Int32 × Int32 × Int32 × Int32 × Int32 × Int32 × Int32)) => w1 h a b cI cJ f u.2.1 0 (nI n8) u.2.2.1 u.1.1 u.1.2.1 u.1.2.2.1 u.1.2.2.2.1 u.1.2.2.2.2.1 u.1.2.2.2.2.2 u.2.2.2.1 u.2.2.2.2.1 u.2.2.2.2.2.1 u.2.2.2.2.2.2.1 u.2.2.2.2.2.2.2.1 u.2.2.2.2.2.2.2.2) (((nI (kd (B c9)), nv B c9, ty1, nI (hd (B c9)), paL B c9, ch B c9), (og (cc1 g k9) k9 (ch B c9), nI (nx B c9), nI (kd (B c9)), (nv B c9).toInt32, hiV B c9, nI (c9 + hd (B c9)), pl B c9, nI (cl (og (cc1 g k9) k9 (ch B c9)) (ok k9 (ch B c9))))))) H := hP
            have hD9 : va_D A ((fun (u : (Int32 × Int64 × Int32 × Int32 × Int64 × Int64) × ((Nat → Int64) × Int32 × Int32 × Int32 × Int32 × Int32 × Int32 × Int32)) => w1 h a b cI cJ f u.2.1 0 (nI n8) u.2.2.1 u.1.1 u.1.2.1 u.1.2.2.1 u.1.2.2.2.1 u.1.2.2.2.2.1 u.1.2.2.2.2.2 u.2.2.2.1 u.2.2.2.2.1 u.2.2.2.2.2.1 u.2.2.2.2.2.2.1 u.2.2.2.2.2.2.2.1 u.2.2.2.2.2.2.2.2) (((nI (kd (B c9)), nv B c9, ty1, nI (hd (B c9)), paL B c9, ch B c9), (og (cc1 g k9) k9 (ch B c9), nI (nx B c9), nI (kd (B c9)), (nv B c9).toInt32, hiV B c9, nI (c9 + hd (B c9)), pl B c9, nI (cl (og (cc1 g k9) k9 (ch B c9)) (ok k9 (ch B c9))))))) := hD
            exact W.iret (v := nI (kd (B c9))) hx hb hr (fun t ht hW => ⟨⟨nI (kd (B c9)), ((nI (kd (B c9)), nv B c9, ty1, nI (hd (B c9)), paL B c9, ch B c9), (og (cc1 g k9) k9 (ch B c9), nI (nx B c9), nI (kd (B c9)), (nv B c9).toInt32, hiV B c9, nI (c9 + hd (B c9)), pl B c9, nI (cl (og (cc1 g k9) k9 (ch B c9)) (ok k9 (ch B c9))))), rfl, (Or.inr (Or.inr ⟨p1, fun z => c_29 (by rw [z.2]; rfl), rfl, rfl⟩)), by rw [ht]; exact hP9, va_K.moved hW.alike hK, hD9⟩, hS.F ht⟩) hS.2.2 dX1_next_135
        · skip
          have q0 : 0 < k9 := Nat.pos_of_ne_zero (fun z => c_37 (by rw [z]; decide))
          have q3 : nI k9 - 1 = nI (k9 - 1) := pk_sub (b := 1) q0
          refine lv_aload_n hx hb dX1_next_80 rfl (lv_at hl 1 rfl) ?_
          refine va_get (D := (dC, dI)) (ci := 1) (v := .ref b) (C := RX1) (T := TX1) (N := 17) hx hb hts hin0 hown hK hP 0 rfl rfl 15 (by decide) fl17 (fun _ h9 => h9) rfl dX1_next_81 ?_
          refine lv_aload_n hx hb dX1_next_84 rfl (lv_at hl 1 rfl) ?_
          refine va_get (D := (dC, dI)) (ci := 1) (v := .int (nI k9)) (C := RX1) (T := TX1) (N := 17) hx hb hts hin0 hown hK hP 0 rfl rfl 16 (by decide) fl90 (fun _ h9 => h9) rfl dX1_next_85 ?_
          refine lv_iconst (v := 1) hx hb dX1_next_88 (by decide) ?_
          refine lv_isub hx hb dX1_next_89 ?_
          have e_46 : ((nI k9) - 1 : Int32) = nI (k9 - 1) := q3
          rw [e_46]
          refine lv_dup2_11 hx hb dX1_next_90 rfl rfl ?_
          refine va_lald hx hb hK hP 2 1 rfl rfl (vp_in_nI (by omega) (by decide)) dX1_next_91 ?_
          refine lv_lconst (v := 1) hx hb dX1_next_92 (by decide) ?_
          refine lv_lsub hx hb dX1_next_93 ?_
          refine va_last hx hb hK hP hD hS 2 1 rfl rfl (vp_in_nI (by omega) (by decide)) dX1_next_94 (fun H locs hP hD hS => ?_)
          have hP : va_P (dC, dI) vwCl (w1 h a b cI cJ f (vp_updL g (nI (k9 - 1)).toNatClampNeg ((g (nI (k9 - 1)).toNatClampNeg) - 1)) 0 (nI n8) (nI (nx B c9)) (nI (kd (B c9))) (nv B c9) ty1 (nI (hd (B c9))) (paL B c9) (ch B c9) (nI (kd (B c9))) ((nv B c9).toInt32) (hiV B c9) (nI (c9 + hd (B c9))) (pl B c9) (nI k9)) H := hP
          have hD : va_D A (w1 h a b cI cJ f (vp_updL g (nI (k9 - 1)).toNatClampNeg ((g (nI (k9 - 1)).toNatClampNeg) - 1)) 0 (nI n8) (nI (nx B c9)) (nI (kd (B c9))) (nv B c9) ty1 (nI (hd (B c9))) (paL B c9) (ch B c9) (nI (kd (B c9))) ((nv B c9).toInt32) (hiV B c9) (nI (c9 + hd (B c9))) (pl B c9) (nI k9)) := hD
          have e_47 : (vp_updL g (nI (k9 - 1)).toNatClampNeg ((g (nI (k9 - 1)).toNatClampNeg) - 1) : Nat → Int64) = cc1 g k9 := by rw [nI_clamp (by omega)]; exact (cc1_p q0).symm
          rw [e_47] at hP hD
          have hP : va_P (dC, dI) vwCl (w1 h a b cI cJ f (cc1 g k9) 0 (nI n8) (nI (nx B c9)) (nI (kd (B c9))) (nv B c9) ty1 (nI (hd (B c9))) (paL B c9) (ch B c9) (nI (kd (B c9))) ((nv B c9).toInt32) (hiV B c9) (nI (c9 + hd (B c9))) (pl B c9) (nI k9)) H := hP
          have hD : va_D A (w1 h a b cI cJ f (cc1 g k9) 0 (nI n8) (nI (nx B c9)) (nI (kd (B c9))) (nv B c9) ty1 (nI (hd (B c9))) (paL B c9) (ch B c9) (nI (kd (B c9))) ((nv B c9).toInt32) (hiV B c9) (nI (c9 + hd (B c9))) (pl B c9) (nI k9)) := hD
          refine lv_aload_n hx hb dX1_next_95 rfl (lv_at hl 1 rfl) ?_
          refine va_get (D := (dC, dI)) (ci := 1) (v := .long (ch B c9)) (C := RX1) (T := TX1) (N := 17) hx hb hts hin0 hown hK hP 0 rfl rfl 9 (by decide) fl71 (fun _ h9 => h9) rfl dX1_next_96 ?_
          refine lv_lconst (v := 0) hx hb dX1_next_99 (by decide) ?_
          refine W.lcmp hx hb dX1_next_100 ?_
          refine lv_if_le (tgt := 127) hx hb dX1_next_101 (by decide) (fun c_48 => ?_) (fun c_48 => ?_)
          · skip
            have c_48 := (lg_cmp_le (ch B c9) (0 : Int64)).mp c_48
            exact absurd c_48 c_5
          · skip
            have c_48 := (not_congr (lg_cmp_le (ch B c9) (0 : Int64))).mp c_48
            have q8 : k9 < 100 := by
              have z : ¬ k9 = 100 := fun z => c_29 (by rw [z]; rfl)
              omega
            refine lv_aload_n hx hb dX1_next_104 rfl (lv_at hl 1 rfl) ?_
            refine va_get (D := (dC, dI)) (ci := 1) (v := .ref b) (C := RX1) (T := TX1) (N := 17) hx hb hts hin0 hown hK hP 0 rfl rfl 15 (by decide) fl17 (fun _ h9 => h9) rfl dX1_next_105 ?_
            refine lv_aload_n hx hb dX1_next_108 rfl (lv_at hl 1 rfl) ?_
            refine va_get (D := (dC, dI)) (ci := 1) (v := .int (nI k9)) (C := RX1) (T := TX1) (N := 17) hx hb hts hin0 hown hK hP 0 rfl rfl 16 (by decide) fl90 (fun _ h9 => h9) rfl dX1_next_109 ?_
            refine lv_aload_n hx hb dX1_next_112 rfl (lv_at hl 1 rfl) ?_
            refine va_get (D := (dC, dI)) (ci := 1) (v := .long (ch B c9)) (C := RX1) (T := TX1) (N := 17) hx hb hts hin0 hown hK hP 0 rfl rfl 9 (by decide) fl71 (fun _ h9 => h9) rfl dX1_next_113 ?_
            refine va_last hx hb hK hP hD hS 2 1 rfl rfl (vp_in_nI (by omega) (by decide)) dX1_next_116 (fun H locs hP hD hS => ?_)
            have hP : va_P (dC, dI) vwCl (w1 h a b cI cJ f (vp_updL (cc1 g k9) (nI k9).toNatClampNeg (ch B c9)) 0 (nI n8) (nI (nx B c9)) (nI (kd (B c9))) (nv B c9) ty1 (nI (hd (B c9))) (paL B c9) (ch B c9) (nI (kd (B c9))) ((nv B c9).toInt32) (hiV B c9) (nI (c9 + hd (B c9))) (pl B c9) (nI k9)) H := hP
            have hD : va_D A (w1 h a b cI cJ f (vp_updL (cc1 g k9) (nI k9).toNatClampNeg (ch B c9)) 0 (nI n8) (nI (nx B c9)) (nI (kd (B c9))) (nv B c9) ty1 (nI (hd (B c9))) (paL B c9) (ch B c9) (nI (kd (B c9))) ((nv B c9).toInt32) (hiV B c9) (nI (c9 + hd (B c9))) (pl B c9) (nI k9)) := hD
            refine lv_aload_n hx hb dX1_next_117 rfl (lv_at hl 1 rfl) ?_
            refine lv_dup hx hb dX1_next_118 rfl ?_
            refine va_get (D := (dC, dI)) (ci := 1) (v := .int (nI k9)) (C := RX1) (T := TX1) (N := 17) hx hb hts hin0 hown hK hP 0 rfl rfl 16 (by decide) fl90 (fun _ h9 => h9) rfl dX1_next_119 ?_
            refine lv_iconst (v := 1) hx hb dX1_next_122 (by decide) ?_
            refine lv_iadd hx hb dX1_next_123 ?_
            have e_49 : ((nI k9) + 1 : Int32) = nI (k9 + 1) := nI_1 k9
            rw [e_49]
            refine va_put (D := (dC, dI)) (ci := 1) (v := .int (nI (k9 + 1))) (ty := .int) (C := RX1) (T := TX1) (N := 17) hx hb hts hin0 tyX1 tyX1_ok nmX1 hown hK hP hD hS 0 rfl rfl 16 (by decide) fl90 (fun _ h9 => h9) rfl (by decide +kernel) rfl rfl (Nat.le_of_ble_eq_true rfl) dX1_next_124 (fun H locs hP hD hS => ?_)
            have hP : va_P (dC, dI) vwCl (w1 h a b cI cJ f (vp_updL (cc1 g k9) (nI k9).toNatClampNeg (ch B c9)) 0 (nI n8) (nI (nx B c9)) (nI (kd (B c9))) (nv B c9) ty1 (nI (hd (B c9))) (paL B c9) (ch B c9) (nI (kd (B c9))) ((nv B c9).toInt32) (hiV B c9) (nI (c9 + hd (B c9))) (pl B c9) (nI (k9 + 1))) H := hP
            have hD : va_D A (w1 h a b cI cJ f (vp_updL (cc1 g k9) (nI k9).toNatClampNeg (ch B c9)) 0 (nI n8) (nI (nx B c9)) (nI (kd (B c9))) (nv B c9) ty1 (nI (hd (B c9))) (paL B c9) (ch B c9) (nI (kd (B c9))) ((nv B c9).toInt32) (hiV B c9) (nI (c9 + hd (B c9))) (pl B c9) (nI (k9 + 1))) := hD
            have e_50 : (vp_updL (cc1 g k9) (nI k9).toNatClampNeg (ch B c9) : Nat → Int64) = og (cc1 g k9) k9 (ch B c9) := by rw [nI_clamp (by omega)]; exact (og_p ⟨Int64.not_le.mp c_5, q8⟩).symm
            rw [e_50] at hP hD
            have e_51 : (nI (k9 + 1) : Int32) = nI (ok k9 (ch B c9)) := by rw [ok_p ⟨Int64.not_le.mp c_5, q8⟩]
            rw [e_51] at hP hD
            have hP : va_P (dC, dI) vwCl (w1 h a b cI cJ f (og (cc1 g k9) k9 (ch B c9)) 0 (nI n8) (nI (nx B c9)) (nI (kd (B c9))) (nv B c9) ty1 (nI (hd (B c9))) (paL B c9) (ch B c9) (nI (kd (B c9))) ((nv B c9).toInt32) (hiV B c9) (nI (c9 + hd (B c9))) (pl B c9) (nI (ok k9 (ch B c9)))) H := hP
            have hD : va_D A (w1 h a b cI cJ f (og (cc1 g k9) k9 (ch B c9)) 0 (nI n8) (nI (nx B c9)) (nI (kd (B c9))) (nv B c9) ty1 (nI (hd (B c9))) (paL B c9) (ch B c9) (nI (kd (B c9))) ((nv B c9).toInt32) (hiV B c9) (nI (c9 + hd (B c9))) (pl B c9) (nI (ok k9 (ch B c9)))) := hD
            refine lv_aload_n hx hb dX1_next_127 rfl (lv_at hl 1 rfl) ?_
            refine gvv (As := []) (rest := []) ⟨hx, hb, hml, hown, hts⟩ (c_X1_closeDone l dC dI tk tw h a b cI cJ _ f (og (cc1 g k9) k9 (ch B c9)) 0 (nI n8) (nI (nx B c9)) (nI (kd (B c9))) (nv B c9) ty1 (nI (hd (B c9))) (paL B c9) (ch B c9) (nI (kd (B c9))) ((nv B c9).toInt32) (hiV B c9) (nI (c9 + hd (B c9))) (pl B c9) (ok k9 (ch B c9)) (ok_le hk9)) (cwV 0 hts gX1_next_X1_closeDone rfl rfl rfl (by decide +kernel) ⟨Nat.le_of_ble_eq_true rfl, Nat.le_of_ble_eq_true rfl⟩) hK hP hD hS hA hZ (q0 := 0) (ci := 1) rfl rfl rfl rfl hl.1 rfl (Nat.le_of_ble_eq_true rfl) dX1_next_128 ⟨Nat.le_of_ble_eq_true rfl, Nat.le_of_ble_eq_true rfl⟩ (fun u_54 H locs hw_52 hP hD hS => ?_)
            have hP : va_P (dC, dI) vwCl (w1 h a b cI cJ f (og (cc1 g k9) k9 (ch B c9)) 0 (nI n8) (nI (nx B c9)) (nI (kd (B c9))) (nv B c9) ty1 (nI (hd (B c9))) (paL B c9) (ch B c9) (nI (kd (B c9))) ((nv B c9).toInt32) (hiV B c9) (nI (c9 + hd (B c9))) (pl B c9) (nI (cl (og (cc1 g k9) k9 (ch B c9)) (ok k9 (ch B c9))))) H := hP
            have hD : va_D A (w1 h a b cI cJ f (og (cc1 g k9) k9 (ch B c9)) 0 (nI n8) (nI (nx B c9)) (nI (kd (B c9))) (nv B c9) ty1 (nI (hd (B c9))) (paL B c9) (ch B c9) (nI (kd (B c9))) ((nv B c9).toInt32) (hiV B c9) (nI (c9 + hd (B c9))) (pl B c9) (nI (cl (og (cc1 g k9) k9 (ch B c9)) (ok k9 (ch B c9))))) := hD
            refine lv_aload_n hx hb dX1_next_131 rfl (lv_at hl 1 rfl) ?_
            refine va_get (D := (dC, dI)) (ci := 1) (v := .int (nI (kd (B c9)))) (C := RX1) (T := TX1) (N := 17) hx hb hts hin0 hown hK hP 0 rfl rfl 4 (by decide) fl47 (fun _ h9 => h9) rfl dX1_next_132 ?_
            have hP9 : va_P (dC, dI) vwCl ((fun (u : (Int32 × Int64 × Int32 × Int32 × Int64 × Int64) × ((Nat → Int64) × Int32 × Int32 × Int32 × Int32 × Int32 × Int32 × Int32)) => w1 h a b cI cJ f u.2.1 0 (nI n8) u.2.2.1 u.1.1 u.1.2.1 u.1.2.2.1 u.1.2.2.2.1 u.1.2.2.2.2.1 u.1.2.2.2.2.2 u.2.2.2.1 u.2.2.2.2.1 u.2.2.2.2.2.1 u.2.2.2.2.2.2.1 u.2.2.2.2.2.2.2.1 u.2.2.2.2.2.2.2.2) (((nI (kd (B c9)), nv B c9, ty1, nI (hd (B c9)), paL B c9, ch B c9), (og (cc1 g k9) k9 (ch B c9), nI (nx B c9), nI (kd (B c9)), (nv B c9).toInt32, hiV B c9, nI (c9 + hd (B c9)), pl B c9, nI (cl (og (cc1 g k9) k9 (ch B c9)) (ok k9 (ch B c9))))))) H := hP
            have hD9 : va_D A ((fun (u : (Int32 × Int64 × Int32 × Int32 × Int64 × Int64) × ((Nat → Int64) × Int32 × Int32 × Int32 × Int32 × Int32 × Int32 × Int32)) => w1 h a b cI cJ f u.2.1 0 (nI n8) u.2.2.1 u.1.1 u.1.2.1 u.1.2.2.1 u.1.2.2.2.1 u.1.2.2.2.2.1 u.1.2.2.2.2.2 u.2.2.2.1 u.2.2.2.2.1 u.2.2.2.2.2.1 u.2.2.2.2.2.2.1 u.2.2.2.2.2.2.2.1 u.2.2.2.2.2.2.2.2) (((nI (kd (B c9)), nv B c9, ty1, nI (hd (B c9)), paL B c9, ch B c9), (og (cc1 g k9) k9 (ch B c9), nI (nx B c9), nI (kd (B c9)), (nv B c9).toInt32, hiV B c9, nI (c9 + hd (B c9)), pl B c9, nI (cl (og (cc1 g k9) k9 (ch B c9)) (ok k9 (ch B c9))))))) := hD
            exact W.iret (v := nI (kd (B c9))) hx hb hr (fun t ht hW => ⟨⟨nI (kd (B c9)), ((nI (kd (B c9)), nv B c9, ty1, nI (hd (B c9)), paL B c9, ch B c9), (og (cc1 g k9) k9 (ch B c9), nI (nx B c9), nI (kd (B c9)), (nv B c9).toInt32, hiV B c9, nI (c9 + hd (B c9)), pl B c9, nI (cl (og (cc1 g k9) k9 (ch B c9)) (ok k9 (ch B c9))))), rfl, (Or.inr (Or.inr ⟨p1, fun z => c_29 (by rw [z.2]; rfl), rfl, rfl⟩)), by rw [ht]; exact hP9, va_K.moved hW.alike hK, hD9⟩, hS.F ht⟩) hS.2.2 dX1_next_135
      · skip
        refine lv_bipush (v := -5) hx hb dX1_next_38 (by decide) ?_
        have hP9 : va_P (dC, dI) vwCl ((fun (u : (Int32 × Int64 × Int32 × Int32 × Int64 × Int64) × ((Nat → Int64) × Int32 × Int32 × Int32 × Int32 × Int32 × Int32 × Int32)) => w1 h a b cI cJ f u.2.1 0 (nI n8) u.2.2.1 u.1.1 u.1.2.1 u.1.2.2.1 u.1.2.2.2.1 u.1.2.2.2.2.1 u.1.2.2.2.2.2 u.2.2.2.1 u.2.2.2.2.1 u.2.2.2.2.2.1 u.2.2.2.2.2.2.1 u.2.2.2.2.2.2.2.1 u.2.2.2.2.2.2.2.2) (((nI (kd (B c9)), nv B c9, ty1, nI (hd (B c9)), paL B c9, ch B c9), (g, nI c9, zlk, zlo, zhi, zlp, zll, nI k9)))) H := hP
        have hD9 : va_D A ((fun (u : (Int32 × Int64 × Int32 × Int32 × Int64 × Int64) × ((Nat → Int64) × Int32 × Int32 × Int32 × Int32 × Int32 × Int32 × Int32)) => w1 h a b cI cJ f u.2.1 0 (nI n8) u.2.2.1 u.1.1 u.1.2.1 u.1.2.2.1 u.1.2.2.2.1 u.1.2.2.2.2.1 u.1.2.2.2.2.2 u.2.2.2.1 u.2.2.2.2.1 u.2.2.2.2.2.1 u.2.2.2.2.2.2.1 u.2.2.2.2.2.2.2.1 u.2.2.2.2.2.2.2.2) (((nI (kd (B c9)), nv B c9, ty1, nI (hd (B c9)), paL B c9, ch B c9), (g, nI c9, zlk, zlo, zhi, zlp, zll, nI k9)))) := hD
        exact W.iret (v := -5) hx hb hr (fun t ht hW => ⟨⟨-5, ((nI (kd (B c9)), nv B c9, ty1, nI (hd (B c9)), paL B c9, ch B c9), (g, nI c9, zlk, zlo, zhi, zlp, zll, nI k9)), rfl, (Or.inr (Or.inl ⟨p1, Int64.not_le.mp c_5, (nI_eq (b := 100) (by omega) (by decide)).mp c_29, rfl, rfl⟩)), by rw [ht]; exact hP9, va_K.moved hW.alike hK, hD9⟩, hS.F ht⟩) hS.2.2 dX1_next_40
  · skip
    refine lv_iload_n hx hb dX1_next_18 rfl (lv_at hl 0 rfl) ?_
    have hP9 : va_P (dC, dI) vwCl ((fun (u : (Int32 × Int64 × Int32 × Int32 × Int64 × Int64) × ((Nat → Int64) × Int32 × Int32 × Int32 × Int32 × Int32 × Int32 × Int32)) => w1 h a b cI cJ f u.2.1 0 (nI n8) u.2.2.1 u.1.1 u.1.2.1 u.1.2.2.1 u.1.2.2.2.1 u.1.2.2.2.2.1 u.1.2.2.2.2.2 u.2.2.2.1 u.2.2.2.2.1 u.2.2.2.2.2.1 u.2.2.2.2.2.2.1 u.2.2.2.2.2.2.2.1 u.2.2.2.2.2.2.2.2) (((so1, nu1, ty1, hd1, pa1, ch1), (g, nI c9, zlk, zlo, zhi, zlp, zll, nI k9)))) H := hP
    have hD9 : va_D A ((fun (u : (Int32 × Int64 × Int32 × Int32 × Int64 × Int64) × ((Nat → Int64) × Int32 × Int32 × Int32 × Int32 × Int32 × Int32 × Int32)) => w1 h a b cI cJ f u.2.1 0 (nI n8) u.2.2.1 u.1.1 u.1.2.1 u.1.2.2.1 u.1.2.2.2.1 u.1.2.2.2.2.1 u.1.2.2.2.2.2 u.2.2.2.1 u.2.2.2.2.1 u.2.2.2.2.2.1 u.2.2.2.2.2.2.1 u.2.2.2.2.2.2.2.1 u.2.2.2.2.2.2.2.2) (((so1, nu1, ty1, hd1, pa1, ch1), (g, nI c9, zlk, zlo, zhi, zlp, zll, nI k9)))) := hD
    exact W.iret (v := r_2) hx hb hr (fun t ht hW => ⟨⟨r_2, ((so1, nu1, ty1, hd1, pa1, ch1), (g, nI c9, zlk, zlo, zhi, zlp, zll, nI k9)), rfl, (Or.inl ⟨(loP_no hw_1 c_4).1, (loP_no hw_1 c_4).2, rfl⟩), by rw [ht]; exact hP9, va_K.moved hW.alike hK, hD9⟩, hS.F ht⟩) hS.2.2 dX1_next_19
set_option maxHeartbeats 4000000 in
set_option maxRecDepth 100000 in
theorem c_X1_skip (l : Launch) (dC : Nat → ClassId) (dI : Nat → Nat → Nat) (tk tw : Nat) (h a b : Nat) (cI cJ : ClassId) (sz : Nat) (f : Nat → Int32) (g : Nat → Int64) (zt : Int32) (zso : Int32) (znu : Int64) (zty : Int32) (zhd : Int32) (zpa : Int64) (zch : Int64) (zlk : Int32) (zlo : Int32) (zhi : Int32) (zlp : Int32) (zll : Int32) (B : Nat → Nat) (hB : ∀ j, B j < 256) (n8 c9 : Nat) (hn8 : n8 ≤ 4096) (hc9 : c9 ≤ 4096) (hf9 : ∀ j, j < n8 → f j = nI (B j)) (k9 : Nat) (hk9 : k9 ≤ 100) : Met l yX1_skip wsX1_skip ({ frames := 3, cells := 0, slots := 0, locals := 74 }) (va_Pc [.ref h] (pr dC dI (t1 cI cJ) (w1 h a b cI cJ f g zt (nI n8) (nI c9) zso znu zty zhd zpa zch zlk zlo zhi zlp zll (nI k9)) sz tk tw)) (va_Qi (fun (r : Int32) (u : (Int32 × Int64 × Int32 × Int32 × Int64 × Int64) × ((Nat → Int64) × Int32 × Int32 × Int32 × Int32 × Int32 × Int32 × Int32)) => syP B g n8 c9 (zlk, zlo, zhi, zlp, zll) k9 r u.2) (fun (u : (Int32 × Int64 × Int32 × Int32 × Int64 × Int64) × ((Nat → Int64) × Int32 × Int32 × Int32 × Int32 × Int32 × Int32 × Int32)) => po dC dI (t1 cI cJ) (va_A (w1 h a b cI cJ f g zt (nI n8) (nI c9) zso znu zty zhd zpa zch zlk zlo zhi zlp zll (nI k9)) sz) (w1 h a b cI cJ f u.2.1 0 (nI n8) u.2.2.1 u.1.1 u.1.2.1 u.1.2.2.1 u.1.2.2.2.1 u.1.2.2.2.2.1 u.1.2.2.2.2.2 u.2.2.2.1 u.2.2.2.2.1 u.2.2.2.2.2.1 u.2.2.2.2.2.2.1 u.2.2.2.2.2.2.2.1 u.2.2.2.2.2.2.2.2)) (va_A (w1 h a b cI cJ f g zt (nI n8) (nI c9) zso znu zty zhd zpa zch zlk zlo zhi zlp zll (nI k9)) sz)) 0 0 (va_A (w1 h a b cI cJ f g zt (nI n8) (nI c9) zso znu zty zhd zpa zch zlk zlo zhi zlp zll (nI k9)) sz) := by
  refine Met.ofW (cc := cX1_skip) (maxL := 3) (ret := (some .int)) (by decide) rfl ?_
  intro p e s m args below meth c s₁ Bd hml hv
  obtain ⟨rfl, hsz, hP, hK, hD0, hZ⟩ := hv
  have hx := Bd.exec
  have hb := Bd.bytes
  have hr := Bd.returns
  have hts := atoms_spec (ws := wsX1_skip) Bd.pre
  have hown : s.vm.findClass RX1 = some m.cls := findClass_of_methodNamed Bd.named
  have hlocks := Bd.notSynchronized
  subst hsz
  have hD := hD0.self (sz := s.heap.size)
  generalize hAe : va_A (w1 h a b cI cJ f g zt (nI n8) (nI c9) zso znu zty zhd zpa zch zlk zlo zhi zlp zll (nI k9)) s.heap.size = A at hD hZ ⊢
  have hA : ∀ q : Nat, s.heap.size ≤ q → A q := fun q h => by rw [← hAe]; exact Or.inr h
  have hS : va_S A s.heap s.heap [] := va_S.rf
  have hP : va_P (dC, dI) vwCl (w1 h a b cI cJ f g zt (nI n8) (nI c9) zso znu zty zhd zpa zch zlk zlo zhi zlp zll (nI k9)) s.heap := hP
  have hin0 : ∀ w ∈ wsX10, w ∈ wsX1_skip := by decide +kernel
  have fl17 := hts (.fieldLink RX1 17 "MessageReaderModel" "open" "[J") (by decide +kernel)
  have fl21 := hts (.fieldLink RX1 21 "MessageReaderModel" "thrown" "I") (by decide +kernel)
  have fl37 := hts (.fieldLink RX1 37 "MessageReaderModel" "consumed" "I") (by decide +kernel)
  have fl68 := hts (.fieldLink RX1 68 "MessageReaderModel" "payload" "J") (by decide +kernel)
  have fl90 := hts (.fieldLink RX1 90 "MessageReaderModel" "level" "I") (by decide +kernel)
  have hl := lv_entry ([.ref h]) (n := 3) (Nat.le_of_ble_eq_true rfl)
  rw [lg_entry_eq]
  generalize (lg_sl ([.ref h]) ++ List.replicate (3 - (lg_sl ([.ref h])).length) Slot.unset).toArray = ls at hl ⊢
  have hl : lv_has ls 3 [(0, .ref h)] := hl
  refine lv_aload_n hx hb dX1_skip_0 rfl (lv_at hl 0 rfl) ?_
  refine lv_iconst (v := 0) hx hb dX1_skip_1 (by decide) ?_
  refine va_put (D := (dC, dI)) (ci := 1) (v := .int 0) (ty := .int) (C := RX1) (T := TX1) (N := 17) hx hb hts hin0 tyX1 tyX1_ok nmX1 hown hK hP hD hS 0 rfl rfl 0 (by decide) fl21 (fun _ h9 => h9) rfl (by decide +kernel) rfl rfl (Nat.le_of_ble_eq_true rfl) dX1_skip_2 (fun H locs hP hD hS => ?_)
  have hP : va_P (dC, dI) vwCl (w1 h a b cI cJ f g 0 (nI n8) (nI c9) zso znu zty zhd zpa zch zlk zlo zhi zlp zll (nI k9)) H := hP
  have hD : va_D A (w1 h a b cI cJ f g 0 (nI n8) (nI c9) zso znu zty zhd zpa zch zlk zlo zhi zlp zll (nI k9)) := hD
  refine lv_aload_n hx hb dX1_skip_5 rfl (lv_at hl 0 rfl) ?_
  refine lv_aload_n hx hb dX1_skip_6 rfl (lv_at hl 0 rfl) ?_
  refine va_get (D := (dC, dI)) (ci := 1) (v := .int (nI c9)) (C := RX1) (T := TX1) (N := 17) hx hb hts hin0 hown hK hP 0 rfl rfl 3 (by decide) fl37 (fun _ h9 => h9) rfl dX1_skip_7 ?_
  refine gvi (As := [.int (nI c9)]) (rest := []) ⟨hx, hb, hml, hown, hts⟩ (c_X1_end l dC dI tk tw h a b cI cJ _ f g 0 (nI c9) zso znu zty zhd zpa zch zlk zlo zhi zlp zll (nI k9) B hB n8 c9 hn8 hc9 hf9) (cwV 1 hts gX1_skip_X1_end rfl rfl rfl (by decide +kernel) ⟨Nat.le_of_ble_eq_true rfl, Nat.le_of_ble_eq_true rfl⟩) hK hP hD hS hA hZ (q0 := 0) (ci := 1) rfl rfl rfl rfl hl.1 rfl (Nat.le_of_ble_eq_true rfl) dX1_skip_10 ⟨Nat.le_of_ble_eq_true rfl, Nat.le_of_ble_eq_true rfl⟩ (fun r_2 u_3 H locs hw_1 hP hD hS => ?_)
  obtain ⟨so1, nu1, ty1, hd1, pa1, ch1⟩ := u_3
  have hP : va_P (dC, dI) vwCl (w1 h a b cI cJ f g 0 (nI n8) (nI c9) so1 nu1 ty1 hd1 pa1 ch1 zlk zlo zhi zlp zll (nI k9)) H := hP
  have hD : va_D A (w1 h a b cI cJ f g 0 (nI n8) (nI c9) so1 nu1 ty1 hd1 pa1 ch1 zlk zlo zhi zlp zll (nI k9)) := hD
  refine lv_istore_n (lv' := [(1, .int r_2), (0, .ref h)]) hx hb dX1_skip_13 rfl hl (by decide) rfl (fun ls hl => ?_)
  refine lv_iload_n hx hb dX1_skip_14 rfl (lv_at hl 0 rfl) ?_
  refine lv_if_ge (tgt := 20) hx hb dX1_skip_15 (by decide) (fun c_4 => ?_) (fun c_4 => ?_)
  · skip
    obtain ⟨p1, p0, p2⟩ := enP_ok hw_1 c_4
    have p2 : so1 = nI (kd (B (wk B n8 4097 c9 1).2)) ∧ nu1 = nv B (wk B n8 4097 c9 1).2 ∧ (kd (B (wk B n8 4097 c9 1).2) = 12 → ty1 = tyS B (wk B n8 4097 c9 1).2) ∧ hd1 = nI (hd (B (wk B n8 4097 c9 1).2)) ∧ pa1 = paL B (wk B n8 4097 c9 1).2 ∧ ch1 = ch B (wk B n8 4097 c9 1).2 := p2
    obtain ⟨rfl, rfl, p5, rfl, rfl, rfl⟩ := p2
    have q1 := wk_lk hB hn8 hc9 p1
    have q2 := wk_end hB hn8 hc9 p1
    have hP : va_P (dC, dI) vwCl (w1 h a b cI cJ f g 0 (nI n8) (nI c9) (nI (kd (B (wk B n8 4097 c9 1).2))) (nv B (wk B n8 4097 c9 1).2) ty1 (nI (hd (B (wk B n8 4097 c9 1).2))) (paL B (wk B n8 4097 c9 1).2) (ch B (wk B n8 4097 c9 1).2) zlk zlo zhi zlp zll (nI k9)) H := hP
    have hD : va_D A (w1 h a b cI cJ f g 0 (nI n8) (nI c9) (nI (kd (B (wk B n8 4097 c9 1).2))) (nv B (wk B n8 4097 c9 1).2) ty1 (nI (hd (B (wk B n8 4097 c9 1).2))) (paL B (wk B n8 4097 c9 1).2) (ch B (wk B n8 4097 c9 1).2) zlk zlo zhi zlp zll (nI k9)) := hD
    refine lv_aload_n hx hb dX1_skip_20 rfl (lv_at hl 1 rfl) ?_
    refine lv_iload_n hx hb dX1_skip_21 rfl (lv_at hl 0 rfl) ?_
    refine lv_aload_n hx hb dX1_skip_22 rfl (lv_at hl 1 rfl) ?_
    refine va_get (D := (dC, dI)) (ci := 1) (v := .long (paL B (wk B n8 4097 c9 1).2)) (C := RX1) (T := TX1) (N := 17) hx hb hts hin0 hown hK hP 0 rfl rfl 8 (by decide) fl68 (fun _ h9 => h9) rfl dX1_skip_23 ?_
    refine lv_l2i hx hb dX1_skip_26 rfl ?_
    refine lv_isub hx hb dX1_skip_27 ?_
    have e_5 : (r_2 - ((paL B (wk B n8 4097 c9 1).2).toInt32) : Int32) = nI ((wk B n8 4097 c9 1).2 + hd (B (wk B n8 4097 c9 1).2)) := by rw [p0]; exact nx_sub hB hn8 q2.2.1 q1
    rw [e_5]
    refine gvv (As := [.int (nI ((wk B n8 4097 c9 1).2 + hd (B (wk B n8 4097 c9 1).2)))]) (rest := []) ⟨hx, hb, hml, hown, hts⟩ (c_X1_give l dC dI tk tw h a b cI cJ _ f g 0 (nI n8) (nI c9) (nI (kd (B (wk B n8 4097 c9 1).2))) (nv B (wk B n8 4097 c9 1).2) ty1 (nI (hd (B (wk B n8 4097 c9 1).2))) (paL B (wk B n8 4097 c9 1).2) (ch B (wk B n8 4097 c9 1).2) zlk zlo zhi zlp zll (nI k9) (nI ((wk B n8 4097 c9 1).2 + hd (B (wk B n8 4097 c9 1).2)))) (cwV 1 hts gX1_skip_X1_give rfl rfl rfl (by decide +kernel) ⟨Nat.le_of_ble_eq_true rfl, Nat.le_of_ble_eq_true rfl⟩) hK hP hD hS hA hZ (q0 := 0) (ci := 1) rfl rfl rfl rfl hl.1 rfl (Nat.le_of_ble_eq_true rfl) dX1_skip_28 ⟨Nat.le_of_ble_eq_true rfl, Nat.le_of_ble_eq_true rfl⟩ (fun u_8 H locs hw_6 hP hD hS => ?_)
    have hP : va_P (dC, dI) vwCl (w1 h a b cI cJ f g 0 (nI n8) (nI c9) (nI (kd (B (wk B n8 4097 c9 1).2))) (nv B (wk B n8 4097 c9 1).2) ty1 (nI (hd (B (wk B n8 4097 c9 1).2))) (paL B (wk B n8 4097 c9 1).2) (ch B (wk B n8 4097 c9 1).2) (nI (kd (B (wk B n8 4097 c9 1).2))) ((nv B (wk B n8 4097 c9 1).2).toInt32) (hiS (nI (kd (B (wk B n8 4097 c9 1).2))) ty1 (nv B (wk B n8 4097 c9 1).2)) (nI ((wk B n8 4097 c9 1).2 + hd (B (wk B n8 4097 c9 1).2))) ((paL B (wk B n8 4097 c9 1).2).toInt32) (nI k9)) H := hP
    have hD : va_D A (w1 h a b cI cJ f g 0 (nI n8) (nI c9) (nI (kd (B (wk B n8 4097 c9 1).2))) (nv B (wk B n8 4097 c9 1).2) ty1 (nI (hd (B (wk B n8 4097 c9 1).2))) (paL B (wk B n8 4097 c9 1).2) (ch B (wk B n8 4097 c9 1).2) (nI (kd (B (wk B n8 4097 c9 1).2))) ((nv B (wk B n8 4097 c9 1).2).toInt32) (hiS (nI (kd (B (wk B n8 4097 c9 1).2))) ty1 (nv B (wk B n8 4097 c9 1).2)) (nI ((wk B n8 4097 c9 1).2 + hd (B (wk B n8 4097 c9 1).2))) ((paL B (wk B n8 4097 c9 1).2).toInt32) (nI k9)) := hD
    have e_9 : (hiS (nI (kd (B (wk B n8 4097 c9 1).2))) ty1 (nv B (wk B n8 4097 c9 1).2) : Int32) = hiV B (wk B n8 4097 c9 1).2 := hiV_eq hB p5
    rw [e_9] at hP hD
    have e_10 : ((paL B (wk B n8 4097 c9 1).2).toInt32 : Int32) = pl B (wk B n8 4097 c9 1).2 := paL32 hB hn8 q2.2.1 q1
    rw [e_10] at hP hD
    have hP : va_P (dC, dI) vwCl (w1 h a b cI cJ f g 0 (nI n8) (nI c9) (nI (kd (B (wk B n8 4097 c9 1).2))) (nv B (wk B n8 4097 c9 1).2) ty1 (nI (hd (B (wk B n8 4097 c9 1).2))) (paL B (wk B n8 4097 c9 1).2) (ch B (wk B n8 4097 c9 1).2) (nI (kd (B (wk B n8 4097 c9 1).2))) ((nv B (wk B n8 4097 c9 1).2).toInt32) (hiV B (wk B n8 4097 c9 1).2) (nI ((wk B n8 4097 c9 1).2 + hd (B (wk B n8 4097 c9 1).2))) (pl B (wk B n8 4097 c9 1).2) (nI k9)) H := hP
    have hD : va_D A (w1 h a b cI cJ f g 0 (nI n8) (nI c9) (nI (kd (B (wk B n8 4097 c9 1).2))) (nv B (wk B n8 4097 c9 1).2) ty1 (nI (hd (B (wk B n8 4097 c9 1).2))) (paL B (wk B n8 4097 c9 1).2) (ch B (wk B n8 4097 c9 1).2) (nI (kd (B (wk B n8 4097 c9 1).2))) ((nv B (wk B n8 4097 c9 1).2).toInt32) (hiV B (wk B n8 4097 c9 1).2) (nI ((wk B n8 4097 c9 1).2 + hd (B (wk B n8 4097 c9 1).2))) (pl B (wk B n8 4097 c9 1).2) (nI k9)) := hD
    refine lv_iload_n hx hb dX1_skip_31 rfl (lv_at hl 0 rfl) ?_
    refine lv_aload_n hx hb dX1_skip_32 rfl (lv_at hl 1 rfl) ?_
    refine va_get (D := (dC, dI)) (ci := 1) (v := .int (nI c9)) (C := RX1) (T := TX1) (N := 17) hx hb hts hin0 hown hK hP 0 rfl rfl 3 (by decide) fl37 (fun _ h9 => h9) rfl dX1_skip_33 ?_
    refine lv_isub hx hb dX1_skip_36 ?_
    have e_11 : (r_2 - (nI c9) : Int32) = nI (nx B (wk B n8 4097 c9 1).2) - nI c9 := by rw [p0]
    rw [e_11]
    refine lv_istore_n (lv' := [(2, .int (nI (nx B (wk B n8 4097 c9 1).2) - nI c9)), (1, .int r_2), (0, .ref h)]) hx hb dX1_skip_37 rfl hl (by decide) rfl (fun ls hl => ?_)
    refine lv_aload_n hx hb dX1_skip_38 rfl (lv_at hl 2 rfl) ?_
    refine lv_iload_n hx hb dX1_skip_39 rfl (lv_at hl 1 rfl) ?_
    refine va_put (D := (dC, dI)) (ci := 1) (v := .int r_2) (ty := .int) (C := RX1) (T := TX1) (N := 17) hx hb hts hin0 tyX1 tyX1_ok nmX1 hown hK hP hD hS 0 rfl rfl 3 (by decide) fl37 (fun _ h9 => h9) rfl (by decide +kernel) rfl rfl (Nat.le_of_ble_eq_true rfl) dX1_skip_40 (fun H locs hP hD hS => ?_)
    have hP : va_P (dC, dI) vwCl (w1 h a b cI cJ f g 0 (nI n8) r_2 (nI (kd (B (wk B n8 4097 c9 1).2))) (nv B (wk B n8 4097 c9 1).2) ty1 (nI (hd (B (wk B n8 4097 c9 1).2))) (paL B (wk B n8 4097 c9 1).2) (ch B (wk B n8 4097 c9 1).2) (nI (kd (B (wk B n8 4097 c9 1).2))) ((nv B (wk B n8 4097 c9 1).2).toInt32) (hiV B (wk B n8 4097 c9 1).2) (nI ((wk B n8 4097 c9 1).2 + hd (B (wk B n8 4097 c9 1).2))) (pl B (wk B n8 4097 c9 1).2) (nI k9)) H := hP
    have hD : va_D A (w1 h a b cI cJ f g 0 (nI n8) r_2 (nI (kd (B (wk B n8 4097 c9 1).2))) (nv B (wk B n8 4097 c9 1).2) ty1 (nI (hd (B (wk B n8 4097 c9 1).2))) (paL B (wk B n8 4097 c9 1).2) (ch B (wk B n8 4097 c9 1).2) (nI (kd (B (wk B n8 4097 c9 1).2))) ((nv B (wk B n8 4097 c9 1).2).toInt32) (hiV B (wk B n8 4097 c9 1).2) (nI ((wk B n8 4097 c9 1).2 + hd (B (wk B n8 4097 c9 1).2))) (pl B (wk B n8 4097 c9 1).2) (nI k9)) := hD
    have e_12 : (r_2 : Int32) = nI (nx B (wk B n8 4097 c9 1).2) := p0
    rw [e_12] at hP hD
    have hP : va_P (dC, dI) vwCl (w1 h a b cI cJ f g 0 (nI n8) (nI (nx B (wk B n8 4097 c9 1).2)) (nI (kd (B (wk B n8 4097 c9 1).2))) (nv B (wk B n8 4097 c9 1).2) ty1 (nI (hd (B (wk B n8 4097 c9 1).2))) (paL B (wk B n8 4097 c9 1).2) (ch B (wk B n8 4097 c9 1).2) (nI (kd (B (wk B n8 4097 c9 1).2))) ((nv B (wk B n8 4097 c9 1).2).toInt32) (hiV B (wk B n8 4097 c9 1).2) (nI ((wk B n8 4097 c9 1).2 + hd (B (wk B n8 4097 c9 1).2))) (pl B (wk B n8 4097 c9 1).2) (nI k9)) H := hP
    have hD : va_D A (w1 h a b cI cJ f g 0 (nI n8) (nI (nx B (wk B n8 4097 c9 1).2)) (nI (kd (B (wk B n8 4097 c9 1).2))) (nv B (wk B n8 4097 c9 1).2) ty1 (nI (hd (B (wk B n8 4097 c9 1).2))) (paL B (wk B n8 4097 c9 1).2) (ch B (wk B n8 4097 c9 1).2) (nI (kd (B (wk B n8 4097 c9 1).2))) ((nv B (wk B n8 4097 c9 1).2).toInt32) (hiV B (wk B n8 4097 c9 1).2) (nI ((wk B n8 4097 c9 1).2 + hd (B (wk B n8 4097 c9 1).2))) (pl B (wk B n8 4097 c9 1).2) (nI k9)) := hD
    refine lv_aload_n hx hb dX1_skip_43 rfl (lv_at hl 2 rfl) ?_
    refine va_get (D := (dC, dI)) (ci := 1) (v := .int (nI k9)) (C := RX1) (T := TX1) (N := 17) hx hb hts hin0 hown hK hP 0 rfl rfl 16 (by decide) fl90 (fun _ h9 => h9) rfl dX1_skip_44 ?_
    refine lv_if_le (tgt := 65) hx hb dX1_skip_47 (by decide) (fun c_13 => ?_) (fun c_13 => ?_)
    · skip
      have e_14 : (g : Nat → Int64) = cc1 g k9 := (cc1_z (Nat.eq_zero_of_not_pos (fun z => nI_nle z (by omega) c_13))).symm
      rw [e_14] at hP hD
      have hP : va_P (dC, dI) vwCl (w1 h a b cI cJ f (cc1 g k9) 0 (nI n8) (nI (nx B (wk B n8 4097 c9 1).2)) (nI (kd (B (wk B n8 4097 c9 1).2))) (nv B (wk B n8 4097 c9 1).2) ty1 (nI (hd (B (wk B n8 4097 c9 1).2))) (paL B (wk B n8 4097 c9 1).2) (ch B (wk B n8 4097 c9 1).2) (nI (kd (B (wk B n8 4097 c9 1).2))) ((nv B (wk B n8 4097 c9 1).2).toInt32) (hiV B (wk B n8 4097 c9 1).2) (nI ((wk B n8 4097 c9 1).2 + hd (B (wk B n8 4097 c9 1).2))) (pl B (wk B n8 4097 c9 1).2) (nI k9)) H := hP
      have hD : va_D A (w1 h a b cI cJ f (cc1 g k9) 0 (nI n8) (nI (nx B (wk B n8 4097 c9 1).2)) (nI (kd (B (wk B n8 4097 c9 1).2))) (nv B (wk B n8 4097 c9 1).2) ty1 (nI (hd (B (wk B n8 4097 c9 1).2))) (paL B (wk B n8 4097 c9 1).2) (ch B (wk B n8 4097 c9 1).2) (nI (kd (B (wk B n8 4097 c9 1).2))) ((nv B (wk B n8 4097 c9 1).2).toInt32) (hiV B (wk B n8 4097 c9 1).2) (nI ((wk B n8 4097 c9 1).2 + hd (B (wk B n8 4097 c9 1).2))) (pl B (wk B n8 4097 c9 1).2) (nI k9)) := hD
      refine lv_aload_n hx hb dX1_skip_65 rfl (lv_at hl 2 rfl) ?_
      refine gvv (As := []) (rest := []) ⟨hx, hb, hml, hown, hts⟩ (c_X1_closeDone l dC dI tk tw h a b cI cJ _ f (cc1 g k9) 0 (nI n8) (nI (nx B (wk B n8 4097 c9 1).2)) (nI (kd (B (wk B n8 4097 c9 1).2))) (nv B (wk B n8 4097 c9 1).2) ty1 (nI (hd (B (wk B n8 4097 c9 1).2))) (paL B (wk B n8 4097 c9 1).2) (ch B (wk B n8 4097 c9 1).2) (nI (kd (B (wk B n8 4097 c9 1).2))) ((nv B (wk B n8 4097 c9 1).2).toInt32) (hiV B (wk B n8 4097 c9 1).2) (nI ((wk B n8 4097 c9 1).2 + hd (B (wk B n8 4097 c9 1).2))) (pl B (wk B n8 4097 c9 1).2) k9 hk9) (cwV 0 hts gX1_skip_X1_closeDone rfl rfl rfl (by decide +kernel) ⟨Nat.le_of_ble_eq_true rfl, Nat.le_of_ble_eq_true rfl⟩) hK hP hD hS hA hZ (q0 := 0) (ci := 1) rfl rfl rfl rfl hl.1 rfl (Nat.le_of_ble_eq_true rfl) dX1_skip_66 ⟨Nat.le_of_ble_eq_true rfl, Nat.le_of_ble_eq_true rfl⟩ (fun u_17 H locs hw_15 hP hD hS => ?_)
      have hP : va_P (dC, dI) vwCl (w1 h a b cI cJ f (cc1 g k9) 0 (nI n8) (nI (nx B (wk B n8 4097 c9 1).2)) (nI (kd (B (wk B n8 4097 c9 1).2))) (nv B (wk B n8 4097 c9 1).2) ty1 (nI (hd (B (wk B n8 4097 c9 1).2))) (paL B (wk B n8 4097 c9 1).2) (ch B (wk B n8 4097 c9 1).2) (nI (kd (B (wk B n8 4097 c9 1).2))) ((nv B (wk B n8 4097 c9 1).2).toInt32) (hiV B (wk B n8 4097 c9 1).2) (nI ((wk B n8 4097 c9 1).2 + hd (B (wk B n8 4097 c9 1).2))) (pl B (wk B n8 4097 c9 1).2) (nI (cl (cc1 g k9) k9))) H := hP
      have hD : va_D A (w1 h a b cI cJ f (cc1 g k9) 0 (nI n8) (nI (nx B (wk B n8 4097 c9 1).2)) (nI (kd (B (wk B n8 4097 c9 1).2))) (nv B (wk B n8 4097 c9 1).2) ty1 (nI (hd (B (wk B n8 4097 c9 1).2))) (paL B (wk B n8 4097 c9 1).2) (ch B (wk B n8 4097 c9 1).2) (nI (kd (B (wk B n8 4097 c9 1).2))) ((nv B (wk B n8 4097 c9 1).2).toInt32) (hiV B (wk B n8 4097 c9 1).2) (nI ((wk B n8 4097 c9 1).2 + hd (B (wk B n8 4097 c9 1).2))) (pl B (wk B n8 4097 c9 1).2) (nI (cl (cc1 g k9) k9))) := hD
      refine lv_iload_n hx hb dX1_skip_69 rfl (lv_at hl 0 rfl) ?_
      have hP9 : va_P (dC, dI) vwCl ((fun (u : (Int32 × Int64 × Int32 × Int32 × Int64 × Int64) × ((Nat → Int64) × Int32 × Int32 × Int32 × Int32 × Int32 × Int32 × Int32)) => w1 h a b cI cJ f u.2.1 0 (nI n8) u.2.2.1 u.1.1 u.1.2.1 u.1.2.2.1 u.1.2.2.2.1 u.1.2.2.2.2.1 u.1.2.2.2.2.2 u.2.2.2.1 u.2.2.2.2.1 u.2.2.2.2.2.1 u.2.2.2.2.2.2.1 u.2.2.2.2.2.2.2.1 u.2.2.2.2.2.2.2.2) (((nI (kd (B (wk B n8 4097 c9 1).2)), nv B (wk B n8 4097 c9 1).2, ty1, nI (hd (B (wk B n8 4097 c9 1).2)), paL B (wk B n8 4097 c9 1).2, ch B (wk B n8 4097 c9 1).2), (cc1 g k9, nI (nx B (wk B n8 4097 c9 1).2), nI (kd (B (wk B n8 4097 c9 1).2)), (nv B (wk B n8 4097 c9 1).2).toInt32, hiV B (wk B n8 4097 c9 1).2, nI ((wk B n8 4097 c9 1).2 + hd (B (wk B n8 4097 c9 1).2)), pl B (wk B n8 4097 c9 1).2, nI (cl (cc1 g k9) k9))))) H := hP
      have hD9 : va_D A ((fun (u : (Int32 × Int64 × Int32 × Int32 × Int64 × Int64) × ((Nat → Int64) × Int32 × Int32 × Int32 × Int32 × Int32 × Int32 × Int32)) => w1 h a b cI cJ f u.2.1 0 (nI n8) u.2.2.1 u.1.1 u.1.2.1 u.1.2.2.1 u.1.2.2.2.1 u.1.2.2.2.2.1 u.1.2.2.2.2.2 u.2.2.2.1 u.2.2.2.2.1 u.2.2.2.2.2.1 u.2.2.2.2.2.2.1 u.2.2.2.2.2.2.2.1 u.2.2.2.2.2.2.2.2) (((nI (kd (B (wk B n8 4097 c9 1).2)), nv B (wk B n8 4097 c9 1).2, ty1, nI (hd (B (wk B n8 4097 c9 1).2)), paL B (wk B n8 4097 c9 1).2, ch B (wk B n8 4097 c9 1).2), (cc1 g k9, nI (nx B (wk B n8 4097 c9 1).2), nI (kd (B (wk B n8 4097 c9 1).2)), (nv B (wk B n8 4097 c9 1).2).toInt32, hiV B (wk B n8 4097 c9 1).2, nI ((wk B n8 4097 c9 1).2 + hd (B (wk B n8 4097 c9 1).2)), pl B (wk B n8 4097 c9 1).2, nI (cl (cc1 g k9) k9))))) := hD
      exact W.iret (v := nI (nx B (wk B n8 4097 c9 1).2) - nI c9) hx hb hr (fun t ht hW => ⟨⟨nI (nx B (wk B n8 4097 c9 1).2) - nI c9, ((nI (kd (B (wk B n8 4097 c9 1).2)), nv B (wk B n8 4097 c9 1).2, ty1, nI (hd (B (wk B n8 4097 c9 1).2)), paL B (wk B n8 4097 c9 1).2, ch B (wk B n8 4097 c9 1).2), (cc1 g k9, nI (nx B (wk B n8 4097 c9 1).2), nI (kd (B (wk B n8 4097 c9 1).2)), (nv B (wk B n8 4097 c9 1).2).toInt32, hiV B (wk B n8 4097 c9 1).2, nI ((wk B n8 4097 c9 1).2 + hd (B (wk B n8 4097 c9 1).2)), pl B (wk B n8 4097 c9 1).2, nI (cl (cc1 g k9) k9))), rfl, (Or.inr ⟨p1, rfl, rfl⟩), by rw [ht]; exact hP9, va_K.moved hW.alike hK, hD9⟩, hS.F ht⟩) hS.2.2 dX1_skip_70
    · skip
      have q0 : 0 < k9 := Nat.pos_of_ne_zero (fun z => c_13 (by rw [z]; decide))
      have q3 : nI k9 - 1 = nI (k9 - 1) := pk_sub (b := 1) q0
      refine lv_aload_n hx hb dX1_skip_50 rfl (lv_at hl 2 rfl) ?_
      refine va_get (D := (dC, dI)) (ci := 1) (v := .ref b) (C := RX1) (T := TX1) (N := 17) hx hb hts hin0 hown hK hP 0 rfl rfl 15 (by decide) fl17 (fun _ h9 => h9) rfl dX1_skip_51 ?_
      refine lv_aload_n hx hb dX1_skip_54 rfl (lv_at hl 2 rfl) ?_
      refine va_get (D := (dC, dI)) (ci := 1) (v := .int (nI k9)) (C := RX1) (T := TX1) (N := 17) hx hb hts hin0 hown hK hP 0 rfl rfl 16 (by decide) fl90 (fun _ h9 => h9) rfl dX1_skip_55 ?_
      refine lv_iconst (v := 1) hx hb dX1_skip_58 (by decide) ?_
      refine lv_isub hx hb dX1_skip_59 ?_
      have e_18 : ((nI k9) - 1 : Int32) = nI (k9 - 1) := q3
      rw [e_18]
      refine lv_dup2_11 hx hb dX1_skip_60 rfl rfl ?_
      refine va_lald hx hb hK hP 2 1 rfl rfl (vp_in_nI (by omega) (by decide)) dX1_skip_61 ?_
      refine lv_lconst (v := 1) hx hb dX1_skip_62 (by decide) ?_
      refine lv_lsub hx hb dX1_skip_63 ?_
      refine va_last hx hb hK hP hD hS 2 1 rfl rfl (vp_in_nI (by omega) (by decide)) dX1_skip_64 (fun H locs hP hD hS => ?_)
      have hP : va_P (dC, dI) vwCl (w1 h a b cI cJ f (vp_updL g (nI (k9 - 1)).toNatClampNeg ((g (nI (k9 - 1)).toNatClampNeg) - 1)) 0 (nI n8) (nI (nx B (wk B n8 4097 c9 1).2)) (nI (kd (B (wk B n8 4097 c9 1).2))) (nv B (wk B n8 4097 c9 1).2) ty1 (nI (hd (B (wk B n8 4097 c9 1).2))) (paL B (wk B n8 4097 c9 1).2) (ch B (wk B n8 4097 c9 1).2) (nI (kd (B (wk B n8 4097 c9 1).2))) ((nv B (wk B n8 4097 c9 1).2).toInt32) (hiV B (wk B n8 4097 c9 1).2) (nI ((wk B n8 4097 c9 1).2 + hd (B (wk B n8 4097 c9 1).2))) (pl B (wk B n8 4097 c9 1).2) (nI k9)) H := hP
      have hD : va_D A (w1 h a b cI cJ f (vp_updL g (nI (k9 - 1)).toNatClampNeg ((g (nI (k9 - 1)).toNatClampNeg) - 1)) 0 (nI n8) (nI (nx B (wk B n8 4097 c9 1).2)) (nI (kd (B (wk B n8 4097 c9 1).2))) (nv B (wk B n8 4097 c9 1).2) ty1 (nI (hd (B (wk B n8 4097 c9 1).2))) (paL B (wk B n8 4097 c9 1).2) (ch B (wk B n8 4097 c9 1).2) (nI (kd (B (wk B n8 4097 c9 1).2))) ((nv B (wk B n8 4097 c9 1).2).toInt32) (hiV B (wk B n8 4097 c9 1).2) (nI ((wk B n8 4097 c9 1).2 + hd (B (wk B n8 4097 c9 1).2))) (pl B (wk B n8 4097 c9 1).2) (nI k9)) := hD
      have e_19 : (vp_updL g (nI (k9 - 1)).toNatClampNeg ((g (nI (k9 - 1)).toNatClampNeg) - 1) : Nat → Int64) = cc1 g k9 := by rw [nI_clamp (by omega)]; exact (cc1_p q0).symm
      rw [e_19] at hP hD
      have hP : va_P (dC, dI) vwCl (w1 h a b cI cJ f (cc1 g k9) 0 (nI n8) (nI (nx B (wk B n8 4097 c9 1).2)) (nI (kd (B (wk B n8 4097 c9 1).2))) (nv B (wk B n8 4097 c9 1).2) ty1 (nI (hd (B (wk B n8 4097 c9 1).2))) (paL B (wk B n8 4097 c9 1).2) (ch B (wk B n8 4097 c9 1).2) (nI (kd (B (wk B n8 4097 c9 1).2))) ((nv B (wk B n8 4097 c9 1).2).toInt32) (hiV B (wk B n8 4097 c9 1).2) (nI ((wk B n8 4097 c9 1).2 + hd (B (wk B n8 4097 c9 1).2))) (pl B (wk B n8 4097 c9 1).2) (nI k9)) H := hP
      have hD : va_D A (w1 h a b cI cJ f (cc1 g k9) 0 (nI n8) (nI (nx B (wk B n8 4097 c9 1).2)) (nI (kd (B (wk B n8 4097 c9 1).2))) (nv B (wk B n8 4097 c9 1).2) ty1 (nI (hd (B (wk B n8 4097 c9 1).2))) (paL B (wk B n8 4097 c9 1).2) (ch B (wk B n8 4097 c9 1).2) (nI (kd (B (wk B n8 4097 c9 1).2))) ((nv B (wk B n8 4097 c9 1).2).toInt32) (hiV B (wk B n8 4097 c9 1).2) (nI ((wk B n8 4097 c9 1).2 + hd (B (wk B n8 4097 c9 1).2))) (pl B (wk B n8 4097 c9 1).2) (nI k9)) := hD
      refine lv_aload_n hx hb dX1_skip_65 rfl (lv_at hl 2 rfl) ?_
      refine gvv (As := []) (rest := []) ⟨hx, hb, hml, hown, hts⟩ (c_X1_closeDone l dC dI tk tw h a b cI cJ _ f (cc1 g k9) 0 (nI n8) (nI (nx B (wk B n8 4097 c9 1).2)) (nI (kd (B (wk B n8 4097 c9 1).2))) (nv B (wk B n8 4097 c9 1).2) ty1 (nI (hd (B (wk B n8 4097 c9 1).2))) (paL B (wk B n8 4097 c9 1).2) (ch B (wk B n8 4097 c9 1).2) (nI (kd (B (wk B n8 4097 c9 1).2))) ((nv B (wk B n8 4097 c9 1).2).toInt32) (hiV B (wk B n8 4097 c9 1).2) (nI ((wk B n8 4097 c9 1).2 + hd (B (wk B n8 4097 c9 1).2))) (pl B (wk B n8 4097 c9 1).2) k9 hk9) (cwV 0 hts gX1_skip_X1_closeDone rfl rfl rfl (by decide +kernel) ⟨Nat.le_of_ble_eq_true rfl, Nat.le_of_ble_eq_true rfl⟩) hK hP hD hS hA hZ (q0 := 0) (ci := 1) rfl rfl rfl rfl hl.1 rfl (Nat.le_of_ble_eq_true rfl) dX1_skip_66 ⟨Nat.le_of_ble_eq_true rfl, Nat.le_of_ble_eq_true rfl⟩ (fun u_22 H locs hw_20 hP hD hS => ?_)
      have hP : va_P (dC, dI) vwCl (w1 h a b cI cJ f (cc1 g k9) 0 (nI n8) (nI (nx B (wk B n8 4097 c9 1).2)) (nI (kd (B (wk B n8 4097 c9 1).2))) (nv B (wk B n8 4097 c9 1).2) ty1 (nI (hd (B (wk B n8 4097 c9 1).2))) (paL B (wk B n8 4097 c9 1).2) (ch B (wk B n8 4097 c9 1).2) (nI (kd (B (wk B n8 4097 c9 1).2))) ((nv B (wk B n8 4097 c9 1).2).toInt32) (hiV B (wk B n8 4097 c9 1).2) (nI ((wk B n8 4097 c9 1).2 + hd (B (wk B n8 4097 c9 1).2))) (pl B (wk B n8 4097 c9 1).2) (nI (cl (cc1 g k9) k9))) H := hP
      have hD : va_D A (w1 h a b cI cJ f (cc1 g k9) 0 (nI n8) (nI (nx B (wk B n8 4097 c9 1).2)) (nI (kd (B (wk B n8 4097 c9 1).2))) (nv B (wk B n8 4097 c9 1).2) ty1 (nI (hd (B (wk B n8 4097 c9 1).2))) (paL B (wk B n8 4097 c9 1).2) (ch B (wk B n8 4097 c9 1).2) (nI (kd (B (wk B n8 4097 c9 1).2))) ((nv B (wk B n8 4097 c9 1).2).toInt32) (hiV B (wk B n8 4097 c9 1).2) (nI ((wk B n8 4097 c9 1).2 + hd (B (wk B n8 4097 c9 1).2))) (pl B (wk B n8 4097 c9 1).2) (nI (cl (cc1 g k9) k9))) := hD
      refine lv_iload_n hx hb dX1_skip_69 rfl (lv_at hl 0 rfl) ?_
      have hP9 : va_P (dC, dI) vwCl ((fun (u : (Int32 × Int64 × Int32 × Int32 × Int64 × Int64) × ((Nat → Int64) × Int32 × Int32 × Int32 × Int32 × Int32 × Int32 × Int32)) => w1 h a b cI cJ f u.2.1 0 (nI n8) u.2.2.1 u.1.1 u.1.2.1 u.1.2.2.1 u.1.2.2.2.1 u.1.2.2.2.2.1 u.1.2.2.2.2.2 u.2.2.2.1 u.2.2.2.2.1 u.2.2.2.2.2.1 u.2.2.2.2.2.2.1 u.2.2.2.2.2.2.2.1 u.2.2.2.2.2.2.2.2) (((nI (kd (B (wk B n8 4097 c9 1).2)), nv B (wk B n8 4097 c9 1).2, ty1, nI (hd (B (wk B n8 4097 c9 1).2)), paL B (wk B n8 4097 c9 1).2, ch B (wk B n8 4097 c9 1).2), (cc1 g k9, nI (nx B (wk B n8 4097 c9 1).2), nI (kd (B (wk B n8 4097 c9 1).2)), (nv B (wk B n8 4097 c9 1).2).toInt32, hiV B (wk B n8 4097 c9 1).2, nI ((wk B n8 4097 c9 1).2 + hd (B (wk B n8 4097 c9 1).2)), pl B (wk B n8 4097 c9 1).2, nI (cl (cc1 g k9) k9))))) H := hP
      have hD9 : va_D A ((fun (u : (Int32 × Int64 × Int32 × Int32 × Int64 × Int64) × ((Nat → Int64) × Int32 × Int32 × Int32 × Int32 × Int32 × Int32 × Int32)) => w1 h a b cI cJ f u.2.1 0 (nI n8) u.2.2.1 u.1.1 u.1.2.1 u.1.2.2.1 u.1.2.2.2.1 u.1.2.2.2.2.1 u.1.2.2.2.2.2 u.2.2.2.1 u.2.2.2.2.1 u.2.2.2.2.2.1 u.2.2.2.2.2.2.1 u.2.2.2.2.2.2.2.1 u.2.2.2.2.2.2.2.2) (((nI (kd (B (wk B n8 4097 c9 1).2)), nv B (wk B n8 4097 c9 1).2, ty1, nI (hd (B (wk B n8 4097 c9 1).2)), paL B (wk B n8 4097 c9 1).2, ch B (wk B n8 4097 c9 1).2), (cc1 g k9, nI (nx B (wk B n8 4097 c9 1).2), nI (kd (B (wk B n8 4097 c9 1).2)), (nv B (wk B n8 4097 c9 1).2).toInt32, hiV B (wk B n8 4097 c9 1).2, nI ((wk B n8 4097 c9 1).2 + hd (B (wk B n8 4097 c9 1).2)), pl B (wk B n8 4097 c9 1).2, nI (cl (cc1 g k9) k9))))) := hD
      exact W.iret (v := nI (nx B (wk B n8 4097 c9 1).2) - nI c9) hx hb hr (fun t ht hW => ⟨⟨nI (nx B (wk B n8 4097 c9 1).2) - nI c9, ((nI (kd (B (wk B n8 4097 c9 1).2)), nv B (wk B n8 4097 c9 1).2, ty1, nI (hd (B (wk B n8 4097 c9 1).2)), paL B (wk B n8 4097 c9 1).2, ch B (wk B n8 4097 c9 1).2), (cc1 g k9, nI (nx B (wk B n8 4097 c9 1).2), nI (kd (B (wk B n8 4097 c9 1).2)), (nv B (wk B n8 4097 c9 1).2).toInt32, hiV B (wk B n8 4097 c9 1).2, nI ((wk B n8 4097 c9 1).2 + hd (B (wk B n8 4097 c9 1).2)), pl B (wk B n8 4097 c9 1).2, nI (cl (cc1 g k9) k9))), rfl, (Or.inr ⟨p1, rfl, rfl⟩), by rw [ht]; exact hP9, va_K.moved hW.alike hK, hD9⟩, hS.F ht⟩) hS.2.2 dX1_skip_70
  · skip
    refine lv_iload_n hx hb dX1_skip_18 rfl (lv_at hl 0 rfl) ?_
    have hP9 : va_P (dC, dI) vwCl ((fun (u : (Int32 × Int64 × Int32 × Int32 × Int64 × Int64) × ((Nat → Int64) × Int32 × Int32 × Int32 × Int32 × Int32 × Int32 × Int32)) => w1 h a b cI cJ f u.2.1 0 (nI n8) u.2.2.1 u.1.1 u.1.2.1 u.1.2.2.1 u.1.2.2.2.1 u.1.2.2.2.2.1 u.1.2.2.2.2.2 u.2.2.2.1 u.2.2.2.2.1 u.2.2.2.2.2.1 u.2.2.2.2.2.2.1 u.2.2.2.2.2.2.2.1 u.2.2.2.2.2.2.2.2) (((so1, nu1, ty1, hd1, pa1, ch1), (g, nI c9, zlk, zlo, zhi, zlp, zll, nI k9)))) H := hP
    have hD9 : va_D A ((fun (u : (Int32 × Int64 × Int32 × Int32 × Int64 × Int64) × ((Nat → Int64) × Int32 × Int32 × Int32 × Int32 × Int32 × Int32 × Int32)) => w1 h a b cI cJ f u.2.1 0 (nI n8) u.2.2.1 u.1.1 u.1.2.1 u.1.2.2.1 u.1.2.2.2.1 u.1.2.2.2.2.1 u.1.2.2.2.2.2 u.2.2.2.1 u.2.2.2.2.1 u.2.2.2.2.2.1 u.2.2.2.2.2.2.1 u.2.2.2.2.2.2.2.1 u.2.2.2.2.2.2.2.2) (((so1, nu1, ty1, hd1, pa1, ch1), (g, nI c9, zlk, zlo, zhi, zlp, zll, nI k9)))) := hD
    exact W.iret (v := r_2) hx hb hr (fun t ht hW => ⟨⟨r_2, ((so1, nu1, ty1, hd1, pa1, ch1), (g, nI c9, zlk, zlo, zhi, zlp, zll, nI k9)), rfl, (Or.inl ⟨(enP_no hB hn8 hc9 hw_1 c_4).1, (enP_no hB hn8 hc9 hw_1 c_4).2, rfl⟩), by rw [ht]; exact hP9, va_K.moved hW.alike hK, hD9⟩, hS.F ht⟩) hS.2.2 dX1_skip_19
set_option maxHeartbeats 4000000 in
set_option maxRecDepth 100000 in
theorem c_X1_whole (l : Launch) (dC : Nat → ClassId) (dI : Nat → Nat → Nat) (tk tw : Nat) (h a b : Nat) (cI cJ : ClassId) (sz : Nat) (f : Nat → Int32) (g : Nat → Int64) (zt : Int32) (zso : Int32) (znu : Int64) (zty : Int32) (zhd : Int32) (zpa : Int64) (zch : Int64) (zlk : Int32) (zlo : Int32) (zhi : Int32) (zlp : Int32) (zll : Int32) (zlv : Int32) (B : Nat → Nat) (hB : ∀ j, B j < 256) (n8 c9 : Nat) (hn8 : n8 ≤ 4096) (hc9 : c9 ≤ 4096) (hf9 : ∀ j, j < n8 → f j = nI (B j)) : Met l yX1_whole wsX1_whole ({ frames := 3, cells := 0, slots := 0, locals := 74 }) (va_Pc [.ref h] (pr dC dI (t1 cI cJ) (w1 h a b cI cJ f g zt (nI n8) (nI c9) zso znu zty zhd zpa zch zlk zlo zhi zlp zll zlv) sz tk tw)) (va_Qi (fun (r : Int32) (u : Int32 × Int64 × Int32 × Int32 × Int64 × Int64) => r = nI (wh B n8 4096 c9)) (fun (u : Int32 × Int64 × Int32 × Int32 × Int64 × Int64) => po dC dI (t1 cI cJ) (va_A (w1 h a b cI cJ f g zt (nI n8) (nI c9) zso znu zty zhd zpa zch zlk zlo zhi zlp zll zlv) sz) (w1 h a b cI cJ f g 0 (nI n8) (nI c9) u.1 u.2.1 u.2.2.1 u.2.2.2.1 u.2.2.2.2.1 u.2.2.2.2.2 zlk zlo zhi zlp zll zlv)) (va_A (w1 h a b cI cJ f g zt (nI n8) (nI c9) zso znu zty zhd zpa zch zlk zlo zhi zlp zll zlv) sz)) 0 0 (va_A (w1 h a b cI cJ f g zt (nI n8) (nI c9) zso znu zty zhd zpa zch zlk zlo zhi zlp zll zlv) sz) := by
  refine Met.ofW (cc := cX1_whole) (maxL := 3) (ret := (some .int)) (by decide) rfl ?_
  intro p e s m args below meth c s₁ Bd hml hv
  obtain ⟨rfl, hsz, hP, hK, hD0, hZ⟩ := hv
  have hx := Bd.exec
  have hb := Bd.bytes
  have hr := Bd.returns
  have hts := atoms_spec (ws := wsX1_whole) Bd.pre
  have hown : s.vm.findClass RX1 = some m.cls := findClass_of_methodNamed Bd.named
  have hlocks := Bd.notSynchronized
  subst hsz
  have hD := hD0.self (sz := s.heap.size)
  generalize hAe : va_A (w1 h a b cI cJ f g zt (nI n8) (nI c9) zso znu zty zhd zpa zch zlk zlo zhi zlp zll zlv) s.heap.size = A at hD hZ ⊢
  have hA : ∀ q : Nat, s.heap.size ≤ q → A q := fun q h => by rw [← hAe]; exact Or.inr h
  have hS : va_S A s.heap s.heap [] := va_S.rf
  have hP : va_P (dC, dI) vwCl (w1 h a b cI cJ f g zt (nI n8) (nI c9) zso znu zty zhd zpa zch zlk zlo zhi zlp zll zlv) s.heap := hP
  have hin0 : ∀ w ∈ wsX10, w ∈ wsX1_whole := by decide +kernel
  have fl21 := hts (.fieldLink RX1 21 "MessageReaderModel" "thrown" "I") (by decide +kernel)
  have fl37 := hts (.fieldLink RX1 37 "MessageReaderModel" "consumed" "I") (by decide +kernel)
  have hl := lv_entry ([.ref h]) (n := 3) (Nat.le_of_ble_eq_true rfl)
  rw [lg_entry_eq]
  generalize (lg_sl ([.ref h]) ++ List.replicate (3 - (lg_sl ([.ref h])).length) Slot.unset).toArray = ls at hl ⊢
  have hl : lv_has ls 3 [(0, .ref h)] := hl
  refine lv_aload_n hx hb dX1_whole_0 rfl (lv_at hl 0 rfl) ?_
  refine lv_iconst (v := 0) hx hb dX1_whole_1 (by decide) ?_
  refine va_put (D := (dC, dI)) (ci := 1) (v := .int 0) (ty := .int) (C := RX1) (T := TX1) (N := 17) hx hb hts hin0 tyX1 tyX1_ok nmX1 hown hK hP hD hS 0 rfl rfl 0 (by decide) fl21 (fun _ h9 => h9) rfl (by decide +kernel) rfl rfl (Nat.le_of_ble_eq_true rfl) dX1_whole_2 (fun H locs hP hD hS => ?_)
  have hP : va_P (dC, dI) vwCl (w1 h a b cI cJ f g 0 (nI n8) (nI c9) zso znu zty zhd zpa zch zlk zlo zhi zlp zll zlv) H := hP
  have hD : va_D A (w1 h a b cI cJ f g 0 (nI n8) (nI c9) zso znu zty zhd zpa zch zlk zlo zhi zlp zll zlv) := hD
  refine lv_iconst (v := 0) hx hb dX1_whole_5 (by decide) ?_
  refine lv_istore_n (lv' := [(1, .int 0), (0, .ref h)]) hx hb dX1_whole_6 rfl hl (by decide) rfl (fun ls hl => ?_)
  refine lv_aload_n hx hb dX1_whole_7 rfl (lv_at hl 1 rfl) ?_
  refine lv_aload_n hx hb dX1_whole_8 rfl (lv_at hl 1 rfl) ?_
  refine va_get (D := (dC, dI)) (ci := 1) (v := .int (nI c9)) (C := RX1) (T := TX1) (N := 17) hx hb hts hin0 hown hK hP 0 rfl rfl 3 (by decide) fl37 (fun _ h9 => h9) rfl dX1_whole_9 ?_
  refine gvi (As := [.int (nI c9)]) (rest := []) ⟨hx, hb, hml, hown, hts⟩ (c_X1_end l dC dI tk tw h a b cI cJ _ f g 0 (nI c9) zso znu zty zhd zpa zch zlk zlo zhi zlp zll zlv B hB n8 c9 hn8 hc9 hf9) (cwV 1 hts gX1_whole_X1_end rfl rfl rfl (by decide +kernel) ⟨Nat.le_of_ble_eq_true rfl, Nat.le_of_ble_eq_true rfl⟩) hK hP hD hS hA hZ (q0 := 0) (ci := 1) rfl rfl rfl rfl hl.1 rfl (Nat.le_of_ble_eq_true rfl) dX1_whole_12 ⟨Nat.le_of_ble_eq_true rfl, Nat.le_of_ble_eq_true rfl⟩ (fun r_2 u_3 H locs hw_1 hP hD hS => ?_)
  obtain ⟨so1, nu1, ty1, hd1, pa1, ch1⟩ := u_3
  have hP : va_P (dC, dI) vwCl (w1 h a b cI cJ f g 0 (nI n8) (nI c9) so1 nu1 ty1 hd1 pa1 ch1 zlk zlo zhi zlp zll zlv) H := hP
  have hD : va_D A (w1 h a b cI cJ f g 0 (nI n8) (nI c9) so1 nu1 ty1 hd1 pa1 ch1 zlk zlo zhi zlp zll zlv) := hD
  obtain rfl : r_2 = ez B n8 c9 := enP_ez hw_1
  refine lv_istore_n (lv' := [(2, .int (ez B n8 c9)), (1, .int 0), (0, .ref h)]) hx hb dX1_whole_15 rfl hl (by decide) rfl (fun ls hl => ?_)
  have loop16 : ∀ (fz : Nat) (q i x : Nat) (s1 : Int32) (s2 : Int64) (s3 s4 : Int32) (s5 s6 : Int64), q < fz → i + q = 4096 → i ≤ x → x ≤ 4096 → i + wh B n8 q x = wh B n8 4096 c9 → ∀ (H : Heap) (locs : List Loc), va_P (dC, dI) vwCl (w1 h a b cI cJ f g 0 (nI n8) (nI c9) s1 s2 s3 s4 s5 s6 zlk zlo zhi zlp zll zlv) H → va_D A (w1 h a b cI cJ f g 0 (nI n8) (nI c9) s1 s2 s3 s4 s5 s6 zlk zlo zhi zlp zll zlv) → va_S A s.heap H locs → ∀ ls : Array Slot, lv_has ls 3 [(0, .ref h), (1, .int (nI i)), (2, .int (ez B n8 x))] → W p l e (headSpec wsX1_whole ({ frames := 3, cells := 0, slots := 0, locals := 74 })).room s m ([.ref h]).toArray below meth c H locs 0 0 (MQ below (va_Qi (fun (r : Int32) (u : Int32 × Int64 × Int32 × Int32 × Int64 × Int64) => r = nI (wh B n8 4096 c9)) (fun (u : Int32 × Int64 × Int32 × Int32 × Int64 × Int64) => po dC dI (t1 cI cJ) A (w1 h a b cI cJ f g 0 (nI n8) (nI c9) u.1 u.2.1 u.2.2.1 u.2.2.2.1 u.2.2.2.2.1 u.2.2.2.2.2 zlk zlo zhi zlp zll zlv)) A) ([.ref h]).toArray s 0 0 A) (F0 m 16 ls []) := by
    intro fz
    induction fz with
    | zero =>
      intro q i x s1 s2 s3 s4 s5 s6 hq hi hix hx9 hw9 H locs hP hD hS ls hl
      exact absurd hq (Nat.not_lt_zero _)
    | succ fz ih =>
      intro q i x s1 s2 s3 s4 s5 s6 hq hi hix hx9 hw9 H locs hP hD hS ls hl
      refine lv_iload_n hx hb dX1_whole_16 rfl (lv_at hl 2 rfl) ?_
      refine lv_if_lt (tgt := 32) hx hb dX1_whole_17 (by decide) (fun c_4 => ?_) (fun c_4 => ?_)
      · skip
        have q1 : wr B n8 4097 x 1 < 0 := (ez_lt hB hn8 hx9).mp c_4
        have q3 : wh B n8 q x = 0 := by
          cases q with
          | zero => rfl
          | succ t => exact wh_neg q1
        refine lv_iload_n hx hb dX1_whole_32 rfl (lv_at hl 1 rfl) ?_
        have hP9 : va_P (dC, dI) vwCl ((fun (u : Int32 × Int64 × Int32 × Int32 × Int64 × Int64) => w1 h a b cI cJ f g 0 (nI n8) (nI c9) u.1 u.2.1 u.2.2.1 u.2.2.2.1 u.2.2.2.2.1 u.2.2.2.2.2 zlk zlo zhi zlp zll zlv) ((s1, s2, s3, s4, s5, s6))) H := hP
        have hD9 : va_D A ((fun (u : Int32 × Int64 × Int32 × Int32 × Int64 × Int64) => w1 h a b cI cJ f g 0 (nI n8) (nI c9) u.1 u.2.1 u.2.2.1 u.2.2.2.1 u.2.2.2.2.1 u.2.2.2.2.2 zlk zlo zhi zlp zll zlv) ((s1, s2, s3, s4, s5, s6))) := hD
        exact W.iret (v := nI i) hx hb hr (fun t ht hW => ⟨⟨nI i, (s1, s2, s3, s4, s5, s6), rfl, (by rw [← hw9, q3]; rfl), by rw [ht]; exact hP9, va_K.moved hW.alike hK, hD9⟩, hS.F ht⟩) hS.2.2 dX1_whole_33
      · skip
        have q1 : ¬ wr B n8 4097 x 1 < 0 := fun z => c_4 ((ez_lt hB hn8 hx9).mpr z)
        have q2 := wk_end hB hn8 hx9 q1
        obtain ⟨t, ht9⟩ : ∃ t, q = t + 1 := ⟨q - 1, by
          rcases Nat.eq_zero_or_pos q with y | y
          · exact absurd (wr_out hn8 hx9 (by omega)) q1
          · omega⟩
        refine lv_iinc (v := nI (i + 1)) (lv' := [(1, .int (nI (i + 1))), (0, .ref h), (2, .int (ez B n8 x))]) hx hb dX1_whole_20 hl (k := 1) rfl (nI_1 i) (by decide) rfl (fun ls hl => ?_)
        refine lv_aload_n hx hb dX1_whole_23 rfl (lv_at hl 1 rfl) ?_
        refine lv_iload_n hx hb dX1_whole_24 rfl (lv_at hl 2 rfl) ?_
        have e_7 : (ez B n8 x : Int32) = nI (nx B (wk B n8 4097 x 1).2) := if_neg q1
        rw [e_7]
        refine gvi (As := [.int (nI (nx B (wk B n8 4097 x 1).2))]) (rest := []) ⟨hx, hb, hml, hown, hts⟩ (c_X1_end l dC dI tk tw h a b cI cJ _ f g 0 (nI c9) s1 s2 s3 s4 s5 s6 zlk zlo zhi zlp zll zlv B hB n8 (nx B (wk B n8 4097 x 1).2) hn8 (by have := q2.2.2.2.2.1; omega) hf9) (cwV 1 hts gX1_whole_X1_end rfl rfl rfl (by decide +kernel) ⟨Nat.le_of_ble_eq_true rfl, Nat.le_of_ble_eq_true rfl⟩) hK hP hD hS hA hZ (q0 := 0) (ci := 1) rfl rfl rfl rfl hl.1 rfl (Nat.le_of_ble_eq_true rfl) dX1_whole_25 ⟨Nat.le_of_ble_eq_true rfl, Nat.le_of_ble_eq_true rfl⟩ (fun r_6 u_8 H locs hw_5 hP hD hS => ?_)
        obtain ⟨so1, nu1, ty1, hd1, pa1, ch1⟩ := u_8
        have hP : va_P (dC, dI) vwCl (w1 h a b cI cJ f g 0 (nI n8) (nI c9) so1 nu1 ty1 hd1 pa1 ch1 zlk zlo zhi zlp zll zlv) H := hP
        have hD : va_D A (w1 h a b cI cJ f g 0 (nI n8) (nI c9) so1 nu1 ty1 hd1 pa1 ch1 zlk zlo zhi zlp zll zlv) := hD
        obtain rfl : r_6 = ez B n8 (nx B (wk B n8 4097 x 1).2) := enP_ez hw_5
        refine lv_istore_n (lv' := [(2, .int (ez B n8 (nx B (wk B n8 4097 x 1).2))), (1, .int (nI (i + 1))), (0, .ref h)]) hx hb dX1_whole_28 rfl hl (by decide) rfl (fun ls hl => ?_)
        refine lv_goto (tgt := 16) hx hb dX1_whole_29 (by decide) ?_
        exact ih t (i + 1) (nx B (wk B n8 4097 x 1).2) _ _ _ _ _ _ (by omega) (by omega) (by have := q2.2.2.2.2.2; omega) (by have := q2.2.2.2.2.1; omega) (by rw [← hw9, ht9, wh_pos q1]; omega) _ _ hP hD hS ls (lv_sub hl [2, 1, 0] rfl)
  exact loop16 (4096 + 1) 4096 0 c9 _ _ _ _ _ _ (by omega) rfl (by omega) hc9 (by omega) _ _ hP hD hS ls (lv_sub hl [2, 1, 0] rfl)
