set_option maxHeartbeats 4000000 in
set_option maxRecDepth 100000 in
theorem c_X1_numberAt (l : Launch) (dC : Nat → ClassId) (dI : Nat → Nat → Nat) (tk tw : Nat) (h a b : Nat) (cI cJ : ClassId) (sz : Nat) (f : Nat → Int32) (g : Nat → Int64) (zt : Int32) (zs : Int32) (zc : Int32) (zso : Int32) (znu : Int64) (zty : Int32) (zhd : Int32) (zpa : Int64) (zch : Int64) (zlk : Int32) (zlo : Int32) (zhi : Int32) (zlp : Int32) (zll : Int32) (zlv : Int32) (B : Nat → Nat) (a9 k9 : Nat) (h9 : a9 + k9 ≤ 4096) (hf9 : ∀ j, j < a9 + k9 → f j = nI (B j)) : Met l yX1_numberAt wsX1_numberAt ({ frames := 0, cells := 0, slots := 0, locals := 0 }) (va_Pc [.ref h, .int (nI a9), .int (nI k9)] (pr dC dI (t1 cI cJ) (w1 h a b cI cJ f g zt zs zc zso znu zty zhd zpa zch zlk zlo zhi zlp zll zlv) sz tk tw)) (va_Ql (fun (r : Int64) (_ : Unit) => r = rd B a9 k9) (fun (_ : Unit) => po dC dI (t1 cI cJ) (va_A (w1 h a b cI cJ f g zt zs zc zso znu zty zhd zpa zch zlk zlo zhi zlp zll zlv) sz) (w1 h a b cI cJ f g zt zs zc zso znu zty zhd zpa zch zlk zlo zhi zlp zll zlv)) (va_A (w1 h a b cI cJ f g zt zs zc zso znu zty zhd zpa zch zlk zlo zhi zlp zll zlv) sz)) 0 0 (va_A (w1 h a b cI cJ f g zt zs zc zso znu zty zhd zpa zch zlk zlo zhi zlp zll zlv) sz) := by
  refine Met.ofW (cc := cX1_numberAt) (maxL := 6) (ret := (some .long)) (by decide) rfl ?_
  intro p e s m args below meth c s₁ Bd hml hv
  obtain ⟨rfl, hsz, hP, hK, hD0, hZ⟩ := hv
  have hx := Bd.exec
  have hb := Bd.bytes
  have hr := Bd.returns
  have hts := atoms_spec (ws := wsX1_numberAt) Bd.pre
  have hown : s.vm.findClass RX1 = some m.cls := findClass_of_methodNamed Bd.named
  have hlocks := Bd.notSynchronized
  subst hsz
  have hD := hD0.self (sz := s.heap.size)
  generalize hAe : va_A (w1 h a b cI cJ f g zt zs zc zso znu zty zhd zpa zch zlk zlo zhi zlp zll zlv) s.heap.size = A at hD hZ ⊢
  have hA : ∀ q : Nat, s.heap.size ≤ q → A q := fun q h => by rw [← hAe]; exact Or.inr h
  have hS : va_S A s.heap s.heap [] := va_S.rf
  have hP : va_P (dC, dI) vwCl (w1 h a b cI cJ f g zt zs zc zso znu zty zhd zpa zch zlk zlo zhi zlp zll zlv) s.heap := hP
  have hin0 : ∀ w ∈ wsX10, w ∈ wsX1_numberAt := by decide +kernel
  have fl7 := hts (.fieldLink RX1 7 "MessageReaderModel" "bytes" "[I") (by decide +kernel)
  have hl := lv_entry ([.ref h, .int (nI a9), .int (nI k9)]) (n := 6) (Nat.le_of_ble_eq_true rfl)
  rw [lg_entry_eq]
  generalize (lg_sl ([.ref h, .int (nI a9), .int (nI k9)]) ++ List.replicate (6 - (lg_sl ([.ref h, .int (nI a9), .int (nI k9)])).length) Slot.unset).toArray = ls at hl ⊢
  have hl : lv_has ls 6 [(0, .ref h), (1, .int (nI a9)), (2, .int (nI k9))] := hl
  refine lv_lconst (v := 0) hx hb dX1_numberAt_0 (by decide) ?_
  refine lv_lstore_n (lv' := [(3, .long 0), (0, .ref h), (1, .int (nI a9)), (2, .int (nI k9))]) hx hb dX1_numberAt_1 rfl hl (by decide) rfl (fun ls hl => ?_)
  refine lv_iconst (v := 0) hx hb dX1_numberAt_2 (by decide) ?_
  refine lv_istore (lv' := [(5, .int 0), (3, .long 0), (0, .ref h), (1, .int (nI a9)), (2, .int (nI k9))]) hx hb dX1_numberAt_3 hl (by decide) rfl (fun ls hl => ?_)
  have loop5 : ∀ (fz : Nat) (i : Nat), i ≤ k9 → k9 - i < fz → ∀ (H : Heap) (locs : List Loc), va_P (dC, dI) vwCl (w1 h a b cI cJ f g zt zs zc zso znu zty zhd zpa zch zlk zlo zhi zlp zll zlv) H → va_D A (w1 h a b cI cJ f g zt zs zc zso znu zty zhd zpa zch zlk zlo zhi zlp zll zlv) → va_S A s.heap H locs → ∀ ls : Array Slot, lv_has ls 6 [(0, .ref h), (1, .int (nI a9)), (2, .int (nI k9)), (3, .long (rd B a9 i)), (5, .int (nI i))] → W p l e (headSpec wsX1_numberAt ({ frames := 0, cells := 0, slots := 0, locals := 0 })).room s m ([.ref h, .int (nI a9), .int (nI k9)]).toArray below meth c H locs 0 0 (MQ below (va_Ql (fun (r : Int64) (_ : Unit) => r = rd B a9 k9) (fun (_ : Unit) => po dC dI (t1 cI cJ) A (w1 h a b cI cJ f g zt zs zc zso znu zty zhd zpa zch zlk zlo zhi zlp zll zlv)) A) ([.ref h, .int (nI a9), .int (nI k9)]).toArray s 0 0 A) (F0 m 5 ls []) := by
    intro fz
    induction fz with
    | zero =>
      intro i hi hn H locs hP hD hS ls hl
      exact absurd hn (Nat.not_lt_zero _)
    | succ fz ih =>
      intro i hi hn H locs hP hD hS ls hl
      refine lv_iload hx hb dX1_numberAt_5 (lv_at hl 4 rfl) ?_
      refine lv_iload_n hx hb dX1_numberAt_7 rfl (lv_at hl 2 rfl) ?_
      refine lv_icmp_ge (tgt := 33) hx hb dX1_numberAt_8 (by decide) (fun c_1 => ?_) (fun c_1 => ?_)
      · skip
        refine lv_lload_n hx hb dX1_numberAt_33 rfl (lv_at hl 3 rfl) ?_
        exact W.lret (v := rd B a9 i) hx hb hr (fun t ht hW => ⟨⟨rd B a9 i, (), rfl, (by have q := (nI_leI (a := k9) (b := i) (by omega) (by omega)).mp c_1; have q2 : i = k9 := (by omega); rw [q2]), by rw [ht]; exact hP, va_K.moved hW.alike hK, hD⟩, hS.F ht⟩) hS.2.2 dX1_numberAt_34
      · skip
        have hik : i < k9 := by have q := (not_congr (nI_leI (a := k9) (b := i) (by omega) (by omega))).mp c_1; omega
        refine lv_lload_n hx hb dX1_numberAt_11 rfl (lv_at hl 3 rfl) ?_
        refine lv_bipush (v := 8) hx hb dX1_numberAt_12 (by decide) ?_
        refine lv_lshl hx hb dX1_numberAt_14 rfl ?_
        refine lv_aload_n hx hb dX1_numberAt_15 rfl (lv_at hl 0 rfl) ?_
        refine va_get (D := (dC, dI)) (ci := 1) (v := .ref a) (C := RX1) (T := TX1) (N := 17) hx hb hts hin0 hown hK hP 0 rfl rfl 1 (by decide) fl7 (fun _ h9 => h9) rfl dX1_numberAt_16 ?_
        refine lv_iload_n hx hb dX1_numberAt_19 rfl (lv_at hl 1 rfl) ?_
        refine lv_iload hx hb dX1_numberAt_20 (lv_at hl 4 rfl) ?_
        refine lv_iadd hx hb dX1_numberAt_22 ?_
        have e_2 : ((nI a9) + (nI i) : Int32) = nI (a9 + i) := nI_add a9 i
        rw [e_2]
        refine va_iald hx hb hK hP 1 0 rfl rfl (vp_in_nI (by omega) (by decide)) dX1_numberAt_23 ?_
        have e_3 : (f (nI (a9 + i)).toNatClampNeg : Int32) = nI (B (a9 + i)) := by rw [nI_clamp (by omega)]; exact hf9 _ (by omega)
        rw [e_3]
        refine lv_i2l hx hb dX1_numberAt_24 rfl ?_
        refine lv_lor hx hb dX1_numberAt_25 ?_
        refine lv_lstore_n (lv' := [(3, .long (((rd B a9 i) <<< ((8 : Int32).toInt64 &&& 63)) ||| ((nI (B (a9 + i))).toInt64))), (0, .ref h), (1, .int (nI a9)), (2, .int (nI k9)), (5, .int (nI i))]) hx hb dX1_numberAt_26 rfl hl (by decide) rfl (fun ls hl => ?_)
        refine lv_iinc (v := nI (i + 1)) (lv' := [(5, .int (nI (i + 1))), (3, .long (((rd B a9 i) <<< ((8 : Int32).toInt64 &&& 63)) ||| ((nI (B (a9 + i))).toInt64))), (0, .ref h), (1, .int (nI a9)), (2, .int (nI k9))]) hx hb dX1_numberAt_27 hl (k := 4) rfl (nI_1 i) (by decide) rfl (fun ls hl => ?_)
        refine lv_goto (tgt := 5) hx hb dX1_numberAt_30 (by decide) ?_
        exact ih (i + 1) (by omega) (by omega) _ _ hP hD hS ls (lv_sub hl [2, 3, 4, 1, 0] rfl)
  exact loop5 (k9 + 1) 0 (Nat.zero_le _) (by omega) _ _ hP hD hS ls (lv_sub hl [2, 3, 4, 1, 0] rfl)
set_option maxHeartbeats 4000000 in
set_option maxRecDepth 100000 in
theorem c_X1_closeDone (l : Launch) (dC : Nat → ClassId) (dI : Nat → Nat → Nat) (tk tw : Nat) (h a b : Nat) (cI cJ : ClassId) (sz : Nat) (f : Nat → Int32) (g : Nat → Int64) (zt : Int32) (zs : Int32) (zc : Int32) (zso : Int32) (znu : Int64) (zty : Int32) (zhd : Int32) (zpa : Int64) (zch : Int64) (zlk : Int32) (zlo : Int32) (zhi : Int32) (zlp : Int32) (zll : Int32) (k9 : Nat) (hk9 : k9 ≤ 100) : Met l yX1_closeDone wsX1_closeDone ({ frames := 0, cells := 0, slots := 0, locals := 0 }) (va_Pc [.ref h] (pr dC dI (t1 cI cJ) (w1 h a b cI cJ f g zt zs zc zso znu zty zhd zpa zch zlk zlo zhi zlp zll (nI k9)) sz tk tw)) (va_Qv (fun (_ : Unit) => True) (fun (_ : Unit) => po dC dI (t1 cI cJ) (va_A (w1 h a b cI cJ f g zt zs zc zso znu zty zhd zpa zch zlk zlo zhi zlp zll (nI k9)) sz) (w1 h a b cI cJ f g zt zs zc zso znu zty zhd zpa zch zlk zlo zhi zlp zll (nI (cl g k9)))) (va_A (w1 h a b cI cJ f g zt zs zc zso znu zty zhd zpa zch zlk zlo zhi zlp zll (nI k9)) sz)) 0 0 (va_A (w1 h a b cI cJ f g zt zs zc zso znu zty zhd zpa zch zlk zlo zhi zlp zll (nI k9)) sz) := by
  refine Met.ofW (cc := cX1_closeDone) (maxL := 1) (ret := none) (by decide) rfl ?_
  intro p e s m args below meth c s₁ Bd hml hv
  obtain ⟨rfl, hsz, hP, hK, hD0, hZ⟩ := hv
  have hx := Bd.exec
  have hb := Bd.bytes
  have hr := Bd.returns
  have hts := atoms_spec (ws := wsX1_closeDone) Bd.pre
  have hown : s.vm.findClass RX1 = some m.cls := findClass_of_methodNamed Bd.named
  have hlocks := Bd.notSynchronized
  subst hsz
  have hD := hD0.self (sz := s.heap.size)
  generalize hAe : va_A (w1 h a b cI cJ f g zt zs zc zso znu zty zhd zpa zch zlk zlo zhi zlp zll (nI k9)) s.heap.size = A at hD hZ ⊢
  have hA : ∀ q : Nat, s.heap.size ≤ q → A q := fun q h => by rw [← hAe]; exact Or.inr h
  have hS : va_S A s.heap s.heap [] := va_S.rf
  have hP : va_P (dC, dI) vwCl (w1 h a b cI cJ f g zt zs zc zso znu zty zhd zpa zch zlk zlo zhi zlp zll (nI k9)) s.heap := hP
  have hin0 : ∀ w ∈ wsX10, w ∈ wsX1_closeDone := by decide +kernel
  have fl17 := hts (.fieldLink RX1 17 "MessageReaderModel" "open" "[J") (by decide +kernel)
  have fl90 := hts (.fieldLink RX1 90 "MessageReaderModel" "level" "I") (by decide +kernel)
  have hl := lv_entry ([.ref h]) (n := 1) (Nat.le_of_ble_eq_true rfl)
  rw [lg_entry_eq]
  generalize (lg_sl ([.ref h]) ++ List.replicate (1 - (lg_sl ([.ref h])).length) Slot.unset).toArray = ls at hl ⊢
  have hl : lv_has ls 1 [(0, .ref h)] := hl
  have loop0 : ∀ (fz : Nat) (k : Nat), k < fz → k ≤ 100 → cl g k = cl g k9 → ∀ (H : Heap) (locs : List Loc), va_P (dC, dI) vwCl (w1 h a b cI cJ f g zt zs zc zso znu zty zhd zpa zch zlk zlo zhi zlp zll (nI k)) H → va_D A (w1 h a b cI cJ f g zt zs zc zso znu zty zhd zpa zch zlk zlo zhi zlp zll (nI k)) → va_S A s.heap H locs → ∀ ls : Array Slot, lv_has ls 1 [(0, .ref h)] → W p l e (headSpec wsX1_closeDone ({ frames := 0, cells := 0, slots := 0, locals := 0 })).room s m ([.ref h]).toArray below meth c H locs 0 0 (MQ below (va_Qv (fun (_ : Unit) => True) (fun (_ : Unit) => po dC dI (t1 cI cJ) A (w1 h a b cI cJ f g zt zs zc zso znu zty zhd zpa zch zlk zlo zhi zlp zll (nI (cl g k9)))) A) ([.ref h]).toArray s 0 0 A) (F0 m 0 ls []) := by
    intro fz
    induction fz with
    | zero =>
      intro k hk hk1 hcl H locs hP hD hS ls hl
      exact absurd hk (Nat.not_lt_zero _)
    | succ fz ih =>
      intro k hk hk1 hcl H locs hP hD hS ls hl
      refine lv_aload_n hx hb dX1_closeDone_0 rfl (lv_at hl 0 rfl) ?_
      refine va_get (D := (dC, dI)) (ci := 1) (v := .int (nI k)) (C := RX1) (T := TX1) (N := 17) hx hb hts hin0 hown hK hP 0 rfl rfl 16 (by decide) fl90 (fun _ h9 => h9) rfl dX1_closeDone_1 ?_
      refine lv_if_le (tgt := 36) hx hb dX1_closeDone_4 (by decide) (fun c_1 => ?_) (fun c_1 => ?_)
      · skip
        have hP9 : va_P (dC, dI) vwCl ((fun (_ : Unit) => w1 h a b cI cJ f g zt zs zc zso znu zty zhd zpa zch zlk zlo zhi zlp zll (nI (cl g k9))) (())) H := by rw [← hcl, show cl g k = k from cl_e (Or.inl (Nat.eq_zero_of_not_pos (fun z => nI_nle z (by omega) c_1)))]; exact hP
        have hD9 : va_D A ((fun (_ : Unit) => w1 h a b cI cJ f g zt zs zc zso znu zty zhd zpa zch zlk zlo zhi zlp zll (nI (cl g k9))) (())) := by rw [← hcl, show cl g k = k from cl_e (Or.inl (Nat.eq_zero_of_not_pos (fun z => nI_nle z (by omega) c_1)))]; exact hD
        exact W.vret hx hb hr (fun t ht hW => ⟨⟨(), rfl, trivial, by rw [ht]; exact hP9, va_K.moved hW.alike hK, hD9⟩, hS.F ht⟩) hS.2.2 dX1_closeDone_36
      · skip
        have q0 : 0 < k := Nat.pos_of_ne_zero (fun z => c_1 (by rw [z]; decide))
        have q1 : nI k - 1 = nI (k - 1) := pk_sub (b := 1) q0
        refine lv_aload_n hx hb dX1_closeDone_7 rfl (lv_at hl 0 rfl) ?_
        refine va_get (D := (dC, dI)) (ci := 1) (v := .ref b) (C := RX1) (T := TX1) (N := 17) hx hb hts hin0 hown hK hP 0 rfl rfl 15 (by decide) fl17 (fun _ h9 => h9) rfl dX1_closeDone_8 ?_
        refine lv_aload_n hx hb dX1_closeDone_11 rfl (lv_at hl 0 rfl) ?_
        refine va_get (D := (dC, dI)) (ci := 1) (v := .int (nI k)) (C := RX1) (T := TX1) (N := 17) hx hb hts hin0 hown hK hP 0 rfl rfl 16 (by decide) fl90 (fun _ h9 => h9) rfl dX1_closeDone_12 ?_
        refine lv_iconst (v := 1) hx hb dX1_closeDone_15 (by decide) ?_
        refine lv_isub hx hb dX1_closeDone_16 ?_
        have e_2 : ((nI k) - 1 : Int32) = nI (k - 1) := q1
        rw [e_2]
        refine va_lald hx hb hK hP 2 1 rfl rfl (vp_in_nI (by omega) (by decide)) dX1_closeDone_17 ?_
        refine lv_lconst (v := 0) hx hb dX1_closeDone_18 (by decide) ?_
        refine W.lcmp hx hb dX1_closeDone_19 ?_
        refine lv_if_ne (tgt := 36) hx hb dX1_closeDone_20 (by decide) (fun c_3 => ?_) (fun c_3 => ?_)
        · skip
          have c_3 := (not_congr (lg_cmp_eq (g (nI (k - 1)).toNatClampNeg) (0 : Int64))).mp c_3
          have hP9 : va_P (dC, dI) vwCl ((fun (_ : Unit) => w1 h a b cI cJ f g zt zs zc zso znu zty zhd zpa zch zlk zlo zhi zlp zll (nI (cl g k9))) (())) H := by rw [← hcl, show cl g k = k from cl_e (Or.inr (by rw [nI_clamp (by omega)] at c_3; exact c_3))]; exact hP
          have hD9 : va_D A ((fun (_ : Unit) => w1 h a b cI cJ f g zt zs zc zso znu zty zhd zpa zch zlk zlo zhi zlp zll (nI (cl g k9))) (())) := by rw [← hcl, show cl g k = k from cl_e (Or.inr (by rw [nI_clamp (by omega)] at c_3; exact c_3))]; exact hD
          exact W.vret hx hb hr (fun t ht hW => ⟨⟨(), rfl, trivial, by rw [ht]; exact hP9, va_K.moved hW.alike hK, hD9⟩, hS.F ht⟩) hS.2.2 dX1_closeDone_36
        · skip
          have c_3 := (lg_cmp_eq (g (nI (k - 1)).toNatClampNeg) (0 : Int64)).mp c_3
          refine lv_aload_n hx hb dX1_closeDone_23 rfl (lv_at hl 0 rfl) ?_
          refine lv_dup hx hb dX1_closeDone_24 rfl ?_
          refine va_get (D := (dC, dI)) (ci := 1) (v := .int (nI k)) (C := RX1) (T := TX1) (N := 17) hx hb hts hin0 hown hK hP 0 rfl rfl 16 (by decide) fl90 (fun _ h9 => h9) rfl dX1_closeDone_25 ?_
          refine lv_iconst (v := 1) hx hb dX1_closeDone_28 (by decide) ?_
          refine lv_isub hx hb dX1_closeDone_29 ?_
          have e_4 : ((nI k) - 1 : Int32) = nI (k - 1) := q1
          rw [e_4]
          refine va_put (D := (dC, dI)) (ci := 1) (v := .int (nI (k - 1))) (ty := .int) (C := RX1) (T := TX1) (N := 17) hx hb hts hin0 tyX1 tyX1_ok nmX1 hown hK hP hD hS 0 rfl rfl 16 (by decide) fl90 (fun _ h9 => h9) rfl (by decide +kernel) rfl rfl (Nat.le_of_ble_eq_true rfl) dX1_closeDone_30 (fun H locs hP hD hS => ?_)
          have hP : va_P (dC, dI) vwCl (w1 h a b cI cJ f g zt zs zc zso znu zty zhd zpa zch zlk zlo zhi zlp zll (nI (k - 1))) H := hP
          have hD : va_D A (w1 h a b cI cJ f g zt zs zc zso znu zty zhd zpa zch zlk zlo zhi zlp zll (nI (k - 1))) := hD
          refine lv_goto (tgt := 0) hx hb dX1_closeDone_33 (by decide) ?_
          exact ih (k - 1) (by omega) (by omega) (by rw [← hcl]; exact (cl_z q0 (by rw [nI_clamp (by omega)] at c_3; exact c_3)).symm) _ _ hP hD hS ls (lv_sub hl [0] rfl)
  exact loop0 (k9 + 1) k9 (by omega) hk9 rfl _ _ hP hD hS ls (lv_sub hl [0] rfl)
set_option maxHeartbeats 4000000 in
set_option maxRecDepth 100000 in
theorem c_X1_thrown (l : Launch) (dC : Nat → ClassId) (dI : Nat → Nat → Nat) (tk tw : Nat) (h a b : Nat) (cI cJ : ClassId) (sz : Nat) (f : Nat → Int32) (g : Nat → Int64) (zt : Int32) (zs : Int32) (zc : Int32) (zso : Int32) (znu : Int64) (zty : Int32) (zhd : Int32) (zpa : Int64) (zch : Int64) (zlk : Int32) (zlo : Int32) (zhi : Int32) (zlp : Int32) (zll : Int32) (zlv : Int32)  : Met l yX1_thrown wsX1_thrown ({ frames := 0, cells := 0, slots := 0, locals := 0 }) (va_Pc [.ref h] (pr dC dI (t1 cI cJ) (w1 h a b cI cJ f g zt zs zc zso znu zty zhd zpa zch zlk zlo zhi zlp zll zlv) sz tk tw)) (va_Qi (fun (r : Int32) (_ : Unit) => r = zt) (fun (_ : Unit) => po dC dI (t1 cI cJ) (va_A (w1 h a b cI cJ f g zt zs zc zso znu zty zhd zpa zch zlk zlo zhi zlp zll zlv) sz) (w1 h a b cI cJ f g zt zs zc zso znu zty zhd zpa zch zlk zlo zhi zlp zll zlv)) (va_A (w1 h a b cI cJ f g zt zs zc zso znu zty zhd zpa zch zlk zlo zhi zlp zll zlv) sz)) 0 0 (va_A (w1 h a b cI cJ f g zt zs zc zso znu zty zhd zpa zch zlk zlo zhi zlp zll zlv) sz) := by
  refine Met.ofW (cc := cX1_thrown) (maxL := 1) (ret := (some .int)) (by decide) rfl ?_
  intro p e s m args below meth c s₁ Bd hml hv
  obtain ⟨rfl, hsz, hP, hK, hD0, hZ⟩ := hv
  have hx := Bd.exec
  have hb := Bd.bytes
  have hr := Bd.returns
  have hts := atoms_spec (ws := wsX1_thrown) Bd.pre
  have hown : s.vm.findClass RX1 = some m.cls := findClass_of_methodNamed Bd.named
  have hlocks := Bd.notSynchronized
  subst hsz
  have hD := hD0.self (sz := s.heap.size)
  generalize hAe : va_A (w1 h a b cI cJ f g zt zs zc zso znu zty zhd zpa zch zlk zlo zhi zlp zll zlv) s.heap.size = A at hD hZ ⊢
  have hA : ∀ q : Nat, s.heap.size ≤ q → A q := fun q h => by rw [← hAe]; exact Or.inr h
  have hS : va_S A s.heap s.heap [] := va_S.rf
  have hP : va_P (dC, dI) vwCl (w1 h a b cI cJ f g zt zs zc zso znu zty zhd zpa zch zlk zlo zhi zlp zll zlv) s.heap := hP
  have hin0 : ∀ w ∈ wsX10, w ∈ wsX1_thrown := by decide +kernel
  have fl21 := hts (.fieldLink RX1 21 "MessageReaderModel" "thrown" "I") (by decide +kernel)
  have hl := lv_entry ([.ref h]) (n := 1) (Nat.le_of_ble_eq_true rfl)
  rw [lg_entry_eq]
  generalize (lg_sl ([.ref h]) ++ List.replicate (1 - (lg_sl ([.ref h])).length) Slot.unset).toArray = ls at hl ⊢
  have hl : lv_has ls 1 [(0, .ref h)] := hl
  refine lv_aload_n hx hb dX1_thrown_0 rfl (lv_at hl 0 rfl) ?_
  refine va_get (D := (dC, dI)) (ci := 1) (v := .int zt) (C := RX1) (T := TX1) (N := 17) hx hb hts hin0 hown hK hP 0 rfl rfl 0 (by decide) fl21 (fun _ h9 => h9) rfl dX1_thrown_1 ?_
  exact W.iret (v := zt) hx hb hr (fun t ht hW => ⟨⟨zt, (), rfl, rfl, by rw [ht]; exact hP, va_K.moved hW.alike hK, hD⟩, hS.F ht⟩) hS.2.2 dX1_thrown_4
set_option maxHeartbeats 4000000 in
set_option maxRecDepth 100000 in
theorem c_X1_kind (l : Launch) (dC : Nat → ClassId) (dI : Nat → Nat → Nat) (tk tw : Nat) (h a b : Nat) (cI cJ : ClassId) (sz : Nat) (f : Nat → Int32) (g : Nat → Int64) (zt : Int32) (zs : Int32) (zc : Int32) (zso : Int32) (znu : Int64) (zty : Int32) (zhd : Int32) (zpa : Int64) (zch : Int64) (zlk : Int32) (zlo : Int32) (zhi : Int32) (zlp : Int32) (zll : Int32) (zlv : Int32)  : Met l yX1_kind wsX1_kind ({ frames := 0, cells := 0, slots := 0, locals := 0 }) (va_Pc [.ref h] (pr dC dI (t1 cI cJ) (w1 h a b cI cJ f g zt zs zc zso znu zty zhd zpa zch zlk zlo zhi zlp zll zlv) sz tk tw)) (va_Qi (fun (r : Int32) (_ : Unit) => r = zlk) (fun (_ : Unit) => po dC dI (t1 cI cJ) (va_A (w1 h a b cI cJ f g zt zs zc zso znu zty zhd zpa zch zlk zlo zhi zlp zll zlv) sz) (w1 h a b cI cJ f g 0 zs zc zso znu zty zhd zpa zch zlk zlo zhi zlp zll zlv)) (va_A (w1 h a b cI cJ f g zt zs zc zso znu zty zhd zpa zch zlk zlo zhi zlp zll zlv) sz)) 0 0 (va_A (w1 h a b cI cJ f g zt zs zc zso znu zty zhd zpa zch zlk zlo zhi zlp zll zlv) sz) := by
  refine Met.ofW (cc := cX1_kind) (maxL := 1) (ret := (some .int)) (by decide) rfl ?_
  intro p e s m args below meth c s₁ Bd hml hv
  obtain ⟨rfl, hsz, hP, hK, hD0, hZ⟩ := hv
  have hx := Bd.exec
  have hb := Bd.bytes
  have hr := Bd.returns
  have hts := atoms_spec (ws := wsX1_kind) Bd.pre
  have hown : s.vm.findClass RX1 = some m.cls := findClass_of_methodNamed Bd.named
  have hlocks := Bd.notSynchronized
  subst hsz
  have hD := hD0.self (sz := s.heap.size)
  generalize hAe : va_A (w1 h a b cI cJ f g zt zs zc zso znu zty zhd zpa zch zlk zlo zhi zlp zll zlv) s.heap.size = A at hD hZ ⊢
  have hA : ∀ q : Nat, s.heap.size ≤ q → A q := fun q h => by rw [← hAe]; exact Or.inr h
  have hS : va_S A s.heap s.heap [] := va_S.rf
  have hP : va_P (dC, dI) vwCl (w1 h a b cI cJ f g zt zs zc zso znu zty zhd zpa zch zlk zlo zhi zlp zll zlv) s.heap := hP
  have hin0 : ∀ w ∈ wsX10, w ∈ wsX1_kind := by decide +kernel
  have fl13 := hts (.fieldLink RX1 13 "MessageReaderModel" "lastKind" "I") (by decide +kernel)
  have fl21 := hts (.fieldLink RX1 21 "MessageReaderModel" "thrown" "I") (by decide +kernel)
  have hl := lv_entry ([.ref h]) (n := 1) (Nat.le_of_ble_eq_true rfl)
  rw [lg_entry_eq]
  generalize (lg_sl ([.ref h]) ++ List.replicate (1 - (lg_sl ([.ref h])).length) Slot.unset).toArray = ls at hl ⊢
  have hl : lv_has ls 1 [(0, .ref h)] := hl
  refine lv_aload_n hx hb dX1_kind_0 rfl (lv_at hl 0 rfl) ?_
  refine lv_iconst (v := 0) hx hb dX1_kind_1 (by decide) ?_
  refine va_put (D := (dC, dI)) (ci := 1) (v := .int 0) (ty := .int) (C := RX1) (T := TX1) (N := 17) hx hb hts hin0 tyX1 tyX1_ok nmX1 hown hK hP hD hS 0 rfl rfl 0 (by decide) fl21 (fun _ h9 => h9) rfl (by decide +kernel) rfl rfl (Nat.le_of_ble_eq_true rfl) dX1_kind_2 (fun H locs hP hD hS => ?_)
  have hP : va_P (dC, dI) vwCl (w1 h a b cI cJ f g 0 zs zc zso znu zty zhd zpa zch zlk zlo zhi zlp zll zlv) H := hP
  have hD : va_D A (w1 h a b cI cJ f g 0 zs zc zso znu zty zhd zpa zch zlk zlo zhi zlp zll zlv) := hD
  refine lv_aload_n hx hb dX1_kind_5 rfl (lv_at hl 0 rfl) ?_
  refine va_get (D := (dC, dI)) (ci := 1) (v := .int zlk) (C := RX1) (T := TX1) (N := 17) hx hb hts hin0 hown hK hP 0 rfl rfl 10 (by decide) fl13 (fun _ h9 => h9) rfl dX1_kind_6 ?_
  have hP9 : va_P (dC, dI) vwCl ((fun (_ : Unit) => w1 h a b cI cJ f g 0 zs zc zso znu zty zhd zpa zch zlk zlo zhi zlp zll zlv) (())) H := hP
  have hD9 : va_D A ((fun (_ : Unit) => w1 h a b cI cJ f g 0 zs zc zso znu zty zhd zpa zch zlk zlo zhi zlp zll zlv) (())) := hD
  exact W.iret (v := zlk) hx hb hr (fun t ht hW => ⟨⟨zlk, (), rfl, rfl, by rw [ht]; exact hP9, va_K.moved hW.alike hK, hD9⟩, hS.F ht⟩) hS.2.2 dX1_kind_9
set_option maxHeartbeats 4000000 in
set_option maxRecDepth 100000 in
theorem c_X1_valueLow (l : Launch) (dC : Nat → ClassId) (dI : Nat → Nat → Nat) (tk tw : Nat) (h a b : Nat) (cI cJ : ClassId) (sz : Nat) (f : Nat → Int32) (g : Nat → Int64) (zt : Int32) (zs : Int32) (zc : Int32) (zso : Int32) (znu : Int64) (zty : Int32) (zhd : Int32) (zpa : Int64) (zch : Int64) (zlk : Int32) (zlo : Int32) (zhi : Int32) (zlp : Int32) (zll : Int32) (zlv : Int32)  : Met l yX1_valueLow wsX1_valueLow ({ frames := 0, cells := 0, slots := 0, locals := 0 }) (va_Pc [.ref h] (pr dC dI (t1 cI cJ) (w1 h a b cI cJ f g zt zs zc zso znu zty zhd zpa zch zlk zlo zhi zlp zll zlv) sz tk tw)) (va_Qi (fun (r : Int32) (_ : Unit) => r = zlo) (fun (_ : Unit) => po dC dI (t1 cI cJ) (va_A (w1 h a b cI cJ f g zt zs zc zso znu zty zhd zpa zch zlk zlo zhi zlp zll zlv) sz) (w1 h a b cI cJ f g 0 zs zc zso znu zty zhd zpa zch zlk zlo zhi zlp zll zlv)) (va_A (w1 h a b cI cJ f g zt zs zc zso znu zty zhd zpa zch zlk zlo zhi zlp zll zlv) sz)) 0 0 (va_A (w1 h a b cI cJ f g zt zs zc zso znu zty zhd zpa zch zlk zlo zhi zlp zll zlv) sz) := by
  refine Met.ofW (cc := cX1_valueLow) (maxL := 1) (ret := (some .int)) (by decide) rfl ?_
  intro p e s m args below meth c s₁ Bd hml hv
  obtain ⟨rfl, hsz, hP, hK, hD0, hZ⟩ := hv
  have hx := Bd.exec
  have hb := Bd.bytes
  have hr := Bd.returns
  have hts := atoms_spec (ws := wsX1_valueLow) Bd.pre
  have hown : s.vm.findClass RX1 = some m.cls := findClass_of_methodNamed Bd.named
  have hlocks := Bd.notSynchronized
  subst hsz
  have hD := hD0.self (sz := s.heap.size)
  generalize hAe : va_A (w1 h a b cI cJ f g zt zs zc zso znu zty zhd zpa zch zlk zlo zhi zlp zll zlv) s.heap.size = A at hD hZ ⊢
  have hA : ∀ q : Nat, s.heap.size ≤ q → A q := fun q h => by rw [← hAe]; exact Or.inr h
  have hS : va_S A s.heap s.heap [] := va_S.rf
  have hP : va_P (dC, dI) vwCl (w1 h a b cI cJ f g zt zs zc zso znu zty zhd zpa zch zlk zlo zhi zlp zll zlv) s.heap := hP
  have hin0 : ∀ w ∈ wsX10, w ∈ wsX1_valueLow := by decide +kernel
  have fl21 := hts (.fieldLink RX1 21 "MessageReaderModel" "thrown" "I") (by decide +kernel)
  have fl78 := hts (.fieldLink RX1 78 "MessageReaderModel" "low" "I") (by decide +kernel)
  have hl := lv_entry ([.ref h]) (n := 1) (Nat.le_of_ble_eq_true rfl)
  rw [lg_entry_eq]
  generalize (lg_sl ([.ref h]) ++ List.replicate (1 - (lg_sl ([.ref h])).length) Slot.unset).toArray = ls at hl ⊢
  have hl : lv_has ls 1 [(0, .ref h)] := hl
  refine lv_aload_n hx hb dX1_valueLow_0 rfl (lv_at hl 0 rfl) ?_
  refine lv_iconst (v := 0) hx hb dX1_valueLow_1 (by decide) ?_
  refine va_put (D := (dC, dI)) (ci := 1) (v := .int 0) (ty := .int) (C := RX1) (T := TX1) (N := 17) hx hb hts hin0 tyX1 tyX1_ok nmX1 hown hK hP hD hS 0 rfl rfl 0 (by decide) fl21 (fun _ h9 => h9) rfl (by decide +kernel) rfl rfl (Nat.le_of_ble_eq_true rfl) dX1_valueLow_2 (fun H locs hP hD hS => ?_)
  have hP : va_P (dC, dI) vwCl (w1 h a b cI cJ f g 0 zs zc zso znu zty zhd zpa zch zlk zlo zhi zlp zll zlv) H := hP
  have hD : va_D A (w1 h a b cI cJ f g 0 zs zc zso znu zty zhd zpa zch zlk zlo zhi zlp zll zlv) := hD
  refine lv_aload_n hx hb dX1_valueLow_5 rfl (lv_at hl 0 rfl) ?_
  refine va_get (D := (dC, dI)) (ci := 1) (v := .int zlo) (C := RX1) (T := TX1) (N := 17) hx hb hts hin0 hown hK hP 0 rfl rfl 11 (by decide) fl78 (fun _ h9 => h9) rfl dX1_valueLow_6 ?_
  have hP9 : va_P (dC, dI) vwCl ((fun (_ : Unit) => w1 h a b cI cJ f g 0 zs zc zso znu zty zhd zpa zch zlk zlo zhi zlp zll zlv) (())) H := hP
  have hD9 : va_D A ((fun (_ : Unit) => w1 h a b cI cJ f g 0 zs zc zso znu zty zhd zpa zch zlk zlo zhi zlp zll zlv) (())) := hD
  exact W.iret (v := zlo) hx hb hr (fun t ht hW => ⟨⟨zlo, (), rfl, rfl, by rw [ht]; exact hP9, va_K.moved hW.alike hK, hD9⟩, hS.F ht⟩) hS.2.2 dX1_valueLow_9
set_option maxHeartbeats 4000000 in
set_option maxRecDepth 100000 in
theorem c_X1_valueHigh (l : Launch) (dC : Nat → ClassId) (dI : Nat → Nat → Nat) (tk tw : Nat) (h a b : Nat) (cI cJ : ClassId) (sz : Nat) (f : Nat → Int32) (g : Nat → Int64) (zt : Int32) (zs : Int32) (zc : Int32) (zso : Int32) (znu : Int64) (zty : Int32) (zhd : Int32) (zpa : Int64) (zch : Int64) (zlk : Int32) (zlo : Int32) (zhi : Int32) (zlp : Int32) (zll : Int32) (zlv : Int32)  : Met l yX1_valueHigh wsX1_valueHigh ({ frames := 0, cells := 0, slots := 0, locals := 0 }) (va_Pc [.ref h] (pr dC dI (t1 cI cJ) (w1 h a b cI cJ f g zt zs zc zso znu zty zhd zpa zch zlk zlo zhi zlp zll zlv) sz tk tw)) (va_Qi (fun (r : Int32) (_ : Unit) => r = zhi) (fun (_ : Unit) => po dC dI (t1 cI cJ) (va_A (w1 h a b cI cJ f g zt zs zc zso znu zty zhd zpa zch zlk zlo zhi zlp zll zlv) sz) (w1 h a b cI cJ f g 0 zs zc zso znu zty zhd zpa zch zlk zlo zhi zlp zll zlv)) (va_A (w1 h a b cI cJ f g zt zs zc zso znu zty zhd zpa zch zlk zlo zhi zlp zll zlv) sz)) 0 0 (va_A (w1 h a b cI cJ f g zt zs zc zso znu zty zhd zpa zch zlk zlo zhi zlp zll zlv) sz) := by
  refine Met.ofW (cc := cX1_valueHigh) (maxL := 1) (ret := (some .int)) (by decide) rfl ?_
  intro p e s m args below meth c s₁ Bd hml hv
  obtain ⟨rfl, hsz, hP, hK, hD0, hZ⟩ := hv
  have hx := Bd.exec
  have hb := Bd.bytes
  have hr := Bd.returns
  have hts := atoms_spec (ws := wsX1_valueHigh) Bd.pre
  have hown : s.vm.findClass RX1 = some m.cls := findClass_of_methodNamed Bd.named
  have hlocks := Bd.notSynchronized
  subst hsz
  have hD := hD0.self (sz := s.heap.size)
  generalize hAe : va_A (w1 h a b cI cJ f g zt zs zc zso znu zty zhd zpa zch zlk zlo zhi zlp zll zlv) s.heap.size = A at hD hZ ⊢
  have hA : ∀ q : Nat, s.heap.size ≤ q → A q := fun q h => by rw [← hAe]; exact Or.inr h
  have hS : va_S A s.heap s.heap [] := va_S.rf
  have hP : va_P (dC, dI) vwCl (w1 h a b cI cJ f g zt zs zc zso znu zty zhd zpa zch zlk zlo zhi zlp zll zlv) s.heap := hP
  have hin0 : ∀ w ∈ wsX10, w ∈ wsX1_valueHigh := by decide +kernel
  have fl21 := hts (.fieldLink RX1 21 "MessageReaderModel" "thrown" "I") (by decide +kernel)
  have fl81 := hts (.fieldLink RX1 81 "MessageReaderModel" "high" "I") (by decide +kernel)
  have hl := lv_entry ([.ref h]) (n := 1) (Nat.le_of_ble_eq_true rfl)
  rw [lg_entry_eq]
  generalize (lg_sl ([.ref h]) ++ List.replicate (1 - (lg_sl ([.ref h])).length) Slot.unset).toArray = ls at hl ⊢
  have hl : lv_has ls 1 [(0, .ref h)] := hl
  refine lv_aload_n hx hb dX1_valueHigh_0 rfl (lv_at hl 0 rfl) ?_
  refine lv_iconst (v := 0) hx hb dX1_valueHigh_1 (by decide) ?_
  refine va_put (D := (dC, dI)) (ci := 1) (v := .int 0) (ty := .int) (C := RX1) (T := TX1) (N := 17) hx hb hts hin0 tyX1 tyX1_ok nmX1 hown hK hP hD hS 0 rfl rfl 0 (by decide) fl21 (fun _ h9 => h9) rfl (by decide +kernel) rfl rfl (Nat.le_of_ble_eq_true rfl) dX1_valueHigh_2 (fun H locs hP hD hS => ?_)
  have hP : va_P (dC, dI) vwCl (w1 h a b cI cJ f g 0 zs zc zso znu zty zhd zpa zch zlk zlo zhi zlp zll zlv) H := hP
  have hD : va_D A (w1 h a b cI cJ f g 0 zs zc zso znu zty zhd zpa zch zlk zlo zhi zlp zll zlv) := hD
  refine lv_aload_n hx hb dX1_valueHigh_5 rfl (lv_at hl 0 rfl) ?_
  refine va_get (D := (dC, dI)) (ci := 1) (v := .int zhi) (C := RX1) (T := TX1) (N := 17) hx hb hts hin0 hown hK hP 0 rfl rfl 12 (by decide) fl81 (fun _ h9 => h9) rfl dX1_valueHigh_6 ?_
  have hP9 : va_P (dC, dI) vwCl ((fun (_ : Unit) => w1 h a b cI cJ f g 0 zs zc zso znu zty zhd zpa zch zlk zlo zhi zlp zll zlv) (())) H := hP
  have hD9 : va_D A ((fun (_ : Unit) => w1 h a b cI cJ f g 0 zs zc zso znu zty zhd zpa zch zlk zlo zhi zlp zll zlv) (())) := hD
  exact W.iret (v := zhi) hx hb hr (fun t ht hW => ⟨⟨zhi, (), rfl, rfl, by rw [ht]; exact hP9, va_K.moved hW.alike hK, hD9⟩, hS.F ht⟩) hS.2.2 dX1_valueHigh_9
set_option maxHeartbeats 4000000 in
set_option maxRecDepth 100000 in
theorem c_X1_level (l : Launch) (dC : Nat → ClassId) (dI : Nat → Nat → Nat) (tk tw : Nat) (h a b : Nat) (cI cJ : ClassId) (sz : Nat) (f : Nat → Int32) (g : Nat → Int64) (zt : Int32) (zs : Int32) (zc : Int32) (zso : Int32) (znu : Int64) (zty : Int32) (zhd : Int32) (zpa : Int64) (zch : Int64) (zlk : Int32) (zlo : Int32) (zhi : Int32) (zlp : Int32) (zll : Int32) (zlv : Int32)  : Met l yX1_level wsX1_level ({ frames := 0, cells := 0, slots := 0, locals := 0 }) (va_Pc [.ref h] (pr dC dI (t1 cI cJ) (w1 h a b cI cJ f g zt zs zc zso znu zty zhd zpa zch zlk zlo zhi zlp zll zlv) sz tk tw)) (va_Qi (fun (r : Int32) (_ : Unit) => r = zlv) (fun (_ : Unit) => po dC dI (t1 cI cJ) (va_A (w1 h a b cI cJ f g zt zs zc zso znu zty zhd zpa zch zlk zlo zhi zlp zll zlv) sz) (w1 h a b cI cJ f g 0 zs zc zso znu zty zhd zpa zch zlk zlo zhi zlp zll zlv)) (va_A (w1 h a b cI cJ f g zt zs zc zso znu zty zhd zpa zch zlk zlo zhi zlp zll zlv) sz)) 0 0 (va_A (w1 h a b cI cJ f g zt zs zc zso znu zty zhd zpa zch zlk zlo zhi zlp zll zlv) sz) := by
  refine Met.ofW (cc := cX1_level) (maxL := 1) (ret := (some .int)) (by decide) rfl ?_
  intro p e s m args below meth c s₁ Bd hml hv
  obtain ⟨rfl, hsz, hP, hK, hD0, hZ⟩ := hv
  have hx := Bd.exec
  have hb := Bd.bytes
  have hr := Bd.returns
  have hts := atoms_spec (ws := wsX1_level) Bd.pre
  have hown : s.vm.findClass RX1 = some m.cls := findClass_of_methodNamed Bd.named
  have hlocks := Bd.notSynchronized
  subst hsz
  have hD := hD0.self (sz := s.heap.size)
  generalize hAe : va_A (w1 h a b cI cJ f g zt zs zc zso znu zty zhd zpa zch zlk zlo zhi zlp zll zlv) s.heap.size = A at hD hZ ⊢
  have hA : ∀ q : Nat, s.heap.size ≤ q → A q := fun q h => by rw [← hAe]; exact Or.inr h
  have hS : va_S A s.heap s.heap [] := va_S.rf
  have hP : va_P (dC, dI) vwCl (w1 h a b cI cJ f g zt zs zc zso znu zty zhd zpa zch zlk zlo zhi zlp zll zlv) s.heap := hP
  have hin0 : ∀ w ∈ wsX10, w ∈ wsX1_level := by decide +kernel
  have fl21 := hts (.fieldLink RX1 21 "MessageReaderModel" "thrown" "I") (by decide +kernel)
  have fl90 := hts (.fieldLink RX1 90 "MessageReaderModel" "level" "I") (by decide +kernel)
  have hl := lv_entry ([.ref h]) (n := 1) (Nat.le_of_ble_eq_true rfl)
  rw [lg_entry_eq]
  generalize (lg_sl ([.ref h]) ++ List.replicate (1 - (lg_sl ([.ref h])).length) Slot.unset).toArray = ls at hl ⊢
  have hl : lv_has ls 1 [(0, .ref h)] := hl
  refine lv_aload_n hx hb dX1_level_0 rfl (lv_at hl 0 rfl) ?_
  refine lv_iconst (v := 0) hx hb dX1_level_1 (by decide) ?_
  refine va_put (D := (dC, dI)) (ci := 1) (v := .int 0) (ty := .int) (C := RX1) (T := TX1) (N := 17) hx hb hts hin0 tyX1 tyX1_ok nmX1 hown hK hP hD hS 0 rfl rfl 0 (by decide) fl21 (fun _ h9 => h9) rfl (by decide +kernel) rfl rfl (Nat.le_of_ble_eq_true rfl) dX1_level_2 (fun H locs hP hD hS => ?_)
  have hP : va_P (dC, dI) vwCl (w1 h a b cI cJ f g 0 zs zc zso znu zty zhd zpa zch zlk zlo zhi zlp zll zlv) H := hP
  have hD : va_D A (w1 h a b cI cJ f g 0 zs zc zso znu zty zhd zpa zch zlk zlo zhi zlp zll zlv) := hD
  refine lv_aload_n hx hb dX1_level_5 rfl (lv_at hl 0 rfl) ?_
  refine va_get (D := (dC, dI)) (ci := 1) (v := .int zlv) (C := RX1) (T := TX1) (N := 17) hx hb hts hin0 hown hK hP 0 rfl rfl 16 (by decide) fl90 (fun _ h9 => h9) rfl dX1_level_6 ?_
  have hP9 : va_P (dC, dI) vwCl ((fun (_ : Unit) => w1 h a b cI cJ f g 0 zs zc zso znu zty zhd zpa zch zlk zlo zhi zlp zll zlv) (())) H := hP
  have hD9 : va_D A ((fun (_ : Unit) => w1 h a b cI cJ f g 0 zs zc zso znu zty zhd zpa zch zlk zlo zhi zlp zll zlv) (())) := hD
  exact W.iret (v := zlv) hx hb hr (fun t ht hW => ⟨⟨zlv, (), rfl, rfl, by rw [ht]; exact hP9, va_K.moved hW.alike hK, hD9⟩, hS.F ht⟩) hS.2.2 dX1_level_9
set_option maxHeartbeats 4000000 in
set_option maxRecDepth 100000 in
theorem c_X1_consumed (l : Launch) (dC : Nat → ClassId) (dI : Nat → Nat → Nat) (tk tw : Nat) (h a b : Nat) (cI cJ : ClassId) (sz : Nat) (f : Nat → Int32) (g : Nat → Int64) (zt : Int32) (zs : Int32) (zc : Int32) (zso : Int32) (znu : Int64) (zty : Int32) (zhd : Int32) (zpa : Int64) (zch : Int64) (zlk : Int32) (zlo : Int32) (zhi : Int32) (zlp : Int32) (zll : Int32) (zlv : Int32)  : Met l yX1_consumed wsX1_consumed ({ frames := 0, cells := 0, slots := 0, locals := 0 }) (va_Pc [.ref h] (pr dC dI (t1 cI cJ) (w1 h a b cI cJ f g zt zs zc zso znu zty zhd zpa zch zlk zlo zhi zlp zll zlv) sz tk tw)) (va_Qi (fun (r : Int32) (_ : Unit) => r = zc) (fun (_ : Unit) => po dC dI (t1 cI cJ) (va_A (w1 h a b cI cJ f g zt zs zc zso znu zty zhd zpa zch zlk zlo zhi zlp zll zlv) sz) (w1 h a b cI cJ f g 0 zs zc zso znu zty zhd zpa zch zlk zlo zhi zlp zll zlv)) (va_A (w1 h a b cI cJ f g zt zs zc zso znu zty zhd zpa zch zlk zlo zhi zlp zll zlv) sz)) 0 0 (va_A (w1 h a b cI cJ f g zt zs zc zso znu zty zhd zpa zch zlk zlo zhi zlp zll zlv) sz) := by
  refine Met.ofW (cc := cX1_consumed) (maxL := 1) (ret := (some .int)) (by decide) rfl ?_
  intro p e s m args below meth c s₁ Bd hml hv
  obtain ⟨rfl, hsz, hP, hK, hD0, hZ⟩ := hv
  have hx := Bd.exec
  have hb := Bd.bytes
  have hr := Bd.returns
  have hts := atoms_spec (ws := wsX1_consumed) Bd.pre
  have hown : s.vm.findClass RX1 = some m.cls := findClass_of_methodNamed Bd.named
  have hlocks := Bd.notSynchronized
  subst hsz
  have hD := hD0.self (sz := s.heap.size)
  generalize hAe : va_A (w1 h a b cI cJ f g zt zs zc zso znu zty zhd zpa zch zlk zlo zhi zlp zll zlv) s.heap.size = A at hD hZ ⊢
  have hA : ∀ q : Nat, s.heap.size ≤ q → A q := fun q h => by rw [← hAe]; exact Or.inr h
  have hS : va_S A s.heap s.heap [] := va_S.rf
  have hP : va_P (dC, dI) vwCl (w1 h a b cI cJ f g zt zs zc zso znu zty zhd zpa zch zlk zlo zhi zlp zll zlv) s.heap := hP
  have hin0 : ∀ w ∈ wsX10, w ∈ wsX1_consumed := by decide +kernel
  have fl21 := hts (.fieldLink RX1 21 "MessageReaderModel" "thrown" "I") (by decide +kernel)
  have fl37 := hts (.fieldLink RX1 37 "MessageReaderModel" "consumed" "I") (by decide +kernel)
  have hl := lv_entry ([.ref h]) (n := 1) (Nat.le_of_ble_eq_true rfl)
  rw [lg_entry_eq]
  generalize (lg_sl ([.ref h]) ++ List.replicate (1 - (lg_sl ([.ref h])).length) Slot.unset).toArray = ls at hl ⊢
  have hl : lv_has ls 1 [(0, .ref h)] := hl
  refine lv_aload_n hx hb dX1_consumed_0 rfl (lv_at hl 0 rfl) ?_
  refine lv_iconst (v := 0) hx hb dX1_consumed_1 (by decide) ?_
  refine va_put (D := (dC, dI)) (ci := 1) (v := .int 0) (ty := .int) (C := RX1) (T := TX1) (N := 17) hx hb hts hin0 tyX1 tyX1_ok nmX1 hown hK hP hD hS 0 rfl rfl 0 (by decide) fl21 (fun _ h9 => h9) rfl (by decide +kernel) rfl rfl (Nat.le_of_ble_eq_true rfl) dX1_consumed_2 (fun H locs hP hD hS => ?_)
  have hP : va_P (dC, dI) vwCl (w1 h a b cI cJ f g 0 zs zc zso znu zty zhd zpa zch zlk zlo zhi zlp zll zlv) H := hP
  have hD : va_D A (w1 h a b cI cJ f g 0 zs zc zso znu zty zhd zpa zch zlk zlo zhi zlp zll zlv) := hD
  refine lv_aload_n hx hb dX1_consumed_5 rfl (lv_at hl 0 rfl) ?_
  refine va_get (D := (dC, dI)) (ci := 1) (v := .int zc) (C := RX1) (T := TX1) (N := 17) hx hb hts hin0 hown hK hP 0 rfl rfl 3 (by decide) fl37 (fun _ h9 => h9) rfl dX1_consumed_6 ?_
  have hP9 : va_P (dC, dI) vwCl ((fun (_ : Unit) => w1 h a b cI cJ f g 0 zs zc zso znu zty zhd zpa zch zlk zlo zhi zlp zll zlv) (())) H := hP
  have hD9 : va_D A ((fun (_ : Unit) => w1 h a b cI cJ f g 0 zs zc zso znu zty zhd zpa zch zlk zlo zhi zlp zll zlv) (())) := hD
  exact W.iret (v := zc) hx hb hr (fun t ht hW => ⟨⟨zc, (), rfl, rfl, by rw [ht]; exact hP9, va_K.moved hW.alike hK, hD9⟩, hS.F ht⟩) hS.2.2 dX1_consumed_9
def fT (t s k : Int32) : Int32 := if t = 0 then (if s = 0 then t else k) else t
set_option maxHeartbeats 4000000 in
set_option maxRecDepth 100000 in
theorem c_X1_fails (l : Launch) (dC : Nat → ClassId) (dI : Nat → Nat → Nat) (tk tw : Nat) (h a b : Nat) (cI cJ : ClassId) (sz : Nat) (f : Nat → Int32) (g : Nat → Int64) (zt : Int32) (zs : Int32) (zc : Int32) (zso : Int32) (znu : Int64) (zty : Int32) (zhd : Int32) (zpa : Int64) (zch : Int64) (zlk : Int32) (zlo : Int32) (zhi : Int32) (zlp : Int32) (zll : Int32) (zlv : Int32) (s9 k9 : Int32) : Met l yX1_fails wsX1_fails ({ frames := 0, cells := 0, slots := 0, locals := 0 }) (va_Pc [.ref h, .int s9, .int k9] (pr dC dI (t1 cI cJ) (w1 h a b cI cJ f g zt zs zc zso znu zty zhd zpa zch zlk zlo zhi zlp zll zlv) sz tk tw)) (va_Qi (fun (r : Int32) (u : Int32) => u = fT zt s9 k9 ∧ r = (if fT zt s9 k9 ≤ 0 then 0 else 1)) (fun (u : Int32) => po dC dI (t1 cI cJ) (va_A (w1 h a b cI cJ f g zt zs zc zso znu zty zhd zpa zch zlk zlo zhi zlp zll zlv) sz) (w1 h a b cI cJ f g u zs zc zso znu zty zhd zpa zch zlk zlo zhi zlp zll zlv)) (va_A (w1 h a b cI cJ f g zt zs zc zso znu zty zhd zpa zch zlk zlo zhi zlp zll zlv) sz)) 0 0 (va_A (w1 h a b cI cJ f g zt zs zc zso znu zty zhd zpa zch zlk zlo zhi zlp zll zlv) sz) := by
  refine Met.ofW (cc := cX1_fails) (maxL := 3) (ret := (some .boolean)) (by decide) rfl ?_
  intro p e s m args below meth c s₁ Bd hml hv
  obtain ⟨rfl, hsz, hP, hK, hD0, hZ⟩ := hv
  have hx := Bd.exec
  have hb := Bd.bytes
  have hr := Bd.returns
  have hts := atoms_spec (ws := wsX1_fails) Bd.pre
  have hown : s.vm.findClass RX1 = some m.cls := findClass_of_methodNamed Bd.named
  have hlocks := Bd.notSynchronized
  subst hsz
  have hD := hD0.self (sz := s.heap.size)
  generalize hAe : va_A (w1 h a b cI cJ f g zt zs zc zso znu zty zhd zpa zch zlk zlo zhi zlp zll zlv) s.heap.size = A at hD hZ ⊢
  have hA : ∀ q : Nat, s.heap.size ≤ q → A q := fun q h => by rw [← hAe]; exact Or.inr h
  have hS : va_S A s.heap s.heap [] := va_S.rf
  have hP : va_P (dC, dI) vwCl (w1 h a b cI cJ f g zt zs zc zso znu zty zhd zpa zch zlk zlo zhi zlp zll zlv) s.heap := hP
  have hin0 : ∀ w ∈ wsX10, w ∈ wsX1_fails := by decide +kernel
  have fl21 := hts (.fieldLink RX1 21 "MessageReaderModel" "thrown" "I") (by decide +kernel)
  have hl := lv_entry ([.ref h, .int s9, .int k9]) (n := 3) (Nat.le_of_ble_eq_true rfl)
  rw [lg_entry_eq]
  generalize (lg_sl ([.ref h, .int s9, .int k9]) ++ List.replicate (3 - (lg_sl ([.ref h, .int s9, .int k9])).length) Slot.unset).toArray = ls at hl ⊢
  have hl : lv_has ls 3 [(0, .ref h), (1, .int s9), (2, .int k9)] := hl
  refine lv_aload_n hx hb dX1_fails_0 rfl (lv_at hl 0 rfl) ?_
  refine va_get (D := (dC, dI)) (ci := 1) (v := .int zt) (C := RX1) (T := TX1) (N := 17) hx hb hts hin0 hown hK hP 0 rfl rfl 0 (by decide) fl21 (fun _ h9 => h9) rfl dX1_fails_1 ?_
  refine lv_if_ne (tgt := 16) hx hb dX1_fails_4 (by decide) (fun c_1 => ?_) (fun c_1 => ?_)
  · skip
    refine lv_aload_n hx hb dX1_fails_16 rfl (lv_at hl 0 rfl) ?_
    refine va_get (D := (dC, dI)) (ci := 1) (v := .int zt) (C := RX1) (T := TX1) (N := 17) hx hb hts hin0 hown hK hP 0 rfl rfl 0 (by decide) fl21 (fun _ h9 => h9) rfl dX1_fails_17 ?_
    refine lv_if_le (tgt := 27) hx hb dX1_fails_20 (by decide) (fun c_2 => ?_) (fun c_2 => ?_)
    · skip
      refine lv_iconst (v := 0) hx hb dX1_fails_27 (by decide) ?_
      have hP9 : va_P (dC, dI) vwCl ((fun (u : Int32) => w1 h a b cI cJ f g u zs zc zso znu zty zhd zpa zch zlk zlo zhi zlp zll zlv) (zt)) s.heap := hP
      have hD9 : va_D A ((fun (u : Int32) => w1 h a b cI cJ f g u zs zc zso znu zty zhd zpa zch zlk zlo zhi zlp zll zlv) (zt)) := hD
      exact W.zret (v := 0) hx hb hr (by first | rfl | decide) (fun t ht hW => ⟨⟨0, zt, rfl, (by have z9 : fT zt s9 k9 = zt := (by unfold fT; rw [if_neg c_1]); exact ⟨z9.symm, by rw [z9, if_pos c_2]⟩), by rw [ht]; exact hP9, va_K.moved hW.alike hK, hD9⟩, hS.F ht⟩) hS.2.2 dX1_fails_28
    · skip
      refine lv_iconst (v := 1) hx hb dX1_fails_23 (by decide) ?_
      refine lv_goto (tgt := 28) hx hb dX1_fails_24 (by decide) ?_
      have hP9 : va_P (dC, dI) vwCl ((fun (u : Int32) => w1 h a b cI cJ f g u zs zc zso znu zty zhd zpa zch zlk zlo zhi zlp zll zlv) (zt)) s.heap := hP
      have hD9 : va_D A ((fun (u : Int32) => w1 h a b cI cJ f g u zs zc zso znu zty zhd zpa zch zlk zlo zhi zlp zll zlv) (zt)) := hD
      exact W.zret (v := 1) hx hb hr (by first | rfl | decide) (fun t ht hW => ⟨⟨1, zt, rfl, (by have z9 : fT zt s9 k9 = zt := (by unfold fT; rw [if_neg c_1]); exact ⟨z9.symm, by rw [z9, if_neg c_2]⟩), by rw [ht]; exact hP9, va_K.moved hW.alike hK, hD9⟩, hS.F ht⟩) hS.2.2 dX1_fails_28
  · skip
    refine lv_iload_n hx hb dX1_fails_7 rfl (lv_at hl 1 rfl) ?_
    refine lv_if_eq (tgt := 16) hx hb dX1_fails_8 (by decide) (fun c_3 => ?_) (fun c_3 => ?_)
    · skip
      refine lv_aload_n hx hb dX1_fails_16 rfl (lv_at hl 0 rfl) ?_
      refine va_get (D := (dC, dI)) (ci := 1) (v := .int zt) (C := RX1) (T := TX1) (N := 17) hx hb hts hin0 hown hK hP 0 rfl rfl 0 (by decide) fl21 (fun _ h9 => h9) rfl dX1_fails_17 ?_
      refine lv_if_le (tgt := 27) hx hb dX1_fails_20 (by decide) (fun c_4 => ?_) (fun c_4 => ?_)
      · skip
        refine lv_iconst (v := 0) hx hb dX1_fails_27 (by decide) ?_
        have hP9 : va_P (dC, dI) vwCl ((fun (u : Int32) => w1 h a b cI cJ f g u zs zc zso znu zty zhd zpa zch zlk zlo zhi zlp zll zlv) (zt)) s.heap := hP
        have hD9 : va_D A ((fun (u : Int32) => w1 h a b cI cJ f g u zs zc zso znu zty zhd zpa zch zlk zlo zhi zlp zll zlv) (zt)) := hD
        exact W.zret (v := 0) hx hb hr (by first | rfl | decide) (fun t ht hW => ⟨⟨0, zt, rfl, (by have z9 : fT zt s9 k9 = zt := (by unfold fT; rw [if_pos c_1, if_pos c_3]); exact ⟨z9.symm, by rw [z9, if_pos c_4]⟩), by rw [ht]; exact hP9, va_K.moved hW.alike hK, hD9⟩, hS.F ht⟩) hS.2.2 dX1_fails_28
      · skip
        refine lv_iconst (v := 1) hx hb dX1_fails_23 (by decide) ?_
        refine lv_goto (tgt := 28) hx hb dX1_fails_24 (by decide) ?_
        have hP9 : va_P (dC, dI) vwCl ((fun (u : Int32) => w1 h a b cI cJ f g u zs zc zso znu zty zhd zpa zch zlk zlo zhi zlp zll zlv) (zt)) s.heap := hP
        have hD9 : va_D A ((fun (u : Int32) => w1 h a b cI cJ f g u zs zc zso znu zty zhd zpa zch zlk zlo zhi zlp zll zlv) (zt)) := hD
        exact W.zret (v := 1) hx hb hr (by first | rfl | decide) (fun t ht hW => ⟨⟨1, zt, rfl, (by have z9 : fT zt s9 k9 = zt := (by unfold fT; rw [if_pos c_1, if_pos c_3]); exact ⟨z9.symm, by rw [z9, if_neg c_4]⟩), by rw [ht]; exact hP9, va_K.moved hW.alike hK, hD9⟩, hS.F ht⟩) hS.2.2 dX1_fails_28
    · skip
      refine lv_aload_n hx hb dX1_fails_11 rfl (lv_at hl 0 rfl) ?_
      refine lv_iload_n hx hb dX1_fails_12 rfl (lv_at hl 2 rfl) ?_
      refine va_put (D := (dC, dI)) (ci := 1) (v := .int k9) (ty := .int) (C := RX1) (T := TX1) (N := 17) hx hb hts hin0 tyX1 tyX1_ok nmX1 hown hK hP hD hS 0 rfl rfl 0 (by decide) fl21 (fun _ h9 => h9) rfl (by decide +kernel) rfl rfl (Nat.le_of_ble_eq_true rfl) dX1_fails_13 (fun H locs hP hD hS => ?_)
      have hP : va_P (dC, dI) vwCl (w1 h a b cI cJ f g k9 zs zc zso znu zty zhd zpa zch zlk zlo zhi zlp zll zlv) H := hP
      have hD : va_D A (w1 h a b cI cJ f g k9 zs zc zso znu zty zhd zpa zch zlk zlo zhi zlp zll zlv) := hD
      refine lv_aload_n hx hb dX1_fails_16 rfl (lv_at hl 0 rfl) ?_
      refine va_get (D := (dC, dI)) (ci := 1) (v := .int k9) (C := RX1) (T := TX1) (N := 17) hx hb hts hin0 hown hK hP 0 rfl rfl 0 (by decide) fl21 (fun _ h9 => h9) rfl dX1_fails_17 ?_
      refine lv_if_le (tgt := 27) hx hb dX1_fails_20 (by decide) (fun c_5 => ?_) (fun c_5 => ?_)
      · skip
        refine lv_iconst (v := 0) hx hb dX1_fails_27 (by decide) ?_
        have hP9 : va_P (dC, dI) vwCl ((fun (u : Int32) => w1 h a b cI cJ f g u zs zc zso znu zty zhd zpa zch zlk zlo zhi zlp zll zlv) (k9)) H := hP
        have hD9 : va_D A ((fun (u : Int32) => w1 h a b cI cJ f g u zs zc zso znu zty zhd zpa zch zlk zlo zhi zlp zll zlv) (k9)) := hD
        exact W.zret (v := 0) hx hb hr (by first | rfl | decide) (fun t ht hW => ⟨⟨0, k9, rfl, (by have z9 : fT zt s9 k9 = k9 := (by unfold fT; rw [if_pos c_1, if_neg c_3]); exact ⟨z9.symm, by rw [z9, if_pos c_5]⟩), by rw [ht]; exact hP9, va_K.moved hW.alike hK, hD9⟩, hS.F ht⟩) hS.2.2 dX1_fails_28
      · skip
        refine lv_iconst (v := 1) hx hb dX1_fails_23 (by decide) ?_
        refine lv_goto (tgt := 28) hx hb dX1_fails_24 (by decide) ?_
        have hP9 : va_P (dC, dI) vwCl ((fun (u : Int32) => w1 h a b cI cJ f g u zs zc zso znu zty zhd zpa zch zlk zlo zhi zlp zll zlv) (k9)) H := hP
        have hD9 : va_D A ((fun (u : Int32) => w1 h a b cI cJ f g u zs zc zso znu zty zhd zpa zch zlk zlo zhi zlp zll zlv) (k9)) := hD
        exact W.zret (v := 1) hx hb hr (by first | rfl | decide) (fun t ht hW => ⟨⟨1, k9, rfl, (by have z9 : fT zt s9 k9 = k9 := (by unfold fT; rw [if_pos c_1, if_neg c_3]); exact ⟨z9.symm, by rw [z9, if_neg c_5]⟩), by rw [ht]; exact hP9, va_K.moved hW.alike hK, hD9⟩, hS.F ht⟩) hS.2.2 dX1_fails_28
def bm (x : Int64) (i : Nat) : Int32 := ((x >>> ((8 * nI i).toInt64 &&& 63)) &&& 255).toInt32
def apM (f : Nat → Int32) (n : Nat) (x : Int64) : Nat → Nat → Int32
  | 0 => f
  | i + 1 => apM (upd f n (bm x i)) (n + 1) x i
set_option maxHeartbeats 4000000 in
set_option maxRecDepth 100000 in
theorem c_X1_write (l : Launch) (dC : Nat → ClassId) (dI : Nat → Nat → Nat) (tk tw : Nat) (h a b : Nat) (cI cJ : ClassId) (sz : Nat) (f : Nat → Int32) (g : Nat → Int64) (zt : Int32) (zc : Int32) (zso : Int32) (znu : Int64) (zty : Int32) (zhd : Int32) (zpa : Int64) (zch : Int64) (zlk : Int32) (zlo : Int32) (zhi : Int32) (zlp : Int32) (zll : Int32) (zlv : Int32) (n9 k9 : Nat) (x9 : Int64) (h9 : n9 + k9 ≤ 4096) : Met l yX1_write wsX1_write ({ frames := 0, cells := 0, slots := 0, locals := 0 }) (va_Pc [.ref h, .long x9, .int (nI k9)] (pr dC dI (t1 cI cJ) (w1 h a b cI cJ f g zt (nI n9) zc zso znu zty zhd zpa zch zlk zlo zhi zlp zll zlv) sz tk tw)) (va_Qv (fun (_ : Unit) => True) (fun (_ : Unit) => po dC dI (t1 cI cJ) (va_A (w1 h a b cI cJ f g zt (nI n9) zc zso znu zty zhd zpa zch zlk zlo zhi zlp zll zlv) sz) (w1 h a b cI cJ (apM f n9 x9 k9) g zt (nI (n9 + k9)) zc zso znu zty zhd zpa zch zlk zlo zhi zlp zll zlv)) (va_A (w1 h a b cI cJ f g zt (nI n9) zc zso znu zty zhd zpa zch zlk zlo zhi zlp zll zlv) sz)) 0 0 (va_A (w1 h a b cI cJ f g zt (nI n9) zc zso znu zty zhd zpa zch zlk zlo zhi zlp zll zlv) sz) := by
  refine Met.ofW (cc := cX1_write) (maxL := 5) (ret := none) (by decide) rfl ?_
  intro p e s m args below meth c s₁ Bd hml hv
  obtain ⟨rfl, hsz, hP, hK, hD0, hZ⟩ := hv
  have hx := Bd.exec
  have hb := Bd.bytes
  have hr := Bd.returns
  have hts := atoms_spec (ws := wsX1_write) Bd.pre
  have hown : s.vm.findClass RX1 = some m.cls := findClass_of_methodNamed Bd.named
  have hlocks := Bd.notSynchronized
  subst hsz
  have hD := hD0.self (sz := s.heap.size)
  generalize hAe : va_A (w1 h a b cI cJ f g zt (nI n9) zc zso znu zty zhd zpa zch zlk zlo zhi zlp zll zlv) s.heap.size = A at hD hZ ⊢
  have hA : ∀ q : Nat, s.heap.size ≤ q → A q := fun q h => by rw [← hAe]; exact Or.inr h
  have hS : va_S A s.heap s.heap [] := va_S.rf
  have hP : va_P (dC, dI) vwCl (w1 h a b cI cJ f g zt (nI n9) zc zso znu zty zhd zpa zch zlk zlo zhi zlp zll zlv) s.heap := hP
  have hin0 : ∀ w ∈ wsX10, w ∈ wsX1_write := by decide +kernel
  have fl7 := hts (.fieldLink RX1 7 "MessageReaderModel" "bytes" "[I") (by decide +kernel)
  have fl28 := hts (.fieldLink RX1 28 "MessageReaderModel" "size" "I") (by decide +kernel)
  have hl := lv_entry ([.ref h, .long x9, .int (nI k9)]) (n := 5) (Nat.le_of_ble_eq_true rfl)
  rw [lg_entry_eq]
  generalize (lg_sl ([.ref h, .long x9, .int (nI k9)]) ++ List.replicate (5 - (lg_sl ([.ref h, .long x9, .int (nI k9)])).length) Slot.unset).toArray = ls at hl ⊢
  have hl : lv_has ls 5 [(0, .ref h), (1, .long x9), (3, .int (nI k9))] := hl
  refine lv_iload_n hx hb dX1_write_0 rfl (lv_at hl 2 rfl) ?_
  refine lv_iconst (v := 1) hx hb dX1_write_1 (by decide) ?_
  refine lv_isub hx hb dX1_write_2 ?_
  refine lv_istore (lv' := [(4, .int ((nI k9) - 1)), (0, .ref h), (1, .long x9), (3, .int (nI k9))]) hx hb dX1_write_3 hl (by decide) rfl (fun ls hl => ?_)
  have loop5 : ∀ (fz : Nat) (q m1 : Nat) (f1 : Nat → Int32), q < fz → m1 + q = n9 + k9 → apM f1 m1 x9 q = apM f n9 x9 k9 → ∀ (H : Heap) (locs : List Loc), va_P (dC, dI) vwCl (w1 h a b cI cJ f1 g zt (nI m1) zc zso znu zty zhd zpa zch zlk zlo zhi zlp zll zlv) H → va_D A (w1 h a b cI cJ f1 g zt (nI m1) zc zso znu zty zhd zpa zch zlk zlo zhi zlp zll zlv) → va_S A s.heap H locs → ∀ ls : Array Slot, lv_has ls 5 [(0, .ref h), (1, .long x9), (3, .int (nI k9)), (4, .int (nI q - 1))] → W p l e (headSpec wsX1_write ({ frames := 0, cells := 0, slots := 0, locals := 0 })).room s m ([.ref h, .long x9, .int (nI k9)]).toArray below meth c H locs 0 0 (MQ below (va_Qv (fun (_ : Unit) => True) (fun (_ : Unit) => po dC dI (t1 cI cJ) A (w1 h a b cI cJ (apM f n9 x9 k9) g zt (nI (n9 + k9)) zc zso znu zty zhd zpa zch zlk zlo zhi zlp zll zlv)) A) ([.ref h, .long x9, .int (nI k9)]).toArray s 0 0 A) (F0 m 5 ls []) := by
    intro fz
    induction fz with
    | zero =>
      intro q m1 f1 hq hm hf H locs hP hD hS ls hl
      exact absurd hq (Nat.not_lt_zero _)
    | succ fz ih =>
      intro q m1 f1 hq hm hf H locs hP hD hS ls hl
      refine lv_iload hx hb dX1_write_5 (lv_at hl 3 rfl) ?_
      refine lv_if_lt (tgt := 47) hx hb dX1_write_7 (by decide) (fun c_1 => ?_) (fun c_1 => ?_)
      · skip
        have hq0 : q = 0 := Nat.eq_zero_of_not_pos (fun z => by obtain ⟨d, hc⟩ : ∃ d, q = d + 1 := ⟨q - 1, by omega⟩; rw [hc, nI_pred] at c_1; exact nI_pos (by omega) c_1)
        subst hq0
        have e1 : f1 = apM f n9 x9 k9 := hf
        have e2 : m1 = n9 + k9 := by omega
        have hP9 : va_P (dC, dI) vwCl ((fun (_ : Unit) => w1 h a b cI cJ (apM f n9 x9 k9) g zt (nI (n9 + k9)) zc zso znu zty zhd zpa zch zlk zlo zhi zlp zll zlv) (())) H := by rw [← e1, ← e2]; exact hP
        have hD9 : va_D A ((fun (_ : Unit) => w1 h a b cI cJ (apM f n9 x9 k9) g zt (nI (n9 + k9)) zc zso znu zty zhd zpa zch zlk zlo zhi zlp zll zlv) (())) := by rw [← e1, ← e2]; exact hD
        exact W.vret hx hb hr (fun t ht hW => ⟨⟨(), rfl, trivial, by rw [ht]; exact hP9, va_K.moved hW.alike hK, hD9⟩, hS.F ht⟩) hS.2.2 dX1_write_47
      · skip
        obtain ⟨d, hc⟩ : ∃ d, q = d + 1 := ⟨q - 1, by have z : 0 < q := Nat.pos_of_ne_zero (fun z => c_1 (by rw [z]; decide)); omega⟩
        have hcd : nI q - 1 = nI d := by rw [hc]; exact nI_pred d
        refine lv_aload_n hx hb dX1_write_10 rfl (lv_at hl 0 rfl) ?_
        refine va_get (D := (dC, dI)) (ci := 1) (v := .ref a) (C := RX1) (T := TX1) (N := 17) hx hb hts hin0 hown hK hP 0 rfl rfl 1 (by decide) fl7 (fun _ h9 => h9) rfl dX1_write_11 ?_
        refine lv_aload_n hx hb dX1_write_14 rfl (lv_at hl 0 rfl) ?_
        refine va_get (D := (dC, dI)) (ci := 1) (v := .int (nI m1)) (C := RX1) (T := TX1) (N := 17) hx hb hts hin0 hown hK hP 0 rfl rfl 2 (by decide) fl28 (fun _ h9 => h9) rfl dX1_write_15 ?_
        refine lv_lload_n hx hb dX1_write_18 rfl (lv_at hl 1 rfl) ?_
        refine lv_bipush (v := 8) hx hb dX1_write_19 (by decide) ?_
        refine lv_iload hx hb dX1_write_21 (lv_at hl 3 rfl) ?_
        refine lv_imul hx hb dX1_write_23 ?_
        have e_2 : (8 * (nI q - 1) : Int32) = 8 * nI d := by rw [hcd]
        rw [e_2]
        refine lv_lshr hx hb dX1_write_24 rfl ?_
        refine lv_ldc2 (v := 255) hx hb hown (hts (.constantLong RX1 31 (255)) (by decide +kernel)) dX1_write_25 ?_
        refine lv_land hx hb dX1_write_28 ?_
        refine lv_l2i hx hb dX1_write_29 rfl ?_
        refine va_iast hx hb hK hP hD hS 1 0 rfl rfl (vp_in_nI (by omega) (by decide)) dX1_write_30 (fun H locs hP hD hS => ?_)
        have hP : va_P (dC, dI) vwCl (w1 h a b cI cJ (upd f1 (nI m1).toNatClampNeg (((x9 >>> ((8 * nI d).toInt64 &&& 63)) &&& 255).toInt32)) g zt (nI m1) zc zso znu zty zhd zpa zch zlk zlo zhi zlp zll zlv) H := hP
        have hD : va_D A (w1 h a b cI cJ (upd f1 (nI m1).toNatClampNeg (((x9 >>> ((8 * nI d).toInt64 &&& 63)) &&& 255).toInt32)) g zt (nI m1) zc zso znu zty zhd zpa zch zlk zlo zhi zlp zll zlv) := hD
        refine lv_aload_n hx hb dX1_write_31 rfl (lv_at hl 0 rfl) ?_
        refine lv_dup hx hb dX1_write_32 rfl ?_
        refine va_get (D := (dC, dI)) (ci := 1) (v := .int (nI m1)) (C := RX1) (T := TX1) (N := 17) hx hb hts hin0 hown hK hP 0 rfl rfl 2 (by decide) fl28 (fun _ h9 => h9) rfl dX1_write_33 ?_
        refine lv_iconst (v := 1) hx hb dX1_write_36 (by decide) ?_
        refine lv_iadd hx hb dX1_write_37 ?_
        have e_3 : ((nI m1) + 1 : Int32) = nI (m1 + 1) := nI_1 m1
        rw [e_3]
        refine va_put (D := (dC, dI)) (ci := 1) (v := .int (nI (m1 + 1))) (ty := .int) (C := RX1) (T := TX1) (N := 17) hx hb hts hin0 tyX1 tyX1_ok nmX1 hown hK hP hD hS 0 rfl rfl 2 (by decide) fl28 (fun _ h9 => h9) rfl (by decide +kernel) rfl rfl (Nat.le_of_ble_eq_true rfl) dX1_write_38 (fun H locs hP hD hS => ?_)
        have hP : va_P (dC, dI) vwCl (w1 h a b cI cJ (upd f1 (nI m1).toNatClampNeg (((x9 >>> ((8 * nI d).toInt64 &&& 63)) &&& 255).toInt32)) g zt (nI (m1 + 1)) zc zso znu zty zhd zpa zch zlk zlo zhi zlp zll zlv) H := hP
        have hD : va_D A (w1 h a b cI cJ (upd f1 (nI m1).toNatClampNeg (((x9 >>> ((8 * nI d).toInt64 &&& 63)) &&& 255).toInt32)) g zt (nI (m1 + 1)) zc zso znu zty zhd zpa zch zlk zlo zhi zlp zll zlv) := hD
        refine lv_iinc (v := nI d - 1) (lv' := [(4, .int (nI d - 1)), (0, .ref h), (1, .long x9), (3, .int (nI k9))]) hx hb dX1_write_41 hl (k := 3) rfl (by rw [hcd, Int32.sub_eq_add_neg]; rfl) (by decide) rfl (fun ls hl => ?_)
        refine lv_goto (tgt := 5) hx hb dX1_write_44 (by decide) ?_
        exact ih d (m1 + 1) _ (by omega) (by omega) (by rw [nI_clamp (by omega)]; rw [hc] at hf; exact hf) _ _ hP hD hS ls (lv_sub hl [1, 2, 3, 0] rfl)
  exact loop5 (k9 + 1) k9 n9 f (by omega) rfl rfl _ _ hP hD hS ls (lv_sub hl [1, 2, 3, 0] rfl)
