def us (x : Int64) : Int32 := if (x.toUInt64 >>> ((8 : Int32).toInt64.toUInt64 &&& Int64.toUInt64 63)).toInt64 = (0 : Int64) then 0 else if (x.toUInt64 >>> ((16 : Int32).toInt64.toUInt64 &&& Int64.toUInt64 63)).toInt64 = (0 : Int64) then 1 else if (x.toUInt64 >>> ((32 : Int32).toInt64.toUInt64 &&& Int64.toUInt64 63)).toInt64 = (0 : Int64) then 2 else 3
def ss (x : Int64) : Int32 := if x = x.toInt32.toInt8.toInt32.toInt64 then 0 else if x = x.toInt32.toInt16.toInt32.toInt64 then 1 else if x = x.toInt32.toInt64 then 2 else 3
def cs (x : Int64) : Int32 := if (x.toUInt64 >>> ((16 : Int32).toInt64.toUInt64 &&& Int64.toUInt64 63)).toInt64 = (0 : Int64) then 0 else 1
def nO (k lo hi : Int32) : Int64 := if k ≤ 5 then (hi.toInt64 <<< ((32 : Int32).toInt64 &&& 63)) ||| (lo.toInt64 &&& 4294967295) else if k = 7 then (hi.toInt64 <<< ((32 : Int32).toInt64 &&& 63)) ||| (lo.toInt64 &&& 4294967295) else lo.toInt64 &&& 4294967295
def eF (x : Int64) : Nat → Nat → Int32
  | 0, _ => 199 + us x
  | m + 1, i => if x = (1 : Int64) <<< ((nI i).toInt64 &&& 63) then 212 + nI i else eF x m (i + 1)
def sF (k : Int32) (x : Int64) : Int32 := if k = 1 then 192 else if k = 2 then 194 else if k = 3 then 195 else
  if k = 4 then (if x < 0 then 204 + us x else if 128 ≤ x then 204 + us x else x.toInt32) else
  if k = 5 then (if x < -32 then 208 + ss x else if 0 ≤ x then 208 + ss x else 256 + x.toInt32) else
  if k = 6 then 202 else if k = 7 then 203 else
  if k = 8 then (if 32 ≤ x then 217 + us x else 160 + x.toInt32) else
  if k = 9 then 196 + us x else
  if k = 10 then (if 16 ≤ x then 220 + cs x else 144 + x.toInt32) else
  if k = 11 then (if 16 ≤ x then 222 + cs x else 128 + x.toInt32) else eF x 5 0
set_option maxHeartbeats 4000000 in
set_option maxRecDepth 100000 in
theorem c_X0_unsignedStep (l : Launch) (dC : Nat → ClassId) (dI : Nat → Nat → Nat) (tk tw : Nat) (sz : Nat) (x9 : Int64) : Met l yX0_unsignedStep wsX0_unsignedStep ({ frames := 0, cells := 0, slots := 0, locals := 0 }) (va_Pc [.long x9] (p0 sz tk tw)) (va_Qi (fun (r : Int32) (_ : Unit) => r = us x9) (fun _ _ => True) (va_A [] sz)) 0 0 (va_A [] sz) := by
  refine Met.ofW (cc := cX0_unsignedStep) (maxL := 2) (ret := (some .int)) (by decide) rfl ?_
  intro p e s m args below meth c s₁ Bd hml hv
  obtain ⟨rfl, hsz, hZ⟩ := hv
  have hx := Bd.exec
  have hb := Bd.bytes
  have hr := Bd.returns
  have hts := atoms_spec (ws := wsX0_unsignedStep) Bd.pre
  have hown : s.vm.findClass RX0 = some m.cls := findClass_of_methodNamed Bd.named
  have hlocks := Bd.notSynchronized
  subst hsz
  generalize hAe : va_A [] s.heap.size = A at hZ ⊢
  have hA : ∀ q : Nat, s.heap.size ≤ q → A q := fun q h => by rw [← hAe]; exact Or.inr h
  have hS : va_S A s.heap s.heap [] := va_S.rf
  have hP : va_P (dC, dI) vwCl [] s.heap := fun k q h => by simp at h
  have hl := lv_entry ([.long x9]) (n := 2) (Nat.le_of_ble_eq_true rfl)
  rw [lg_entry_eq]
  generalize (lg_sl ([.long x9]) ++ List.replicate (2 - (lg_sl ([.long x9])).length) Slot.unset).toArray = ls at hl ⊢
  have hl : lv_has ls 2 [(0, .long x9)] := hl
  refine lv_lload_n hx hb dX0_unsignedStep_0 rfl (lv_at hl 0 rfl) ?_
  refine lv_bipush (v := 8) hx hb dX0_unsignedStep_1 (by decide) ?_
  refine lv_lushr hx hb dX0_unsignedStep_3 rfl ?_
  refine lv_lconst (v := 0) hx hb dX0_unsignedStep_4 (by decide) ?_
  refine W.lcmp hx hb dX0_unsignedStep_5 ?_
  refine lv_if_ne (tgt := 11) hx hb dX0_unsignedStep_6 (by decide) (fun c_1 => ?_) (fun c_1 => ?_)
  · skip
    have c_1 := (not_congr (lg_cmp_eq ((x9.toUInt64 >>> ((8 : Int32).toInt64.toUInt64 &&& Int64.toUInt64 63)).toInt64) (0 : Int64))).mp c_1
    refine lv_lload_n hx hb dX0_unsignedStep_11 rfl (lv_at hl 0 rfl) ?_
    refine lv_bipush (v := 16) hx hb dX0_unsignedStep_12 (by decide) ?_
    refine lv_lushr hx hb dX0_unsignedStep_14 rfl ?_
    refine lv_lconst (v := 0) hx hb dX0_unsignedStep_15 (by decide) ?_
    refine W.lcmp hx hb dX0_unsignedStep_16 ?_
    refine lv_if_ne (tgt := 22) hx hb dX0_unsignedStep_17 (by decide) (fun c_2 => ?_) (fun c_2 => ?_)
    · skip
      have c_2 := (not_congr (lg_cmp_eq ((x9.toUInt64 >>> ((16 : Int32).toInt64.toUInt64 &&& Int64.toUInt64 63)).toInt64) (0 : Int64))).mp c_2
      refine lv_lload_n hx hb dX0_unsignedStep_22 rfl (lv_at hl 0 rfl) ?_
      refine lv_bipush (v := 32) hx hb dX0_unsignedStep_23 (by decide) ?_
      refine lv_lushr hx hb dX0_unsignedStep_25 rfl ?_
      refine lv_lconst (v := 0) hx hb dX0_unsignedStep_26 (by decide) ?_
      refine W.lcmp hx hb dX0_unsignedStep_27 ?_
      refine lv_if_ne (tgt := 35) hx hb dX0_unsignedStep_28 (by decide) (fun c_3 => ?_) (fun c_3 => ?_)
      · skip
        have c_3 := (not_congr (lg_cmp_eq ((x9.toUInt64 >>> ((32 : Int32).toInt64.toUInt64 &&& Int64.toUInt64 63)).toInt64) (0 : Int64))).mp c_3
        refine lv_iconst (v := 3) hx hb dX0_unsignedStep_35 (by decide) ?_
        exact W.iret (v := 3) hx hb hr (fun t ht hW => ⟨⟨3, (), rfl, (by unfold us; rw [if_neg c_1, if_neg c_2, if_neg c_3]), trivial⟩, hS.F ht⟩) hS.2.2 dX0_unsignedStep_36
      · skip
        have c_3 := (lg_cmp_eq ((x9.toUInt64 >>> ((32 : Int32).toInt64.toUInt64 &&& Int64.toUInt64 63)).toInt64) (0 : Int64)).mp c_3
        refine lv_iconst (v := 2) hx hb dX0_unsignedStep_31 (by decide) ?_
        refine lv_goto (tgt := 36) hx hb dX0_unsignedStep_32 (by decide) ?_
        exact W.iret (v := 2) hx hb hr (fun t ht hW => ⟨⟨2, (), rfl, (by unfold us; rw [if_neg c_1, if_neg c_2, if_pos c_3]), trivial⟩, hS.F ht⟩) hS.2.2 dX0_unsignedStep_36
    · skip
      have c_2 := (lg_cmp_eq ((x9.toUInt64 >>> ((16 : Int32).toInt64.toUInt64 &&& Int64.toUInt64 63)).toInt64) (0 : Int64)).mp c_2
      refine lv_iconst (v := 1) hx hb dX0_unsignedStep_20 (by decide) ?_
      exact W.iret (v := 1) hx hb hr (fun t ht hW => ⟨⟨1, (), rfl, (by unfold us; rw [if_neg c_1, if_pos c_2]), trivial⟩, hS.F ht⟩) hS.2.2 dX0_unsignedStep_21
  · skip
    have c_1 := (lg_cmp_eq ((x9.toUInt64 >>> ((8 : Int32).toInt64.toUInt64 &&& Int64.toUInt64 63)).toInt64) (0 : Int64)).mp c_1
    refine lv_iconst (v := 0) hx hb dX0_unsignedStep_9 (by decide) ?_
    exact W.iret (v := 0) hx hb hr (fun t ht hW => ⟨⟨0, (), rfl, (by unfold us; rw [if_pos c_1]), trivial⟩, hS.F ht⟩) hS.2.2 dX0_unsignedStep_10
set_option maxHeartbeats 4000000 in
set_option maxRecDepth 100000 in
theorem c_X0_signedStep (l : Launch) (dC : Nat → ClassId) (dI : Nat → Nat → Nat) (tk tw : Nat) (sz : Nat) (x9 : Int64) : Met l yX0_signedStep wsX0_signedStep ({ frames := 0, cells := 0, slots := 0, locals := 0 }) (va_Pc [.long x9] (p0 sz tk tw)) (va_Qi (fun (r : Int32) (_ : Unit) => r = ss x9) (fun _ _ => True) (va_A [] sz)) 0 0 (va_A [] sz) := by
  refine Met.ofW (cc := cX0_signedStep) (maxL := 2) (ret := (some .int)) (by decide) rfl ?_
  intro p e s m args below meth c s₁ Bd hml hv
  obtain ⟨rfl, hsz, hZ⟩ := hv
  have hx := Bd.exec
  have hb := Bd.bytes
  have hr := Bd.returns
  have hts := atoms_spec (ws := wsX0_signedStep) Bd.pre
  have hown : s.vm.findClass RX0 = some m.cls := findClass_of_methodNamed Bd.named
  have hlocks := Bd.notSynchronized
  subst hsz
  generalize hAe : va_A [] s.heap.size = A at hZ ⊢
  have hA : ∀ q : Nat, s.heap.size ≤ q → A q := fun q h => by rw [← hAe]; exact Or.inr h
  have hS : va_S A s.heap s.heap [] := va_S.rf
  have hP : va_P (dC, dI) vwCl [] s.heap := fun k q h => by simp at h
  have hl := lv_entry ([.long x9]) (n := 2) (Nat.le_of_ble_eq_true rfl)
  rw [lg_entry_eq]
  generalize (lg_sl ([.long x9]) ++ List.replicate (2 - (lg_sl ([.long x9])).length) Slot.unset).toArray = ls at hl ⊢
  have hl : lv_has ls 2 [(0, .long x9)] := hl
  refine lv_lload_n hx hb dX0_signedStep_0 rfl (lv_at hl 0 rfl) ?_
  refine lv_lload_n hx hb dX0_signedStep_1 rfl (lv_at hl 0 rfl) ?_
  refine lv_l2i hx hb dX0_signedStep_2 rfl ?_
  refine lv_i2b hx hb dX0_signedStep_3 rfl ?_
  refine lv_i2l hx hb dX0_signedStep_4 rfl ?_
  refine W.lcmp hx hb dX0_signedStep_5 ?_
  refine lv_if_ne (tgt := 11) hx hb dX0_signedStep_6 (by decide) (fun c_1 => ?_) (fun c_1 => ?_)
  · skip
    have c_1 := (not_congr (lg_cmp_eq x9 x9.toInt32.toInt8.toInt32.toInt64)).mp c_1
    refine lv_lload_n hx hb dX0_signedStep_11 rfl (lv_at hl 0 rfl) ?_
    refine lv_lload_n hx hb dX0_signedStep_12 rfl (lv_at hl 0 rfl) ?_
    refine lv_l2i hx hb dX0_signedStep_13 rfl ?_
    refine lv_i2s hx hb dX0_signedStep_14 rfl ?_
    refine lv_i2l hx hb dX0_signedStep_15 rfl ?_
    refine W.lcmp hx hb dX0_signedStep_16 ?_
    refine lv_if_ne (tgt := 22) hx hb dX0_signedStep_17 (by decide) (fun c_2 => ?_) (fun c_2 => ?_)
    · skip
      have c_2 := (not_congr (lg_cmp_eq x9 x9.toInt32.toInt16.toInt32.toInt64)).mp c_2
      refine lv_lload_n hx hb dX0_signedStep_22 rfl (lv_at hl 0 rfl) ?_
      refine lv_lload_n hx hb dX0_signedStep_23 rfl (lv_at hl 0 rfl) ?_
      refine lv_l2i hx hb dX0_signedStep_24 rfl ?_
      refine lv_i2l hx hb dX0_signedStep_25 rfl ?_
      refine W.lcmp hx hb dX0_signedStep_26 ?_
      refine lv_if_ne (tgt := 34) hx hb dX0_signedStep_27 (by decide) (fun c_3 => ?_) (fun c_3 => ?_)
      · skip
        have c_3 := (not_congr (lg_cmp_eq x9 x9.toInt32.toInt64)).mp c_3
        refine lv_iconst (v := 3) hx hb dX0_signedStep_34 (by decide) ?_
        exact W.iret (v := 3) hx hb hr (fun t ht hW => ⟨⟨3, (), rfl, (by unfold ss; rw [if_neg c_1, if_neg c_2, if_neg c_3]), trivial⟩, hS.F ht⟩) hS.2.2 dX0_signedStep_35
      · skip
        have c_3 := (lg_cmp_eq x9 x9.toInt32.toInt64).mp c_3
        refine lv_iconst (v := 2) hx hb dX0_signedStep_30 (by decide) ?_
        refine lv_goto (tgt := 35) hx hb dX0_signedStep_31 (by decide) ?_
        exact W.iret (v := 2) hx hb hr (fun t ht hW => ⟨⟨2, (), rfl, (by unfold ss; rw [if_neg c_1, if_neg c_2, if_pos c_3]), trivial⟩, hS.F ht⟩) hS.2.2 dX0_signedStep_35
    · skip
      have c_2 := (lg_cmp_eq x9 x9.toInt32.toInt16.toInt32.toInt64).mp c_2
      refine lv_iconst (v := 1) hx hb dX0_signedStep_20 (by decide) ?_
      exact W.iret (v := 1) hx hb hr (fun t ht hW => ⟨⟨1, (), rfl, (by unfold ss; rw [if_neg c_1, if_pos c_2]), trivial⟩, hS.F ht⟩) hS.2.2 dX0_signedStep_21
  · skip
    have c_1 := (lg_cmp_eq x9 x9.toInt32.toInt8.toInt32.toInt64).mp c_1
    refine lv_iconst (v := 0) hx hb dX0_signedStep_9 (by decide) ?_
    exact W.iret (v := 0) hx hb hr (fun t ht hW => ⟨⟨0, (), rfl, (by unfold ss; rw [if_pos c_1]), trivial⟩, hS.F ht⟩) hS.2.2 dX0_signedStep_10
set_option maxHeartbeats 4000000 in
set_option maxRecDepth 100000 in
theorem c_X0_countStep (l : Launch) (dC : Nat → ClassId) (dI : Nat → Nat → Nat) (tk tw : Nat) (sz : Nat) (x9 : Int64) : Met l yX0_countStep wsX0_countStep ({ frames := 0, cells := 0, slots := 0, locals := 0 }) (va_Pc [.long x9] (p0 sz tk tw)) (va_Qi (fun (r : Int32) (_ : Unit) => r = cs x9) (fun _ _ => True) (va_A [] sz)) 0 0 (va_A [] sz) := by
  refine Met.ofW (cc := cX0_countStep) (maxL := 2) (ret := (some .int)) (by decide) rfl ?_
  intro p e s m args below meth c s₁ Bd hml hv
  obtain ⟨rfl, hsz, hZ⟩ := hv
  have hx := Bd.exec
  have hb := Bd.bytes
  have hr := Bd.returns
  have hts := atoms_spec (ws := wsX0_countStep) Bd.pre
  have hown : s.vm.findClass RX0 = some m.cls := findClass_of_methodNamed Bd.named
  have hlocks := Bd.notSynchronized
  subst hsz
  generalize hAe : va_A [] s.heap.size = A at hZ ⊢
  have hA : ∀ q : Nat, s.heap.size ≤ q → A q := fun q h => by rw [← hAe]; exact Or.inr h
  have hS : va_S A s.heap s.heap [] := va_S.rf
  have hP : va_P (dC, dI) vwCl [] s.heap := fun k q h => by simp at h
  have hl := lv_entry ([.long x9]) (n := 2) (Nat.le_of_ble_eq_true rfl)
  rw [lg_entry_eq]
  generalize (lg_sl ([.long x9]) ++ List.replicate (2 - (lg_sl ([.long x9])).length) Slot.unset).toArray = ls at hl ⊢
  have hl : lv_has ls 2 [(0, .long x9)] := hl
  refine lv_lload_n hx hb dX0_countStep_0 rfl (lv_at hl 0 rfl) ?_
  refine lv_bipush (v := 16) hx hb dX0_countStep_1 (by decide) ?_
  refine lv_lushr hx hb dX0_countStep_3 rfl ?_
  refine lv_lconst (v := 0) hx hb dX0_countStep_4 (by decide) ?_
  refine W.lcmp hx hb dX0_countStep_5 ?_
  refine lv_if_ne (tgt := 13) hx hb dX0_countStep_6 (by decide) (fun c_1 => ?_) (fun c_1 => ?_)
  · skip
    have c_1 := (not_congr (lg_cmp_eq ((x9.toUInt64 >>> ((16 : Int32).toInt64.toUInt64 &&& Int64.toUInt64 63)).toInt64) (0 : Int64))).mp c_1
    refine lv_iconst (v := 1) hx hb dX0_countStep_13 (by decide) ?_
    exact W.iret (v := 1) hx hb hr (fun t ht hW => ⟨⟨1, (), rfl, (by unfold cs; rw [if_neg c_1]), trivial⟩, hS.F ht⟩) hS.2.2 dX0_countStep_14
  · skip
    have c_1 := (lg_cmp_eq ((x9.toUInt64 >>> ((16 : Int32).toInt64.toUInt64 &&& Int64.toUInt64 63)).toInt64) (0 : Int64)).mp c_1
    refine lv_iconst (v := 0) hx hb dX0_countStep_9 (by decide) ?_
    refine lv_goto (tgt := 14) hx hb dX0_countStep_10 (by decide) ?_
    exact W.iret (v := 0) hx hb hr (fun t ht hW => ⟨⟨0, (), rfl, (by unfold cs; rw [if_pos c_1]), trivial⟩, hS.F ht⟩) hS.2.2 dX0_countStep_14
set_option maxHeartbeats 4000000 in
set_option maxRecDepth 100000 in
theorem c_X0_numberOf (l : Launch) (dC : Nat → ClassId) (dI : Nat → Nat → Nat) (tk tw : Nat) (sz : Nat) (k9 lo hi : Int32) : Met l yX0_numberOf wsX0_numberOf ({ frames := 0, cells := 0, slots := 0, locals := 0 }) (va_Pc [.int k9, .int lo, .int hi] (p0 sz tk tw)) (va_Ql (fun (r : Int64) (_ : Unit) => r = nO k9 lo hi) (fun _ _ => True) (va_A [] sz)) 0 0 (va_A [] sz) := by
  refine Met.ofW (cc := cX0_numberOf) (maxL := 6) (ret := (some .long)) (by decide) rfl ?_
  intro p e s m args below meth c s₁ Bd hml hv
  obtain ⟨rfl, hsz, hZ⟩ := hv
  have hx := Bd.exec
  have hb := Bd.bytes
  have hr := Bd.returns
  have hts := atoms_spec (ws := wsX0_numberOf) Bd.pre
  have hown : s.vm.findClass RX0 = some m.cls := findClass_of_methodNamed Bd.named
  have hlocks := Bd.notSynchronized
  subst hsz
  generalize hAe : va_A [] s.heap.size = A at hZ ⊢
  have hA : ∀ q : Nat, s.heap.size ≤ q → A q := fun q h => by rw [← hAe]; exact Or.inr h
  have hS : va_S A s.heap s.heap [] := va_S.rf
  have hP : va_P (dC, dI) vwCl [] s.heap := fun k q h => by simp at h
  have hl := lv_entry ([.int k9, .int lo, .int hi]) (n := 6) (Nat.le_of_ble_eq_true rfl)
  rw [lg_entry_eq]
  generalize (lg_sl ([.int k9, .int lo, .int hi]) ++ List.replicate (6 - (lg_sl ([.int k9, .int lo, .int hi])).length) Slot.unset).toArray = ls at hl ⊢
  have hl : lv_has ls 6 [(0, .int k9), (1, .int lo), (2, .int hi)] := hl
  refine lv_iload_n hx hb dX0_numberOf_0 rfl (lv_at hl 0 rfl) ?_
  refine lv_iconst (v := 5) hx hb dX0_numberOf_1 (by decide) ?_
  refine lv_icmp_le (tgt := 11) hx hb dX0_numberOf_2 (by decide) (fun c_1 => ?_) (fun c_1 => ?_)
  · skip
    refine lv_iconst (v := 1) hx hb dX0_numberOf_11 (by decide) ?_
    refine lv_goto (tgt := 16) hx hb dX0_numberOf_12 (by decide) ?_
    refine lv_istore_n (lv' := [(3, .int 1), (0, .int k9), (1, .int lo), (2, .int hi)]) hx hb dX0_numberOf_16 rfl hl (by decide) rfl (fun ls hl => ?_)
    refine lv_iload_n hx hb dX0_numberOf_17 rfl (lv_at hl 2 rfl) ?_
    refine lv_i2l hx hb dX0_numberOf_18 rfl ?_
    refine lv_ldc2 (v := 4294967295) hx hb hown (hts (.constantLong RX0 161 (4294967295)) (by decide +kernel)) dX0_numberOf_19 ?_
    refine lv_land hx hb dX0_numberOf_22 ?_
    refine lv_lstore (lv' := [(4, .long (lo.toInt64 &&& 4294967295)), (3, .int 1), (0, .int k9), (1, .int lo), (2, .int hi)]) hx hb dX0_numberOf_23 hl (by decide) rfl (fun ls hl => ?_)
    refine lv_iload_n hx hb dX0_numberOf_25 rfl (lv_at hl 1 rfl) ?_
    refine lv_if_eq (tgt := 40) hx hb dX0_numberOf_26 (by decide) (fun c_2 => ?_) (fun c_2 => ?_)
    · skip
      exact absurd c_2 (by decide)
    · skip
      refine lv_iload_n hx hb dX0_numberOf_29 rfl (lv_at hl 4 rfl) ?_
      refine lv_i2l hx hb dX0_numberOf_30 rfl ?_
      refine lv_bipush (v := 32) hx hb dX0_numberOf_31 (by decide) ?_
      refine lv_lshl hx hb dX0_numberOf_33 rfl ?_
      refine lv_lload hx hb dX0_numberOf_34 (lv_at hl 0 rfl) ?_
      refine lv_lor hx hb dX0_numberOf_36 ?_
      refine lv_goto (tgt := 42) hx hb dX0_numberOf_37 (by decide) ?_
      exact W.lret (v := (hi.toInt64 <<< ((32 : Int32).toInt64 &&& 63)) ||| (lo.toInt64 &&& 4294967295)) hx hb hr (fun t ht hW => ⟨⟨(hi.toInt64 <<< ((32 : Int32).toInt64 &&& 63)) ||| (lo.toInt64 &&& 4294967295), (), rfl, (by unfold nO; rw [if_pos c_1]), trivial⟩, hS.F ht⟩) hS.2.2 dX0_numberOf_42
  · skip
    refine lv_iload_n hx hb dX0_numberOf_5 rfl (lv_at hl 0 rfl) ?_
    refine lv_bipush (v := 7) hx hb dX0_numberOf_6 (by decide) ?_
    refine lv_icmp_ne (tgt := 15) hx hb dX0_numberOf_8 (by decide) (fun c_3 => ?_) (fun c_3 => ?_)
    · skip
      refine lv_iconst (v := 0) hx hb dX0_numberOf_15 (by decide) ?_
      refine lv_istore_n (lv' := [(3, .int 0), (0, .int k9), (1, .int lo), (2, .int hi)]) hx hb dX0_numberOf_16 rfl hl (by decide) rfl (fun ls hl => ?_)
      refine lv_iload_n hx hb dX0_numberOf_17 rfl (lv_at hl 2 rfl) ?_
      refine lv_i2l hx hb dX0_numberOf_18 rfl ?_
      refine lv_ldc2 (v := 4294967295) hx hb hown (hts (.constantLong RX0 161 (4294967295)) (by decide +kernel)) dX0_numberOf_19 ?_
      refine lv_land hx hb dX0_numberOf_22 ?_
      refine lv_lstore (lv' := [(4, .long (lo.toInt64 &&& 4294967295)), (3, .int 0), (0, .int k9), (1, .int lo), (2, .int hi)]) hx hb dX0_numberOf_23 hl (by decide) rfl (fun ls hl => ?_)
      refine lv_iload_n hx hb dX0_numberOf_25 rfl (lv_at hl 1 rfl) ?_
      refine lv_if_eq (tgt := 40) hx hb dX0_numberOf_26 (by decide) (fun c_4 => ?_) (fun c_4 => ?_)
      · skip
        refine lv_lload hx hb dX0_numberOf_40 (lv_at hl 0 rfl) ?_
        exact W.lret (v := lo.toInt64 &&& 4294967295) hx hb hr (fun t ht hW => ⟨⟨lo.toInt64 &&& 4294967295, (), rfl, (by unfold nO; rw [if_neg c_1, if_neg c_3]), trivial⟩, hS.F ht⟩) hS.2.2 dX0_numberOf_42
      · skip
        exact absurd (by decide) c_4
    · skip
      refine lv_iconst (v := 1) hx hb dX0_numberOf_11 (by decide) ?_
      refine lv_goto (tgt := 16) hx hb dX0_numberOf_12 (by decide) ?_
      refine lv_istore_n (lv' := [(3, .int 1), (0, .int k9), (1, .int lo), (2, .int hi)]) hx hb dX0_numberOf_16 rfl hl (by decide) rfl (fun ls hl => ?_)
      refine lv_iload_n hx hb dX0_numberOf_17 rfl (lv_at hl 2 rfl) ?_
      refine lv_i2l hx hb dX0_numberOf_18 rfl ?_
      refine lv_ldc2 (v := 4294967295) hx hb hown (hts (.constantLong RX0 161 (4294967295)) (by decide +kernel)) dX0_numberOf_19 ?_
      refine lv_land hx hb dX0_numberOf_22 ?_
      refine lv_lstore (lv' := [(4, .long (lo.toInt64 &&& 4294967295)), (3, .int 1), (0, .int k9), (1, .int lo), (2, .int hi)]) hx hb dX0_numberOf_23 hl (by decide) rfl (fun ls hl => ?_)
      refine lv_iload_n hx hb dX0_numberOf_25 rfl (lv_at hl 1 rfl) ?_
      refine lv_if_eq (tgt := 40) hx hb dX0_numberOf_26 (by decide) (fun c_5 => ?_) (fun c_5 => ?_)
      · skip
        exact absurd c_5 (by decide)
      · skip
        refine lv_iload_n hx hb dX0_numberOf_29 rfl (lv_at hl 4 rfl) ?_
        refine lv_i2l hx hb dX0_numberOf_30 rfl ?_
        refine lv_bipush (v := 32) hx hb dX0_numberOf_31 (by decide) ?_
        refine lv_lshl hx hb dX0_numberOf_33 rfl ?_
        refine lv_lload hx hb dX0_numberOf_34 (lv_at hl 0 rfl) ?_
        refine lv_lor hx hb dX0_numberOf_36 ?_
        refine lv_goto (tgt := 42) hx hb dX0_numberOf_37 (by decide) ?_
        exact W.lret (v := (hi.toInt64 <<< ((32 : Int32).toInt64 &&& 63)) ||| (lo.toInt64 &&& 4294967295)) hx hb hr (fun t ht hW => ⟨⟨(hi.toInt64 <<< ((32 : Int32).toInt64 &&& 63)) ||| (lo.toInt64 &&& 4294967295), (), rfl, (by unfold nO; rw [if_neg c_1, if_pos c_3]), trivial⟩, hS.F ht⟩) hS.2.2 dX0_numberOf_42
set_option maxHeartbeats 4000000 in
set_option maxRecDepth 100000 in
theorem c_X0_extensionForm (l : Launch) (dC : Nat → ClassId) (dI : Nat → Nat → Nat) (tk tw : Nat) (sz : Nat) (x9 : Int64) : Met l yX0_extensionForm wsX0_extensionForm ({ frames := 1, cells := 0, slots := 0, locals := 21 }) (va_Pc [.long x9] (p0 sz tk tw)) (va_Qi (fun (r : Int32) (_ : Unit) => r = eF x9 5 0) (fun _ _ => True) (va_A [] sz)) 0 0 (va_A [] sz) := by
  refine Met.ofW (cc := cX0_extensionForm) (maxL := 3) (ret := (some .int)) (by decide) rfl ?_
  intro p e s m args below meth c s₁ Bd hml hv
  obtain ⟨rfl, hsz, hZ⟩ := hv
  have hx := Bd.exec
  have hb := Bd.bytes
  have hr := Bd.returns
  have hts := atoms_spec (ws := wsX0_extensionForm) Bd.pre
  have hown : s.vm.findClass RX0 = some m.cls := findClass_of_methodNamed Bd.named
  have hlocks := Bd.notSynchronized
  subst hsz
  generalize hAe : va_A [] s.heap.size = A at hZ ⊢
  have hA : ∀ q : Nat, s.heap.size ≤ q → A q := fun q h => by rw [← hAe]; exact Or.inr h
  have hS : va_S A s.heap s.heap [] := va_S.rf
  have hP : va_P (dC, dI) vwCl [] s.heap := fun k q h => by simp at h
  have hl := lv_entry ([.long x9]) (n := 3) (Nat.le_of_ble_eq_true rfl)
  rw [lg_entry_eq]
  generalize (lg_sl ([.long x9]) ++ List.replicate (3 - (lg_sl ([.long x9])).length) Slot.unset).toArray = ls at hl ⊢
  have hl : lv_has ls 3 [(0, .long x9)] := hl
  refine lv_iconst (v := 0) hx hb dX0_extensionForm_0 (by decide) ?_
  refine lv_istore_n (lv' := [(2, .int 0), (0, .long x9)]) hx hb dX0_extensionForm_1 rfl hl (by decide) rfl (fun ls hl => ?_)
  have loop2 : ∀ (fz : Nat) (q i : Nat), q < fz → i + q = 5 → eF x9 q i = eF x9 5 0 → ∀ (H : Heap) (locs : List Loc), va_P (dC, dI) vwCl [] H → va_S A s.heap H locs → ∀ ls : Array Slot, lv_has ls 3 [(0, .long x9), (2, .int (nI i))] → W p l e (headSpec wsX0_extensionForm ({ frames := 1, cells := 0, slots := 0, locals := 21 })).room s m ([.long x9]).toArray below meth c H locs 0 0 (MQ below (va_Qi (fun (r : Int32) (_ : Unit) => r = eF x9 5 0) (fun _ _ => True) A) ([.long x9]).toArray s 0 0 A) (F0 m 2 ls []) := by
    intro fz
    induction fz with
    | zero =>
      intro q i hq hi hw9 H locs hP hS ls hl
      exact absurd hq (Nat.not_lt_zero _)
    | succ fz ih =>
      intro q i hq hi hw9 H locs hP hS ls hl
      refine lv_iload_n hx hb dX0_extensionForm_2 rfl (lv_at hl 1 rfl) ?_
      refine lv_iconst (v := 5) hx hb dX0_extensionForm_3 (by decide) ?_
      refine lv_icmp_ge (tgt := 27) hx hb dX0_extensionForm_4 (by decide) (fun c_1 => ?_) (fun c_1 => ?_)
      · skip
        have hq0 : q = 0 := by have z := (nI_leI (a := 5) (b := i) (by decide) (by omega)).mp c_1; omega
        refine lv_sipush (v := 199) hx hb dX0_extensionForm_27 (by decide) ?_
        refine lv_lload_n hx hb dX0_extensionForm_30 rfl (lv_at hl 0 rfl) ?_
        refine gsi (As := [.long x9]) (rest := [.int 199]) ⟨hx, hb, hml, hown, hts⟩ (c_X0_unsignedStep l dC dI tk tw _ x9) (va_cwS 1 hts gX0_extensionForm_X0_unsignedStep rfl rfl rfl (by decide +kernel) ⟨Nat.le_of_ble_eq_true rfl, Nat.le_of_ble_eq_true rfl⟩) hP hS hA hZ rfl hl.1 rfl (Nat.le_of_ble_eq_true rfl) dX0_extensionForm_31 ⟨Nat.le_of_ble_eq_true rfl, Nat.le_of_ble_eq_true rfl⟩ (fun r_3 H locs hw_2 hP hS => ?_)
        obtain rfl : r_3 = us x9 := hw_2
        refine lv_iadd hx hb dX0_extensionForm_34 ?_
        exact W.iret (v := 199 + (us x9)) hx hb hr (fun t ht hW => ⟨⟨199 + (us x9), (), rfl, (by rw [← hw9, hq0]; rfl), trivial⟩, hS.F ht⟩) hS.2.2 dX0_extensionForm_35
      · skip
        obtain ⟨t, ht9⟩ : ∃ t, q = t + 1 := ⟨q - 1, by have z := (not_congr (nI_leI (a := 5) (b := i) (by decide) (by omega))).mp c_1; omega⟩
        refine lv_lload_n hx hb dX0_extensionForm_7 rfl (lv_at hl 0 rfl) ?_
        refine lv_lconst (v := 1) hx hb dX0_extensionForm_8 (by decide) ?_
        refine lv_iload_n hx hb dX0_extensionForm_9 rfl (lv_at hl 1 rfl) ?_
        refine lv_lshl hx hb dX0_extensionForm_10 rfl ?_
        refine W.lcmp hx hb dX0_extensionForm_11 ?_
        refine lv_if_ne (tgt := 21) hx hb dX0_extensionForm_12 (by decide) (fun c_4 => ?_) (fun c_4 => ?_)
        · skip
          have c_4 := (not_congr (lg_cmp_eq x9 (1 <<< ((nI i).toInt64 &&& 63)))).mp c_4
          refine lv_iinc (v := nI (i + 1)) (lv' := [(2, .int (nI (i + 1))), (0, .long x9)]) hx hb dX0_extensionForm_21 hl (k := 1) rfl (nI_1 i) (by decide) rfl (fun ls hl => ?_)
          refine lv_goto (tgt := 2) hx hb dX0_extensionForm_24 (by decide) ?_
          exact ih t (i + 1) (by omega) (by omega) (by rw [← hw9, ht9]; exact (if_neg c_4).symm) _ _ hP hS ls (lv_sub hl [1, 0] rfl)
        · skip
          have c_4 := (lg_cmp_eq x9 (1 <<< ((nI i).toInt64 &&& 63))).mp c_4
          refine lv_sipush (v := 212) hx hb dX0_extensionForm_15 (by decide) ?_
          refine lv_iload_n hx hb dX0_extensionForm_18 rfl (lv_at hl 1 rfl) ?_
          refine lv_iadd hx hb dX0_extensionForm_19 ?_
          exact W.iret (v := 212 + (nI i)) hx hb hr (fun t ht hW => ⟨⟨212 + (nI i), (), rfl, (by rw [← hw9, ht9]; exact (if_pos c_4).symm), trivial⟩, hS.F ht⟩) hS.2.2 dX0_extensionForm_20
  exact loop2 (5 + 1) 5 0 (by omega) rfl rfl _ _ hP hS ls (lv_sub hl [1, 0] rfl)
set_option maxHeartbeats 4000000 in
set_option maxRecDepth 100000 in
theorem c_X0_shortestForm (l : Launch) (dC : Nat → ClassId) (dI : Nat → Nat → Nat) (tk tw : Nat) (sz : Nat) (k9 : Int32) (x9 : Int64) : Met l yX0_shortestForm wsX0_shortestForm ({ frames := 2, cells := 0, slots := 0, locals := 43 }) (va_Pc [.int k9, .long x9] (p0 sz tk tw)) (va_Qi (fun (r : Int32) (_ : Unit) => r = sF k9 x9) (fun _ _ => True) (va_A [] sz)) 0 0 (va_A [] sz) := by
  refine Met.ofW (cc := cX0_shortestForm) (maxL := 3) (ret := (some .int)) (by decide) rfl ?_
  intro p e s m args below meth c s₁ Bd hml hv
  obtain ⟨rfl, hsz, hZ⟩ := hv
  have hx := Bd.exec
  have hb := Bd.bytes
  have hr := Bd.returns
  have hts := atoms_spec (ws := wsX0_shortestForm) Bd.pre
  have hown : s.vm.findClass RX0 = some m.cls := findClass_of_methodNamed Bd.named
  have hlocks := Bd.notSynchronized
  subst hsz
  generalize hAe : va_A [] s.heap.size = A at hZ ⊢
  have hA : ∀ q : Nat, s.heap.size ≤ q → A q := fun q h => by rw [← hAe]; exact Or.inr h
  have hS : va_S A s.heap s.heap [] := va_S.rf
  have hP : va_P (dC, dI) vwCl [] s.heap := fun k q h => by simp at h
  have hl := lv_entry ([.int k9, .long x9]) (n := 3) (Nat.le_of_ble_eq_true rfl)
  rw [lg_entry_eq]
  generalize (lg_sl ([.int k9, .long x9]) ++ List.replicate (3 - (lg_sl ([.int k9, .long x9])).length) Slot.unset).toArray = ls at hl ⊢
  have hl : lv_has ls 3 [(0, .int k9), (1, .long x9)] := hl
  refine lv_iload_n hx hb dX0_shortestForm_0 rfl (lv_at hl 0 rfl) ?_
  by_cases c_1 : k9 = 1
  · skip
    refine lv_tableIn (tgt := 60) hx hb dX0_shortestForm_1 (by rw [c_1]; decide) (by rw [c_1]; decide) (by rw [c_1] <;> rfl) (by decide) ?_
    refine lv_sipush (v := 192) hx hb dX0_shortestForm_60 (by decide) ?_
    exact W.iret (v := 192) hx hb hr (fun t ht hW => ⟨⟨192, (), rfl, (by unfold sF; rw [if_pos c_1]), trivial⟩, hS.F ht⟩) hS.2.2 dX0_shortestForm_63
  by_cases c_2 : k9 = 2
  · skip
    refine lv_tableIn (tgt := 64) hx hb dX0_shortestForm_1 (by rw [c_2]; decide) (by rw [c_2]; decide) (by rw [c_2] <;> rfl) (by decide) ?_
    refine lv_sipush (v := 194) hx hb dX0_shortestForm_64 (by decide) ?_
    exact W.iret (v := 194) hx hb hr (fun t ht hW => ⟨⟨194, (), rfl, (by unfold sF; rw [if_neg c_1, if_pos c_2]), trivial⟩, hS.F ht⟩) hS.2.2 dX0_shortestForm_67
  by_cases c_3 : k9 = 3
  · skip
    refine lv_tableIn (tgt := 68) hx hb dX0_shortestForm_1 (by rw [c_3]; decide) (by rw [c_3]; decide) (by rw [c_3] <;> rfl) (by decide) ?_
    refine lv_sipush (v := 195) hx hb dX0_shortestForm_68 (by decide) ?_
    exact W.iret (v := 195) hx hb hr (fun t ht hW => ⟨⟨195, (), rfl, (by unfold sF; rw [if_neg c_1, if_neg c_2, if_pos c_3]), trivial⟩, hS.F ht⟩) hS.2.2 dX0_shortestForm_71
  by_cases c_4 : k9 = 4
  · skip
    refine lv_tableIn (tgt := 72) hx hb dX0_shortestForm_1 (by rw [c_4]; decide) (by rw [c_4]; decide) (by rw [c_4] <;> rfl) (by decide) ?_
    refine lv_lload_n hx hb dX0_shortestForm_72 rfl (lv_at hl 1 rfl) ?_
    refine lv_lconst (v := 0) hx hb dX0_shortestForm_73 (by decide) ?_
    refine W.lcmp hx hb dX0_shortestForm_74 ?_
    refine lv_if_lt (tgt := 91) hx hb dX0_shortestForm_75 (by decide) (fun c_5 => ?_) (fun c_5 => ?_)
    · skip
      have c_5 := (lg_cmp_lt x9 (0 : Int64)).mp c_5
      refine lv_sipush (v := 204) hx hb dX0_shortestForm_91 (by decide) ?_
      refine lv_lload_n hx hb dX0_shortestForm_94 rfl (lv_at hl 1 rfl) ?_
      refine gsi (As := [.long x9]) (rest := [.int 204]) ⟨hx, hb, hml, hown, hts⟩ (c_X0_unsignedStep l dC dI tk tw _ x9) (va_cwS 1 hts gX0_shortestForm_X0_unsignedStep rfl rfl rfl (by decide +kernel) ⟨Nat.le_of_ble_eq_true rfl, Nat.le_of_ble_eq_true rfl⟩) hP hS hA hZ rfl hl.1 rfl (Nat.le_of_ble_eq_true rfl) dX0_shortestForm_95 ⟨Nat.le_of_ble_eq_true rfl, Nat.le_of_ble_eq_true rfl⟩ (fun r_7 H locs hw_6 hP hS => ?_)
      obtain rfl : r_7 = us x9 := hw_6
      refine lv_iadd hx hb dX0_shortestForm_98 ?_
      exact W.iret (v := 204 + (us x9)) hx hb hr (fun t ht hW => ⟨⟨204 + (us x9), (), rfl, (by unfold sF; rw [if_neg c_1, if_neg c_2, if_neg c_3, if_pos c_4, if_pos c_5]), trivial⟩, hS.F ht⟩) hS.2.2 dX0_shortestForm_99
    · skip
      have c_5 := (not_congr (lg_cmp_lt x9 (0 : Int64))).mp c_5
      refine lv_lload_n hx hb dX0_shortestForm_78 rfl (lv_at hl 1 rfl) ?_
      refine lv_ldc2 (v := 128) hx hb hown (hts (.constantLong RX0 163 (128)) (by decide +kernel)) dX0_shortestForm_79 ?_
      refine W.lcmp hx hb dX0_shortestForm_82 ?_
      refine lv_if_ge (tgt := 91) hx hb dX0_shortestForm_83 (by decide) (fun c_8 => ?_) (fun c_8 => ?_)
      · skip
        have c_8 := (lg_cmp_ge x9 (128 : Int64)).mp c_8
        refine lv_sipush (v := 204) hx hb dX0_shortestForm_91 (by decide) ?_
        refine lv_lload_n hx hb dX0_shortestForm_94 rfl (lv_at hl 1 rfl) ?_
        refine gsi (As := [.long x9]) (rest := [.int 204]) ⟨hx, hb, hml, hown, hts⟩ (c_X0_unsignedStep l dC dI tk tw _ x9) (va_cwS 1 hts gX0_shortestForm_X0_unsignedStep rfl rfl rfl (by decide +kernel) ⟨Nat.le_of_ble_eq_true rfl, Nat.le_of_ble_eq_true rfl⟩) hP hS hA hZ rfl hl.1 rfl (Nat.le_of_ble_eq_true rfl) dX0_shortestForm_95 ⟨Nat.le_of_ble_eq_true rfl, Nat.le_of_ble_eq_true rfl⟩ (fun r_10 H locs hw_9 hP hS => ?_)
        obtain rfl : r_10 = us x9 := hw_9
        refine lv_iadd hx hb dX0_shortestForm_98 ?_
        exact W.iret (v := 204 + (us x9)) hx hb hr (fun t ht hW => ⟨⟨204 + (us x9), (), rfl, (by unfold sF; rw [if_neg c_1, if_neg c_2, if_neg c_3, if_pos c_4, if_neg c_5, if_pos c_8]), trivial⟩, hS.F ht⟩) hS.2.2 dX0_shortestForm_99
      · skip
        have c_8 := (not_congr (lg_cmp_ge x9 (128 : Int64))).mp c_8
        refine lv_lload_n hx hb dX0_shortestForm_86 rfl (lv_at hl 1 rfl) ?_
        refine lv_l2i hx hb dX0_shortestForm_87 rfl ?_
        refine lv_goto (tgt := 99) hx hb dX0_shortestForm_88 (by decide) ?_
        exact W.iret (v := x9.toInt32) hx hb hr (fun t ht hW => ⟨⟨x9.toInt32, (), rfl, (by unfold sF; rw [if_neg c_1, if_neg c_2, if_neg c_3, if_pos c_4, if_neg c_5, if_neg c_8]), trivial⟩, hS.F ht⟩) hS.2.2 dX0_shortestForm_99
  by_cases c_11 : k9 = 5
  · skip
    refine lv_tableIn (tgt := 100) hx hb dX0_shortestForm_1 (by rw [c_11]; decide) (by rw [c_11]; decide) (by rw [c_11] <;> rfl) (by decide) ?_
    refine lv_lload_n hx hb dX0_shortestForm_100 rfl (lv_at hl 1 rfl) ?_
    refine lv_ldc2 (v := -32) hx hb hown (hts (.constantLong RX0 169 (-32)) (by decide +kernel)) dX0_shortestForm_101 ?_
    refine W.lcmp hx hb dX0_shortestForm_104 ?_
    refine lv_if_lt (tgt := 123) hx hb dX0_shortestForm_105 (by decide) (fun c_12 => ?_) (fun c_12 => ?_)
    · skip
      have c_12 := (lg_cmp_lt x9 (-32 : Int64)).mp c_12
      refine lv_sipush (v := 208) hx hb dX0_shortestForm_123 (by decide) ?_
      refine lv_lload_n hx hb dX0_shortestForm_126 rfl (lv_at hl 1 rfl) ?_
      refine gsi (As := [.long x9]) (rest := [.int 208]) ⟨hx, hb, hml, hown, hts⟩ (c_X0_signedStep l dC dI tk tw _ x9) (va_cwS 1 hts gX0_shortestForm_X0_signedStep rfl rfl rfl (by decide +kernel) ⟨Nat.le_of_ble_eq_true rfl, Nat.le_of_ble_eq_true rfl⟩) hP hS hA hZ rfl hl.1 rfl (Nat.le_of_ble_eq_true rfl) dX0_shortestForm_127 ⟨Nat.le_of_ble_eq_true rfl, Nat.le_of_ble_eq_true rfl⟩ (fun r_14 H locs hw_13 hP hS => ?_)
      obtain rfl : r_14 = ss x9 := hw_13
      refine lv_iadd hx hb dX0_shortestForm_130 ?_
      exact W.iret (v := 208 + (ss x9)) hx hb hr (fun t ht hW => ⟨⟨208 + (ss x9), (), rfl, (by unfold sF; rw [if_neg c_1, if_neg c_2, if_neg c_3, if_neg c_4, if_pos c_11, if_pos c_12]), trivial⟩, hS.F ht⟩) hS.2.2 dX0_shortestForm_131
    · skip
      have c_12 := (not_congr (lg_cmp_lt x9 (-32 : Int64))).mp c_12
      refine lv_lload_n hx hb dX0_shortestForm_108 rfl (lv_at hl 1 rfl) ?_
      refine lv_lconst (v := 0) hx hb dX0_shortestForm_109 (by decide) ?_
      refine W.lcmp hx hb dX0_shortestForm_110 ?_
      refine lv_if_ge (tgt := 123) hx hb dX0_shortestForm_111 (by decide) (fun c_15 => ?_) (fun c_15 => ?_)
      · skip
        have c_15 := (lg_cmp_ge x9 (0 : Int64)).mp c_15
        refine lv_sipush (v := 208) hx hb dX0_shortestForm_123 (by decide) ?_
        refine lv_lload_n hx hb dX0_shortestForm_126 rfl (lv_at hl 1 rfl) ?_
        refine gsi (As := [.long x9]) (rest := [.int 208]) ⟨hx, hb, hml, hown, hts⟩ (c_X0_signedStep l dC dI tk tw _ x9) (va_cwS 1 hts gX0_shortestForm_X0_signedStep rfl rfl rfl (by decide +kernel) ⟨Nat.le_of_ble_eq_true rfl, Nat.le_of_ble_eq_true rfl⟩) hP hS hA hZ rfl hl.1 rfl (Nat.le_of_ble_eq_true rfl) dX0_shortestForm_127 ⟨Nat.le_of_ble_eq_true rfl, Nat.le_of_ble_eq_true rfl⟩ (fun r_17 H locs hw_16 hP hS => ?_)
        obtain rfl : r_17 = ss x9 := hw_16
        refine lv_iadd hx hb dX0_shortestForm_130 ?_
        exact W.iret (v := 208 + (ss x9)) hx hb hr (fun t ht hW => ⟨⟨208 + (ss x9), (), rfl, (by unfold sF; rw [if_neg c_1, if_neg c_2, if_neg c_3, if_neg c_4, if_pos c_11, if_neg c_12, if_pos c_15]), trivial⟩, hS.F ht⟩) hS.2.2 dX0_shortestForm_131
      · skip
        have c_15 := (not_congr (lg_cmp_ge x9 (0 : Int64))).mp c_15
        refine lv_sipush (v := 256) hx hb dX0_shortestForm_114 (by decide) ?_
        refine lv_lload_n hx hb dX0_shortestForm_117 rfl (lv_at hl 1 rfl) ?_
        refine lv_l2i hx hb dX0_shortestForm_118 rfl ?_
        refine lv_iadd hx hb dX0_shortestForm_119 ?_
        refine lv_goto (tgt := 131) hx hb dX0_shortestForm_120 (by decide) ?_
        exact W.iret (v := 256 + x9.toInt32) hx hb hr (fun t ht hW => ⟨⟨256 + x9.toInt32, (), rfl, (by unfold sF; rw [if_neg c_1, if_neg c_2, if_neg c_3, if_neg c_4, if_pos c_11, if_neg c_12, if_neg c_15]), trivial⟩, hS.F ht⟩) hS.2.2 dX0_shortestForm_131
  by_cases c_18 : k9 = 6
  · skip
    refine lv_tableIn (tgt := 132) hx hb dX0_shortestForm_1 (by rw [c_18]; decide) (by rw [c_18]; decide) (by rw [c_18] <;> rfl) (by decide) ?_
    refine lv_sipush (v := 202) hx hb dX0_shortestForm_132 (by decide) ?_
    exact W.iret (v := 202) hx hb hr (fun t ht hW => ⟨⟨202, (), rfl, (by unfold sF; rw [if_neg c_1, if_neg c_2, if_neg c_3, if_neg c_4, if_neg c_11, if_pos c_18]), trivial⟩, hS.F ht⟩) hS.2.2 dX0_shortestForm_135
  by_cases c_19 : k9 = 7
  · skip
    refine lv_tableIn (tgt := 136) hx hb dX0_shortestForm_1 (by rw [c_19]; decide) (by rw [c_19]; decide) (by rw [c_19] <;> rfl) (by decide) ?_
    refine lv_sipush (v := 203) hx hb dX0_shortestForm_136 (by decide) ?_
    exact W.iret (v := 203) hx hb hr (fun t ht hW => ⟨⟨203, (), rfl, (by unfold sF; rw [if_neg c_1, if_neg c_2, if_neg c_3, if_neg c_4, if_neg c_11, if_neg c_18, if_pos c_19]), trivial⟩, hS.F ht⟩) hS.2.2 dX0_shortestForm_139
  by_cases c_20 : k9 = 8
  · skip
    refine lv_tableIn (tgt := 140) hx hb dX0_shortestForm_1 (by rw [c_20]; decide) (by rw [c_20]; decide) (by rw [c_20] <;> rfl) (by decide) ?_
    refine lv_lload_n hx hb dX0_shortestForm_140 rfl (lv_at hl 1 rfl) ?_
    refine lv_ldc2 (v := 32) hx hb hown (hts (.constantLong RX0 174 (32)) (by decide +kernel)) dX0_shortestForm_141 ?_
    refine W.lcmp hx hb dX0_shortestForm_144 ?_
    refine lv_if_ge (tgt := 157) hx hb dX0_shortestForm_145 (by decide) (fun c_21 => ?_) (fun c_21 => ?_)
    · skip
      have c_21 := (lg_cmp_ge x9 (32 : Int64)).mp c_21
      refine lv_sipush (v := 217) hx hb dX0_shortestForm_157 (by decide) ?_
      refine lv_lload_n hx hb dX0_shortestForm_160 rfl (lv_at hl 1 rfl) ?_
      refine gsi (As := [.long x9]) (rest := [.int 217]) ⟨hx, hb, hml, hown, hts⟩ (c_X0_unsignedStep l dC dI tk tw _ x9) (va_cwS 1 hts gX0_shortestForm_X0_unsignedStep rfl rfl rfl (by decide +kernel) ⟨Nat.le_of_ble_eq_true rfl, Nat.le_of_ble_eq_true rfl⟩) hP hS hA hZ rfl hl.1 rfl (Nat.le_of_ble_eq_true rfl) dX0_shortestForm_161 ⟨Nat.le_of_ble_eq_true rfl, Nat.le_of_ble_eq_true rfl⟩ (fun r_23 H locs hw_22 hP hS => ?_)
      obtain rfl : r_23 = us x9 := hw_22
      refine lv_iadd hx hb dX0_shortestForm_164 ?_
      exact W.iret (v := 217 + (us x9)) hx hb hr (fun t ht hW => ⟨⟨217 + (us x9), (), rfl, (by unfold sF; rw [if_neg c_1, if_neg c_2, if_neg c_3, if_neg c_4, if_neg c_11, if_neg c_18, if_neg c_19, if_pos c_20, if_pos c_21]), trivial⟩, hS.F ht⟩) hS.2.2 dX0_shortestForm_165
    · skip
      have c_21 := (not_congr (lg_cmp_ge x9 (32 : Int64))).mp c_21
      refine lv_sipush (v := 160) hx hb dX0_shortestForm_148 (by decide) ?_
      refine lv_lload_n hx hb dX0_shortestForm_151 rfl (lv_at hl 1 rfl) ?_
      refine lv_l2i hx hb dX0_shortestForm_152 rfl ?_
      refine lv_iadd hx hb dX0_shortestForm_153 ?_
      refine lv_goto (tgt := 165) hx hb dX0_shortestForm_154 (by decide) ?_
      exact W.iret (v := 160 + x9.toInt32) hx hb hr (fun t ht hW => ⟨⟨160 + x9.toInt32, (), rfl, (by unfold sF; rw [if_neg c_1, if_neg c_2, if_neg c_3, if_neg c_4, if_neg c_11, if_neg c_18, if_neg c_19, if_pos c_20, if_neg c_21]), trivial⟩, hS.F ht⟩) hS.2.2 dX0_shortestForm_165
  by_cases c_24 : k9 = 9
  · skip
    refine lv_tableIn (tgt := 166) hx hb dX0_shortestForm_1 (by rw [c_24]; decide) (by rw [c_24]; decide) (by rw [c_24] <;> rfl) (by decide) ?_
    refine lv_sipush (v := 196) hx hb dX0_shortestForm_166 (by decide) ?_
    refine lv_lload_n hx hb dX0_shortestForm_169 rfl (lv_at hl 1 rfl) ?_
    refine gsi (As := [.long x9]) (rest := [.int 196]) ⟨hx, hb, hml, hown, hts⟩ (c_X0_unsignedStep l dC dI tk tw _ x9) (va_cwS 1 hts gX0_shortestForm_X0_unsignedStep rfl rfl rfl (by decide +kernel) ⟨Nat.le_of_ble_eq_true rfl, Nat.le_of_ble_eq_true rfl⟩) hP hS hA hZ rfl hl.1 rfl (Nat.le_of_ble_eq_true rfl) dX0_shortestForm_170 ⟨Nat.le_of_ble_eq_true rfl, Nat.le_of_ble_eq_true rfl⟩ (fun r_26 H locs hw_25 hP hS => ?_)
    obtain rfl : r_26 = us x9 := hw_25
    refine lv_iadd hx hb dX0_shortestForm_173 ?_
    exact W.iret (v := 196 + (us x9)) hx hb hr (fun t ht hW => ⟨⟨196 + (us x9), (), rfl, (by unfold sF; rw [if_neg c_1, if_neg c_2, if_neg c_3, if_neg c_4, if_neg c_11, if_neg c_18, if_neg c_19, if_neg c_20, if_pos c_24]), trivial⟩, hS.F ht⟩) hS.2.2 dX0_shortestForm_174
  by_cases c_27 : k9 = 10
  · skip
    refine lv_tableIn (tgt := 175) hx hb dX0_shortestForm_1 (by rw [c_27]; decide) (by rw [c_27]; decide) (by rw [c_27] <;> rfl) (by decide) ?_
    refine lv_lload_n hx hb dX0_shortestForm_175 rfl (lv_at hl 1 rfl) ?_
    refine lv_ldc2 (v := 16) hx hb hown (hts (.constantLong RX0 176 (16)) (by decide +kernel)) dX0_shortestForm_176 ?_
    refine W.lcmp hx hb dX0_shortestForm_179 ?_
    refine lv_if_ge (tgt := 192) hx hb dX0_shortestForm_180 (by decide) (fun c_28 => ?_) (fun c_28 => ?_)
    · skip
      have c_28 := (lg_cmp_ge x9 (16 : Int64)).mp c_28
      refine lv_sipush (v := 220) hx hb dX0_shortestForm_192 (by decide) ?_
      refine lv_lload_n hx hb dX0_shortestForm_195 rfl (lv_at hl 1 rfl) ?_
      refine gsi (As := [.long x9]) (rest := [.int 220]) ⟨hx, hb, hml, hown, hts⟩ (c_X0_countStep l dC dI tk tw _ x9) (va_cwS 1 hts gX0_shortestForm_X0_countStep rfl rfl rfl (by decide +kernel) ⟨Nat.le_of_ble_eq_true rfl, Nat.le_of_ble_eq_true rfl⟩) hP hS hA hZ rfl hl.1 rfl (Nat.le_of_ble_eq_true rfl) dX0_shortestForm_196 ⟨Nat.le_of_ble_eq_true rfl, Nat.le_of_ble_eq_true rfl⟩ (fun r_30 H locs hw_29 hP hS => ?_)
      obtain rfl : r_30 = cs x9 := hw_29
      refine lv_iadd hx hb dX0_shortestForm_199 ?_
      exact W.iret (v := 220 + (cs x9)) hx hb hr (fun t ht hW => ⟨⟨220 + (cs x9), (), rfl, (by unfold sF; rw [if_neg c_1, if_neg c_2, if_neg c_3, if_neg c_4, if_neg c_11, if_neg c_18, if_neg c_19, if_neg c_20, if_neg c_24, if_pos c_27, if_pos c_28]), trivial⟩, hS.F ht⟩) hS.2.2 dX0_shortestForm_200
    · skip
      have c_28 := (not_congr (lg_cmp_ge x9 (16 : Int64))).mp c_28
      refine lv_sipush (v := 144) hx hb dX0_shortestForm_183 (by decide) ?_
      refine lv_lload_n hx hb dX0_shortestForm_186 rfl (lv_at hl 1 rfl) ?_
      refine lv_l2i hx hb dX0_shortestForm_187 rfl ?_
      refine lv_iadd hx hb dX0_shortestForm_188 ?_
      refine lv_goto (tgt := 200) hx hb dX0_shortestForm_189 (by decide) ?_
      exact W.iret (v := 144 + x9.toInt32) hx hb hr (fun t ht hW => ⟨⟨144 + x9.toInt32, (), rfl, (by unfold sF; rw [if_neg c_1, if_neg c_2, if_neg c_3, if_neg c_4, if_neg c_11, if_neg c_18, if_neg c_19, if_neg c_20, if_neg c_24, if_pos c_27, if_neg c_28]), trivial⟩, hS.F ht⟩) hS.2.2 dX0_shortestForm_200
  by_cases c_31 : k9 = 11
  · skip
    refine lv_tableIn (tgt := 201) hx hb dX0_shortestForm_1 (by rw [c_31]; decide) (by rw [c_31]; decide) (by rw [c_31] <;> rfl) (by decide) ?_
    refine lv_lload_n hx hb dX0_shortestForm_201 rfl (lv_at hl 1 rfl) ?_
    refine lv_ldc2 (v := 16) hx hb hown (hts (.constantLong RX0 176 (16)) (by decide +kernel)) dX0_shortestForm_202 ?_
    refine W.lcmp hx hb dX0_shortestForm_205 ?_
    refine lv_if_ge (tgt := 218) hx hb dX0_shortestForm_206 (by decide) (fun c_32 => ?_) (fun c_32 => ?_)
    · skip
      have c_32 := (lg_cmp_ge x9 (16 : Int64)).mp c_32
      refine lv_sipush (v := 222) hx hb dX0_shortestForm_218 (by decide) ?_
      refine lv_lload_n hx hb dX0_shortestForm_221 rfl (lv_at hl 1 rfl) ?_
      refine gsi (As := [.long x9]) (rest := [.int 222]) ⟨hx, hb, hml, hown, hts⟩ (c_X0_countStep l dC dI tk tw _ x9) (va_cwS 1 hts gX0_shortestForm_X0_countStep rfl rfl rfl (by decide +kernel) ⟨Nat.le_of_ble_eq_true rfl, Nat.le_of_ble_eq_true rfl⟩) hP hS hA hZ rfl hl.1 rfl (Nat.le_of_ble_eq_true rfl) dX0_shortestForm_222 ⟨Nat.le_of_ble_eq_true rfl, Nat.le_of_ble_eq_true rfl⟩ (fun r_34 H locs hw_33 hP hS => ?_)
      obtain rfl : r_34 = cs x9 := hw_33
      refine lv_iadd hx hb dX0_shortestForm_225 ?_
      exact W.iret (v := 222 + (cs x9)) hx hb hr (fun t ht hW => ⟨⟨222 + (cs x9), (), rfl, (by unfold sF; rw [if_neg c_1, if_neg c_2, if_neg c_3, if_neg c_4, if_neg c_11, if_neg c_18, if_neg c_19, if_neg c_20, if_neg c_24, if_neg c_27, if_pos c_31, if_pos c_32]), trivial⟩, hS.F ht⟩) hS.2.2 dX0_shortestForm_226
    · skip
      have c_32 := (not_congr (lg_cmp_ge x9 (16 : Int64))).mp c_32
      refine lv_sipush (v := 128) hx hb dX0_shortestForm_209 (by decide) ?_
      refine lv_lload_n hx hb dX0_shortestForm_212 rfl (lv_at hl 1 rfl) ?_
      refine lv_l2i hx hb dX0_shortestForm_213 rfl ?_
      refine lv_iadd hx hb dX0_shortestForm_214 ?_
      refine lv_goto (tgt := 226) hx hb dX0_shortestForm_215 (by decide) ?_
      exact W.iret (v := 128 + x9.toInt32) hx hb hr (fun t ht hW => ⟨⟨128 + x9.toInt32, (), rfl, (by unfold sF; rw [if_neg c_1, if_neg c_2, if_neg c_3, if_neg c_4, if_neg c_11, if_neg c_18, if_neg c_19, if_neg c_20, if_neg c_24, if_neg c_27, if_pos c_31, if_neg c_32]), trivial⟩, hS.F ht⟩) hS.2.2 dX0_shortestForm_226
  refine lv_tableOut (tgt := 227) hx hb dX0_shortestForm_1 (by have := lv_neT (a := 1) c_1 (by decide); have := lv_neT (a := 2) c_2 (by decide); have := lv_neT (a := 3) c_3 (by decide); have := lv_neT (a := 4) c_4 (by decide); have := lv_neT (a := 5) c_11 (by decide); have := lv_neT (a := 6) c_18 (by decide); have := lv_neT (a := 7) c_19 (by decide); have := lv_neT (a := 8) c_20 (by decide); have := lv_neT (a := 9) c_24 (by decide); have := lv_neT (a := 10) c_27 (by decide); have := lv_neT (a := 11) c_31 (by decide); omega) (by decide) ?_
  refine lv_lload_n hx hb dX0_shortestForm_227 rfl (lv_at hl 1 rfl) ?_
  refine gsi (As := [.long x9]) (rest := []) ⟨hx, hb, hml, hown, hts⟩ (c_X0_extensionForm l dC dI tk tw _ x9) (va_cwS 1 hts gX0_shortestForm_X0_extensionForm rfl rfl rfl (by decide +kernel) ⟨Nat.le_of_ble_eq_true rfl, Nat.le_of_ble_eq_true rfl⟩) hP hS hA hZ rfl hl.1 rfl (Nat.le_of_ble_eq_true rfl) dX0_shortestForm_228 ⟨Nat.le_of_ble_eq_true rfl, Nat.le_of_ble_eq_true rfl⟩ (fun r_36 H locs hw_35 hP hS => ?_)
  obtain rfl : r_36 = eF x9 5 0 := hw_35
  exact W.iret (v := eF x9 5 0) hx hb hr (fun t ht hW => ⟨⟨eF x9 5 0, (), rfl, (by unfold sF; rw [if_neg c_1, if_neg c_2, if_neg c_3, if_neg c_4, if_neg c_11, if_neg c_18, if_neg c_19, if_neg c_20, if_neg c_24, if_neg c_27, if_neg c_31]), trivial⟩, hS.F ht⟩) hS.2.2 dX0_shortestForm_231
