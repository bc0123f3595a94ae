theorem andB {p : Prop} [Decidable p] {b : Bool} (h : p) (hb : b = true) : (decide p && b) = true := by rw [hb, decide_eq_true h]; rfl
theorem ax_X1_widthOf_1 : ∀ b, b < 256 → ((nI b) = 196) → (1 : Int32) = nI (wd b) := by decide +kernel
theorem ax_X1_widthOf_2 : ∀ b, b < 256 → ((nI b) = 197) → (2 : Int32) = nI (wd b) := by decide +kernel
theorem ax_X1_widthOf_3 : ∀ b, b < 256 → ((nI b) = 198) → (4 : Int32) = nI (wd b) := by decide +kernel
theorem ax_X1_widthOf_4 : ∀ b, b < 256 → ((nI b) = 199) → (1 : Int32) = nI (wd b) := by decide +kernel
theorem ax_X1_widthOf_5 : ∀ b, b < 256 → ((nI b) = 200) → (2 : Int32) = nI (wd b) := by decide +kernel
theorem ax_X1_widthOf_6 : ∀ b, b < 256 → ((nI b) = 201) → (4 : Int32) = nI (wd b) := by decide +kernel
theorem ax_X1_widthOf_7 : ∀ b, b < 256 → ((nI b) = 202) → (4 : Int32) = nI (wd b) := by decide +kernel
theorem ax_X1_widthOf_8 : ∀ b, b < 256 → ((nI b) = 203) → (8 : Int32) = nI (wd b) := by decide +kernel
theorem ax_X1_widthOf_9 : ∀ b, b < 256 → ((nI b) = 204) → (1 : Int32) = nI (wd b) := by decide +kernel
theorem ax_X1_widthOf_10 : ∀ b, b < 256 → ((nI b) = 205) → (2 : Int32) = nI (wd b) := by decide +kernel
theorem ax_X1_widthOf_11 : ∀ b, b < 256 → ((nI b) = 206) → (4 : Int32) = nI (wd b) := by decide +kernel
theorem ax_X1_widthOf_12 : ∀ b, b < 256 → ((nI b) = 207) → (8 : Int32) = nI (wd b) := by decide +kernel
theorem ax_X1_widthOf_13 : ∀ b, b < 256 → ((nI b) = 208) → (1 : Int32) = nI (wd b) := by decide +kernel
theorem ax_X1_widthOf_14 : ∀ b, b < 256 → ((nI b) = 209) → (2 : Int32) = nI (wd b) := by decide +kernel
theorem ax_X1_widthOf_15 : ∀ b, b < 256 → ((nI b) = 210) → (4 : Int32) = nI (wd b) := by decide +kernel
theorem ax_X1_widthOf_16 : ∀ b, b < 256 → ((nI b) = 211) → (8 : Int32) = nI (wd b) := by decide +kernel
theorem ax_X1_widthOf_17 : ∀ b, b < 256 → ((nI b) = 212) → (0 : Int32) = nI (wd b) := by decide +kernel
theorem ax_X1_widthOf_18 : ∀ b, b < 256 → ((nI b) = 213) → (0 : Int32) = nI (wd b) := by decide +kernel
theorem ax_X1_widthOf_19 : ∀ b, b < 256 → ((nI b) = 214) → (0 : Int32) = nI (wd b) := by decide +kernel
theorem ax_X1_widthOf_20 : ∀ b, b < 256 → ((nI b) = 215) → (0 : Int32) = nI (wd b) := by decide +kernel
theorem ax_X1_widthOf_21 : ∀ b, b < 256 → ((nI b) = 216) → (0 : Int32) = nI (wd b) := by decide +kernel
theorem ax_X1_widthOf_22 : ∀ b, b < 256 → ((nI b) = 217) → (1 : Int32) = nI (wd b) := by decide +kernel
theorem ax_X1_widthOf_23 : ∀ b, b < 256 → ((nI b) = 218) → (2 : Int32) = nI (wd b) := by decide +kernel
theorem ax_X1_widthOf_24 : ∀ b, b < 256 → ((nI b) = 219) → (4 : Int32) = nI (wd b) := by decide +kernel
theorem ax_X1_widthOf_25 : ∀ b, b < 256 → ((nI b) = 220) → (2 : Int32) = nI (wd b) := by decide +kernel
theorem ax_X1_widthOf_26 : ∀ b, b < 256 → ((nI b) = 221) → (4 : Int32) = nI (wd b) := by decide +kernel
theorem ax_X1_widthOf_27 : ∀ b, b < 256 → ((nI b) = 222) → (2 : Int32) = nI (wd b) := by decide +kernel
theorem ax_X1_widthOf_28 : ∀ b, b < 256 → ((nI b) = 223) → (4 : Int32) = nI (wd b) := by decide +kernel
theorem ax_X1_widthOf_29 : ∀ b, b < 256 → ([196, 197, 198, 199, 200, 201, 202, 203, 204, 205, 206, 207, 208, 209, 210, 211, 212, 213, 214, 215, 216, 217, 218, 219, 220, 221, 222, 223] : List Int32).all (fun k => decide (¬ nI b = k)) = true → (0 : Int32) = nI (wd b) := by decide +kernel
set_option maxHeartbeats 4000000 in
set_option maxRecDepth 100000 in
theorem c_X1_widthOf (l : Launch) (dC : Nat → ClassId) (dI : Nat → Nat → Nat) (tk tw : Nat) (sz : Nat) (b9 : Nat) (hb9 : b9 < 256) : Met l yX1_widthOf wsX1_widthOf ({ frames := 0, cells := 0, slots := 0, locals := 0 }) (va_Pc [.int (nI b9)] (p0 sz tk tw)) (va_Qi (fun (r : Int32) (_ : Unit) => r = nI (wd b9)) (fun _ _ => True) (va_A [] sz)) 0 0 (va_A [] sz) := by
  refine Met.ofW (cc := cX1_widthOf) (maxL := 1) (ret := (some .int)) (by decide) rfl ?_
  intro p e s m args below meth c s₁ Bd hml hv
  obtain ⟨rfl, hsz, hZ⟩ := hv
  have hx := Bd.exec
  have hb := Bd.bytes
  have hr := Bd.returns
  have hts := atoms_spec (ws := wsX1_widthOf) Bd.pre
  have hown : s.vm.findClass RX1 = some m.cls := findClass_of_methodNamed Bd.named
  have hlocks := Bd.notSynchronized
  subst hsz
  generalize hAe : va_A [] s.heap.size = A at hZ ⊢
  have hA : ∀ q : Nat, s.heap.size ≤ q → A q := fun q h => by rw [← hAe]; exact Or.inr h
  have hS : va_S A s.heap s.heap [] := va_S.rf
  have hP : va_P (dC, dI) vwCl [] s.heap := fun k q h => by simp at h
  have hl := lv_entry ([.int (nI b9)]) (n := 1) (Nat.le_of_ble_eq_true rfl)
  rw [lg_entry_eq]
  generalize (lg_sl ([.int (nI b9)]) ++ List.replicate (1 - (lg_sl ([.int (nI b9)])).length) Slot.unset).toArray = ls at hl ⊢
  have hl : lv_has ls 1 [(0, .int (nI b9))] := hl
  refine lv_iload_n hx hb dX1_widthOf_0 rfl (lv_at hl 0 rfl) ?_
  by_cases c_1 : (nI b9) = 196
  · skip
    refine lv_tableIn (tgt := 128) hx hb dX1_widthOf_1 (by rw [c_1]; decide) (by rw [c_1]; decide) (by rw [c_1] <;> rfl) (by decide) ?_
    refine lv_iconst (v := 1) hx hb dX1_widthOf_128 (by decide) ?_
    exact W.iret (v := 1) hx hb hr (fun t ht hW => ⟨⟨1, (), rfl, (ax_X1_widthOf_1 b9 hb9 c_1), trivial⟩, hS.F ht⟩) hS.2.2 dX1_widthOf_129
  by_cases c_2 : (nI b9) = 197
  · skip
    refine lv_tableIn (tgt := 130) hx hb dX1_widthOf_1 (by rw [c_2]; decide) (by rw [c_2]; decide) (by rw [c_2] <;> rfl) (by decide) ?_
    refine lv_iconst (v := 2) hx hb dX1_widthOf_130 (by decide) ?_
    exact W.iret (v := 2) hx hb hr (fun t ht hW => ⟨⟨2, (), rfl, (ax_X1_widthOf_2 b9 hb9 c_2), trivial⟩, hS.F ht⟩) hS.2.2 dX1_widthOf_131
  by_cases c_3 : (nI b9) = 198
  · skip
    refine lv_tableIn (tgt := 132) hx hb dX1_widthOf_1 (by rw [c_3]; decide) (by rw [c_3]; decide) (by rw [c_3] <;> rfl) (by decide) ?_
    refine lv_iconst (v := 4) hx hb dX1_widthOf_132 (by decide) ?_
    exact W.iret (v := 4) hx hb hr (fun t ht hW => ⟨⟨4, (), rfl, (ax_X1_widthOf_3 b9 hb9 c_3), trivial⟩, hS.F ht⟩) hS.2.2 dX1_widthOf_133
  by_cases c_4 : (nI b9) = 199
  · skip
    refine lv_tableIn (tgt := 128) hx hb dX1_widthOf_1 (by rw [c_4]; decide) (by rw [c_4]; decide) (by rw [c_4] <;> rfl) (by decide) ?_
    refine lv_iconst (v := 1) hx hb dX1_widthOf_128 (by decide) ?_
    exact W.iret (v := 1) hx hb hr (fun t ht hW => ⟨⟨1, (), rfl, (ax_X1_widthOf_4 b9 hb9 c_4), trivial⟩, hS.F ht⟩) hS.2.2 dX1_widthOf_129
  by_cases c_5 : (nI b9) = 200
  · skip
    refine lv_tableIn (tgt := 130) hx hb dX1_widthOf_1 (by rw [c_5]; decide) (by rw [c_5]; decide) (by rw [c_5] <;> rfl) (by decide) ?_
    refine lv_iconst (v := 2) hx hb dX1_widthOf_130 (by decide) ?_
    exact W.iret (v := 2) hx hb hr (fun t ht hW => ⟨⟨2, (), rfl, (ax_X1_widthOf_5 b9 hb9 c_5), trivial⟩, hS.F ht⟩) hS.2.2 dX1_widthOf_131
  by_cases c_6 : (nI b9) = 201
  · skip
    refine lv_tableIn (tgt := 132) hx hb dX1_widthOf_1 (by rw [c_6]; decide) (by rw [c_6]; decide) (by rw [c_6] <;> rfl) (by decide) ?_
    refine lv_iconst (v := 4) hx hb dX1_widthOf_132 (by decide) ?_
    exact W.iret (v := 4) hx hb hr (fun t ht hW => ⟨⟨4, (), rfl, (ax_X1_widthOf_6 b9 hb9 c_6), trivial⟩, hS.F ht⟩) hS.2.2 dX1_widthOf_133
  by_cases c_7 : (nI b9) = 202
  · skip
    refine lv_tableIn (tgt := 132) hx hb dX1_widthOf_1 (by rw [c_7]; decide) (by rw [c_7]; decide) (by rw [c_7] <;> rfl) (by decide) ?_
    refine lv_iconst (v := 4) hx hb dX1_widthOf_132 (by decide) ?_
    exact W.iret (v := 4) hx hb hr (fun t ht hW => ⟨⟨4, (), rfl, (ax_X1_widthOf_7 b9 hb9 c_7), trivial⟩, hS.F ht⟩) hS.2.2 dX1_widthOf_133
  by_cases c_8 : (nI b9) = 203
  · skip
    refine lv_tableIn (tgt := 134) hx hb dX1_widthOf_1 (by rw [c_8]; decide) (by rw [c_8]; decide) (by rw [c_8] <;> rfl) (by decide) ?_
    refine lv_bipush (v := 8) hx hb dX1_widthOf_134 (by decide) ?_
    exact W.iret (v := 8) hx hb hr (fun t ht hW => ⟨⟨8, (), rfl, (ax_X1_widthOf_8 b9 hb9 c_8), trivial⟩, hS.F ht⟩) hS.2.2 dX1_widthOf_136
  by_cases c_9 : (nI b9) = 204
  · skip
    refine lv_tableIn (tgt := 128) hx hb dX1_widthOf_1 (by rw [c_9]; decide) (by rw [c_9]; decide) (by rw [c_9] <;> rfl) (by decide) ?_
    refine lv_iconst (v := 1) hx hb dX1_widthOf_128 (by decide) ?_
    exact W.iret (v := 1) hx hb hr (fun t ht hW => ⟨⟨1, (), rfl, (ax_X1_widthOf_9 b9 hb9 c_9), trivial⟩, hS.F ht⟩) hS.2.2 dX1_widthOf_129
  by_cases c_10 : (nI b9) = 205
  · skip
    refine lv_tableIn (tgt := 130) hx hb dX1_widthOf_1 (by rw [c_10]; decide) (by rw [c_10]; decide) (by rw [c_10] <;> rfl) (by decide) ?_
    refine lv_iconst (v := 2) hx hb dX1_widthOf_130 (by decide) ?_
    exact W.iret (v := 2) hx hb hr (fun t ht hW => ⟨⟨2, (), rfl, (ax_X1_widthOf_10 b9 hb9 c_10), trivial⟩, hS.F ht⟩) hS.2.2 dX1_widthOf_131
  by_cases c_11 : (nI b9) = 206
  · skip
    refine lv_tableIn (tgt := 132) hx hb dX1_widthOf_1 (by rw [c_11]; decide) (by rw [c_11]; decide) (by rw [c_11] <;> rfl) (by decide) ?_
    refine lv_iconst (v := 4) hx hb dX1_widthOf_132 (by decide) ?_
    exact W.iret (v := 4) hx hb hr (fun t ht hW => ⟨⟨4, (), rfl, (ax_X1_widthOf_11 b9 hb9 c_11), trivial⟩, hS.F ht⟩) hS.2.2 dX1_widthOf_133
  by_cases c_12 : (nI b9) = 207
  · skip
    refine lv_tableIn (tgt := 134) hx hb dX1_widthOf_1 (by rw [c_12]; decide) (by rw [c_12]; decide) (by rw [c_12] <;> rfl) (by decide) ?_
    refine lv_bipush (v := 8) hx hb dX1_widthOf_134 (by decide) ?_
    exact W.iret (v := 8) hx hb hr (fun t ht hW => ⟨⟨8, (), rfl, (ax_X1_widthOf_12 b9 hb9 c_12), trivial⟩, hS.F ht⟩) hS.2.2 dX1_widthOf_136
  by_cases c_13 : (nI b9) = 208
  · skip
    refine lv_tableIn (tgt := 128) hx hb dX1_widthOf_1 (by rw [c_13]; decide) (by rw [c_13]; decide) (by rw [c_13] <;> rfl) (by decide) ?_
    refine lv_iconst (v := 1) hx hb dX1_widthOf_128 (by decide) ?_
    exact W.iret (v := 1) hx hb hr (fun t ht hW => ⟨⟨1, (), rfl, (ax_X1_widthOf_13 b9 hb9 c_13), trivial⟩, hS.F ht⟩) hS.2.2 dX1_widthOf_129
  by_cases c_14 : (nI b9) = 209
  · skip
    refine lv_tableIn (tgt := 130) hx hb dX1_widthOf_1 (by rw [c_14]; decide) (by rw [c_14]; decide) (by rw [c_14] <;> rfl) (by decide) ?_
    refine lv_iconst (v := 2) hx hb dX1_widthOf_130 (by decide) ?_
    exact W.iret (v := 2) hx hb hr (fun t ht hW => ⟨⟨2, (), rfl, (ax_X1_widthOf_14 b9 hb9 c_14), trivial⟩, hS.F ht⟩) hS.2.2 dX1_widthOf_131
  by_cases c_15 : (nI b9) = 210
  · skip
    refine lv_tableIn (tgt := 132) hx hb dX1_widthOf_1 (by rw [c_15]; decide) (by rw [c_15]; decide) (by rw [c_15] <;> rfl) (by decide) ?_
    refine lv_iconst (v := 4) hx hb dX1_widthOf_132 (by decide) ?_
    exact W.iret (v := 4) hx hb hr (fun t ht hW => ⟨⟨4, (), rfl, (ax_X1_widthOf_15 b9 hb9 c_15), trivial⟩, hS.F ht⟩) hS.2.2 dX1_widthOf_133
  by_cases c_16 : (nI b9) = 211
  · skip
    refine lv_tableIn (tgt := 134) hx hb dX1_widthOf_1 (by rw [c_16]; decide) (by rw [c_16]; decide) (by rw [c_16] <;> rfl) (by decide) ?_
    refine lv_bipush (v := 8) hx hb dX1_widthOf_134 (by decide) ?_
    exact W.iret (v := 8) hx hb hr (fun t ht hW => ⟨⟨8, (), rfl, (ax_X1_widthOf_16 b9 hb9 c_16), trivial⟩, hS.F ht⟩) hS.2.2 dX1_widthOf_136
  by_cases c_17 : (nI b9) = 212
  · skip
    refine lv_tableIn (tgt := 137) hx hb dX1_widthOf_1 (by rw [c_17]; decide) (by rw [c_17]; decide) (by rw [c_17] <;> rfl) (by decide) ?_
    refine lv_iconst (v := 0) hx hb dX1_widthOf_137 (by decide) ?_
    exact W.iret (v := 0) hx hb hr (fun t ht hW => ⟨⟨0, (), rfl, (ax_X1_widthOf_17 b9 hb9 c_17), trivial⟩, hS.F ht⟩) hS.2.2 dX1_widthOf_138
  by_cases c_18 : (nI b9) = 213
  · skip
    refine lv_tableIn (tgt := 137) hx hb dX1_widthOf_1 (by rw [c_18]; decide) (by rw [c_18]; decide) (by rw [c_18] <;> rfl) (by decide) ?_
    refine lv_iconst (v := 0) hx hb dX1_widthOf_137 (by decide) ?_
    exact W.iret (v := 0) hx hb hr (fun t ht hW => ⟨⟨0, (), rfl, (ax_X1_widthOf_18 b9 hb9 c_18), trivial⟩, hS.F ht⟩) hS.2.2 dX1_widthOf_138
  by_cases c_19 : (nI b9) = 214
  · skip
    refine lv_tableIn (tgt := 137) hx hb dX1_widthOf_1 (by rw [c_19]; decide) (by rw [c_19]; decide) (by rw [c_19] <;> rfl) (by decide) ?_
    refine lv_iconst (v := 0) hx hb dX1_widthOf_137 (by decide) ?_
    exact W.iret (v := 0) hx hb hr (fun t ht hW => ⟨⟨0, (), rfl, (ax_X1_widthOf_19 b9 hb9 c_19), trivial⟩, hS.F ht⟩) hS.2.2 dX1_widthOf_138
  by_cases c_20 : (nI b9) = 215
  · skip
    refine lv_tableIn (tgt := 137) hx hb dX1_widthOf_1 (by rw [c_20]; decide) (by rw [c_20]; decide) (by rw [c_20] <;> rfl) (by decide) ?_
    refine lv_iconst (v := 0) hx hb dX1_widthOf_137 (by decide) ?_
    exact W.iret (v := 0) hx hb hr (fun t ht hW => ⟨⟨0, (), rfl, (ax_X1_widthOf_20 b9 hb9 c_20), trivial⟩, hS.F ht⟩) hS.2.2 dX1_widthOf_138
  by_cases c_21 : (nI b9) = 216
  · skip
    refine lv_tableIn (tgt := 137) hx hb dX1_widthOf_1 (by rw [c_21]; decide) (by rw [c_21]; decide) (by rw [c_21] <;> rfl) (by decide) ?_
    refine lv_iconst (v := 0) hx hb dX1_widthOf_137 (by decide) ?_
    exact W.iret (v := 0) hx hb hr (fun t ht hW => ⟨⟨0, (), rfl, (ax_X1_widthOf_21 b9 hb9 c_21), trivial⟩, hS.F ht⟩) hS.2.2 dX1_widthOf_138
  by_cases c_22 : (nI b9) = 217
  · skip
    refine lv_tableIn (tgt := 128) hx hb dX1_widthOf_1 (by rw [c_22]; decide) (by rw [c_22]; decide) (by rw [c_22] <;> rfl) (by decide) ?_
    refine lv_iconst (v := 1) hx hb dX1_widthOf_128 (by decide) ?_
    exact W.iret (v := 1) hx hb hr (fun t ht hW => ⟨⟨1, (), rfl, (ax_X1_widthOf_22 b9 hb9 c_22), trivial⟩, hS.F ht⟩) hS.2.2 dX1_widthOf_129
  by_cases c_23 : (nI b9) = 218
  · skip
    refine lv_tableIn (tgt := 130) hx hb dX1_widthOf_1 (by rw [c_23]; decide) (by rw [c_23]; decide) (by rw [c_23] <;> rfl) (by decide) ?_
    refine lv_iconst (v := 2) hx hb dX1_widthOf_130 (by decide) ?_
    exact W.iret (v := 2) hx hb hr (fun t ht hW => ⟨⟨2, (), rfl, (ax_X1_widthOf_23 b9 hb9 c_23), trivial⟩, hS.F ht⟩) hS.2.2 dX1_widthOf_131
  by_cases c_24 : (nI b9) = 219
  · skip
    refine lv_tableIn (tgt := 132) hx hb dX1_widthOf_1 (by rw [c_24]; decide) (by rw [c_24]; decide) (by rw [c_24] <;> rfl) (by decide) ?_
    refine lv_iconst (v := 4) hx hb dX1_widthOf_132 (by decide) ?_
    exact W.iret (v := 4) hx hb hr (fun t ht hW => ⟨⟨4, (), rfl, (ax_X1_widthOf_24 b9 hb9 c_24), trivial⟩, hS.F ht⟩) hS.2.2 dX1_widthOf_133
  by_cases c_25 : (nI b9) = 220
  · skip
    refine lv_tableIn (tgt := 130) hx hb dX1_widthOf_1 (by rw [c_25]; decide) (by rw [c_25]; decide) (by rw [c_25] <;> rfl) (by decide) ?_
    refine lv_iconst (v := 2) hx hb dX1_widthOf_130 (by decide) ?_
    exact W.iret (v := 2) hx hb hr (fun t ht hW => ⟨⟨2, (), rfl, (ax_X1_widthOf_25 b9 hb9 c_25), trivial⟩, hS.F ht⟩) hS.2.2 dX1_widthOf_131
  by_cases c_26 : (nI b9) = 221
  · skip
    refine lv_tableIn (tgt := 132) hx hb dX1_widthOf_1 (by rw [c_26]; decide) (by rw [c_26]; decide) (by rw [c_26] <;> rfl) (by decide) ?_
    refine lv_iconst (v := 4) hx hb dX1_widthOf_132 (by decide) ?_
    exact W.iret (v := 4) hx hb hr (fun t ht hW => ⟨⟨4, (), rfl, (ax_X1_widthOf_26 b9 hb9 c_26), trivial⟩, hS.F ht⟩) hS.2.2 dX1_widthOf_133
  by_cases c_27 : (nI b9) = 222
  · skip
    refine lv_tableIn (tgt := 130) hx hb dX1_widthOf_1 (by rw [c_27]; decide) (by rw [c_27]; decide) (by rw [c_27] <;> rfl) (by decide) ?_
    refine lv_iconst (v := 2) hx hb dX1_widthOf_130 (by decide) ?_
    exact W.iret (v := 2) hx hb hr (fun t ht hW => ⟨⟨2, (), rfl, (ax_X1_widthOf_27 b9 hb9 c_27), trivial⟩, hS.F ht⟩) hS.2.2 dX1_widthOf_131
  by_cases c_28 : (nI b9) = 223
  · skip
    refine lv_tableIn (tgt := 132) hx hb dX1_widthOf_1 (by rw [c_28]; decide) (by rw [c_28]; decide) (by rw [c_28] <;> rfl) (by decide) ?_
    refine lv_iconst (v := 4) hx hb dX1_widthOf_132 (by decide) ?_
    exact W.iret (v := 4) hx hb hr (fun t ht hW => ⟨⟨4, (), rfl, (ax_X1_widthOf_28 b9 hb9 c_28), trivial⟩, hS.F ht⟩) hS.2.2 dX1_widthOf_133
  refine lv_tableOut (tgt := 137) hx hb dX1_widthOf_1 (by have := lv_neT (a := 196) c_1 (by decide); have := lv_neT (a := 197) c_2 (by decide); have := lv_neT (a := 198) c_3 (by decide); have := lv_neT (a := 199) c_4 (by decide); have := lv_neT (a := 200) c_5 (by decide); have := lv_neT (a := 201) c_6 (by decide); have := lv_neT (a := 202) c_7 (by decide); have := lv_neT (a := 203) c_8 (by decide); have := lv_neT (a := 204) c_9 (by decide); have := lv_neT (a := 205) c_10 (by decide); have := lv_neT (a := 206) c_11 (by decide); have := lv_neT (a := 207) c_12 (by decide); have := lv_neT (a := 208) c_13 (by decide); have := lv_neT (a := 209) c_14 (by decide); have := lv_neT (a := 210) c_15 (by decide); have := lv_neT (a := 211) c_16 (by decide); have := lv_neT (a := 212) c_17 (by decide); have := lv_neT (a := 213) c_18 (by decide); have := lv_neT (a := 214) c_19 (by decide); have := lv_neT (a := 215) c_20 (by decide); have := lv_neT (a := 216) c_21 (by decide); have := lv_neT (a := 217) c_22 (by decide); have := lv_neT (a := 218) c_23 (by decide); have := lv_neT (a := 219) c_24 (by decide); have := lv_neT (a := 220) c_25 (by decide); have := lv_neT (a := 221) c_26 (by decide); have := lv_neT (a := 222) c_27 (by decide); have := lv_neT (a := 223) c_28 (by decide); omega) (by decide) ?_
  refine lv_iconst (v := 0) hx hb dX1_widthOf_137 (by decide) ?_
  exact W.iret (v := 0) hx hb hr (fun t ht hW => ⟨⟨0, (), rfl, (ax_X1_widthOf_29 b9 hb9  (by simp [c_1, c_2, c_3, c_4, c_5, c_6, c_7, c_8, c_9, c_10, c_11, c_12, c_13, c_14, c_15, c_16, c_17, c_18, c_19, c_20, c_21, c_22, c_23, c_24, c_25, c_26, c_27, c_28])), trivial⟩, hS.F ht⟩) hS.2.2 dX1_widthOf_138
theorem ax_X1_kindOf_1 : ∀ b, b < 256 → ¬ b = 193 → ((nI b) = 192) → (1 : Int32) = nI (kd b) := by decide +kernel
theorem ax_X1_kindOf_2 : ∀ b, b < 256 → ¬ b = 193 → ((nI b) = 193) → (12 : Int32) = nI (kd b) := by decide +kernel
theorem ax_X1_kindOf_3 : ∀ b, b < 256 → ¬ b = 193 → ((nI b) = 194) → (2 : Int32) = nI (kd b) := by decide +kernel
theorem ax_X1_kindOf_4 : ∀ b, b < 256 → ¬ b = 193 → ((nI b) = 195) → (3 : Int32) = nI (kd b) := by decide +kernel
theorem ax_X1_kindOf_5 : ∀ b, b < 256 → ¬ b = 193 → ((nI b) = 196) → (9 : Int32) = nI (kd b) := by decide +kernel
theorem ax_X1_kindOf_6 : ∀ b, b < 256 → ¬ b = 193 → ((nI b) = 197) → (9 : Int32) = nI (kd b) := by decide +kernel
theorem ax_X1_kindOf_7 : ∀ b, b < 256 → ¬ b = 193 → ((nI b) = 198) → (9 : Int32) = nI (kd b) := by decide +kernel
theorem ax_X1_kindOf_8 : ∀ b, b < 256 → ¬ b = 193 → ((nI b) = 199) → (12 : Int32) = nI (kd b) := by decide +kernel
theorem ax_X1_kindOf_9 : ∀ b, b < 256 → ¬ b = 193 → ((nI b) = 200) → (12 : Int32) = nI (kd b) := by decide +kernel
theorem ax_X1_kindOf_10 : ∀ b, b < 256 → ¬ b = 193 → ((nI b) = 201) → (12 : Int32) = nI (kd b) := by decide +kernel
theorem ax_X1_kindOf_11 : ∀ b, b < 256 → ¬ b = 193 → ((nI b) = 202) → (6 : Int32) = nI (kd b) := by decide +kernel
theorem ax_X1_kindOf_12 : ∀ b, b < 256 → ¬ b = 193 → ((nI b) = 203) → (7 : Int32) = nI (kd b) := by decide +kernel
theorem ax_X1_kindOf_13 : ∀ b, b < 256 → ¬ b = 193 → ((nI b) = 204) → (4 : Int32) = nI (kd b) := by decide +kernel
theorem ax_X1_kindOf_14 : ∀ b, b < 256 → ¬ b = 193 → ((nI b) = 205) → (4 : Int32) = nI (kd b) := by decide +kernel
theorem ax_X1_kindOf_15 : ∀ b, b < 256 → ¬ b = 193 → ((nI b) = 206) → (4 : Int32) = nI (kd b) := by decide +kernel
theorem ax_X1_kindOf_16 : ∀ b, b < 256 → ¬ b = 193 → ((nI b) = 207) → (4 : Int32) = nI (kd b) := by decide +kernel
theorem ax_X1_kindOf_17 : ∀ b, b < 256 → ¬ b = 193 → ((nI b) = 208) → (5 : Int32) = nI (kd b) := by decide +kernel
theorem ax_X1_kindOf_18 : ∀ b, b < 256 → ¬ b = 193 → ((nI b) = 209) → (5 : Int32) = nI (kd b) := by decide +kernel
theorem ax_X1_kindOf_19 : ∀ b, b < 256 → ¬ b = 193 → ((nI b) = 210) → (5 : Int32) = nI (kd b) := by decide +kernel
theorem ax_X1_kindOf_20 : ∀ b, b < 256 → ¬ b = 193 → ((nI b) = 211) → (5 : Int32) = nI (kd b) := by decide +kernel
theorem ax_X1_kindOf_21 : ∀ b, b < 256 → ¬ b = 193 → ((nI b) = 212) → (12 : Int32) = nI (kd b) := by decide +kernel
theorem ax_X1_kindOf_22 : ∀ b, b < 256 → ¬ b = 193 → ((nI b) = 213) → (12 : Int32) = nI (kd b) := by decide +kernel
theorem ax_X1_kindOf_23 : ∀ b, b < 256 → ¬ b = 193 → ((nI b) = 214) → (12 : Int32) = nI (kd b) := by decide +kernel
theorem ax_X1_kindOf_24 : ∀ b, b < 256 → ¬ b = 193 → ((nI b) = 215) → (12 : Int32) = nI (kd b) := by decide +kernel
theorem ax_X1_kindOf_25 : ∀ b, b < 256 → ¬ b = 193 → ((nI b) = 216) → (12 : Int32) = nI (kd b) := by decide +kernel
theorem ax_X1_kindOf_26 : ∀ b, b < 256 → ¬ b = 193 → ((nI b) = 217) → (8 : Int32) = nI (kd b) := by decide +kernel
theorem ax_X1_kindOf_27 : ∀ b, b < 256 → ¬ b = 193 → ((nI b) = 218) → (8 : Int32) = nI (kd b) := by decide +kernel
theorem ax_X1_kindOf_28 : ∀ b, b < 256 → ¬ b = 193 → ((nI b) = 219) → (8 : Int32) = nI (kd b) := by decide +kernel
theorem ax_X1_kindOf_29 : ∀ b, b < 256 → ¬ b = 193 → ((nI b) = 220) → (10 : Int32) = nI (kd b) := by decide +kernel
theorem ax_X1_kindOf_30 : ∀ b, b < 256 → ¬ b = 193 → ((nI b) = 221) → (10 : Int32) = nI (kd b) := by decide +kernel
theorem ax_X1_kindOf_31 : ∀ b, b < 256 → ¬ b = 193 → ((nI b) = 222) → (11 : Int32) = nI (kd b) := by decide +kernel
theorem ax_X1_kindOf_32 : ∀ b, b < 256 → ¬ b = 193 → ((nI b) = 223) → (11 : Int32) = nI (kd b) := by decide +kernel
theorem ax_X1_kindOf_33 : ∀ b, b < 256 → ¬ b = 193 → (decide (((128 : Int32) ≤ (nI b))) && (decide (((144 : Int32) ≤ (nI b))) && (decide (((160 : Int32) ≤ (nI b))) && (decide (((192 : Int32) ≤ (nI b))) && (decide (((nI b) ≤ (223 : Int32)))))))) = true → ([192, 193, 194, 195, 196, 197, 198, 199, 200, 201, 202, 203, 204, 205, 206, 207, 208, 209, 210, 211, 212, 213, 214, 215, 216, 217, 218, 219, 220, 221, 222, 223] : List Int32).all (fun k => decide (¬ nI b = k)) = true → (12 : Int32) = nI (kd b) := by decide +kernel
theorem ax_X1_kindOf_34 : ∀ b, b < 256 → ¬ b = 193 → (decide (((128 : Int32) ≤ (nI b))) && (decide (((144 : Int32) ≤ (nI b))) && (decide (((160 : Int32) ≤ (nI b))) && (decide (((192 : Int32) ≤ (nI b))) && (decide (¬ ((nI b) ≤ (223 : Int32)))))))) = true → (5 : Int32) = nI (kd b) := by decide +kernel
theorem ax_X1_kindOf_35 : ∀ b, b < 256 → ¬ b = 193 → (decide (((128 : Int32) ≤ (nI b))) && (decide (((144 : Int32) ≤ (nI b))) && (decide (((160 : Int32) ≤ (nI b))) && (decide (¬ ((192 : Int32) ≤ (nI b))))))) = true → (8 : Int32) = nI (kd b) := by decide +kernel
theorem ax_X1_kindOf_36 : ∀ b, b < 256 → ¬ b = 193 → (decide (((128 : Int32) ≤ (nI b))) && (decide (((144 : Int32) ≤ (nI b))) && (decide (¬ ((160 : Int32) ≤ (nI b)))))) = true → (10 : Int32) = nI (kd b) := by decide +kernel
theorem ax_X1_kindOf_37 : ∀ b, b < 256 → ¬ b = 193 → ((128 : Int32) ≤ (nI b)) → ¬ ((144 : Int32) ≤ (nI b)) → (11 : Int32) = nI (kd b) := by decide +kernel
theorem ax_X1_kindOf_38 : ∀ b, b < 256 → ¬ b = 193 → ¬ ((128 : Int32) ≤ (nI b)) → (4 : Int32) = nI (kd b) := by decide +kernel
set_option maxHeartbeats 4000000 in
set_option maxRecDepth 100000 in
theorem c_X1_kindOf (l : Launch) (dC : Nat → ClassId) (dI : Nat → Nat → Nat) (tk tw : Nat) (sz : Nat) (b9 : Nat) (hb9 : b9 < 256) (hn9 : ¬ b9 = 193) : Met l yX1_kindOf wsX1_kindOf ({ frames := 0, cells := 0, slots := 0, locals := 0 }) (va_Pc [.int (nI b9)] (p0 sz tk tw)) (va_Qi (fun (r : Int32) (_ : Unit) => r = nI (kd b9)) (fun _ _ => True) (va_A [] sz)) 0 0 (va_A [] sz) := by
  refine Met.ofW (cc := cX1_kindOf) (maxL := 1) (ret := (some .int)) (by decide) rfl ?_
  intro p e s m args below meth c s₁ Bd hml hv
  obtain ⟨rfl, hsz, hZ⟩ := hv
  have hx := Bd.exec
  have hb := Bd.bytes
  have hr := Bd.returns
  have hts := atoms_spec (ws := wsX1_kindOf) Bd.pre
  have hown : s.vm.findClass RX1 = some m.cls := findClass_of_methodNamed Bd.named
  have hlocks := Bd.notSynchronized
  subst hsz
  generalize hAe : va_A [] s.heap.size = A at hZ ⊢
  have hA : ∀ q : Nat, s.heap.size ≤ q → A q := fun q h => by rw [← hAe]; exact Or.inr h
  have hS : va_S A s.heap s.heap [] := va_S.rf
  have hP : va_P (dC, dI) vwCl [] s.heap := fun k q h => by simp at h
  have hl := lv_entry ([.int (nI b9)]) (n := 1) (Nat.le_of_ble_eq_true rfl)
  rw [lg_entry_eq]
  generalize (lg_sl ([.int (nI b9)]) ++ List.replicate (1 - (lg_sl ([.int (nI b9)])).length) Slot.unset).toArray = ls at hl ⊢
  have hl : lv_has ls 1 [(0, .int (nI b9))] := hl
  refine lv_iload_n hx hb dX1_kindOf_0 rfl (lv_at hl 0 rfl) ?_
  refine lv_sipush (v := 128) hx hb dX1_kindOf_1 (by decide) ?_
  refine lv_icmp_ge (tgt := 9) hx hb dX1_kindOf_4 (by decide) (fun c_1 => ?_) (fun c_1 => ?_)
  · skip
    refine lv_iload_n hx hb dX1_kindOf_9 rfl (lv_at hl 0 rfl) ?_
    refine lv_sipush (v := 144) hx hb dX1_kindOf_10 (by decide) ?_
    refine lv_icmp_ge (tgt := 19) hx hb dX1_kindOf_13 (by decide) (fun c_2 => ?_) (fun c_2 => ?_)
    · skip
      refine lv_iload_n hx hb dX1_kindOf_19 rfl (lv_at hl 0 rfl) ?_
      refine lv_sipush (v := 160) hx hb dX1_kindOf_20 (by decide) ?_
      refine lv_icmp_ge (tgt := 29) hx hb dX1_kindOf_23 (by decide) (fun c_3 => ?_) (fun c_3 => ?_)
      · skip
        refine lv_iload_n hx hb dX1_kindOf_29 rfl (lv_at hl 0 rfl) ?_
        refine lv_sipush (v := 192) hx hb dX1_kindOf_30 (by decide) ?_
        refine lv_icmp_ge (tgt := 39) hx hb dX1_kindOf_33 (by decide) (fun c_4 => ?_) (fun c_4 => ?_)
        · skip
          refine lv_iload_n hx hb dX1_kindOf_39 rfl (lv_at hl 0 rfl) ?_
          refine lv_sipush (v := 223) hx hb dX1_kindOf_40 (by decide) ?_
          refine lv_icmp_le (tgt := 48) hx hb dX1_kindOf_43 (by decide) (fun c_5 => ?_) (fun c_5 => ?_)
          · skip
            refine lv_iload_n hx hb dX1_kindOf_48 rfl (lv_at hl 0 rfl) ?_
            by_cases c_6 : (nI b9) = 192
            · skip
              refine lv_tableIn (tgt := 192) hx hb dX1_kindOf_49 (by rw [c_6]; decide) (by rw [c_6]; decide) (by rw [c_6] <;> rfl) (by decide) ?_
              refine lv_iconst (v := 1) hx hb dX1_kindOf_192 (by decide) ?_
              exact W.iret (v := 1) hx hb hr (fun t ht hW => ⟨⟨1, (), rfl, (ax_X1_kindOf_1 b9 hb9 hn9 c_6), trivial⟩, hS.F ht⟩) hS.2.2 dX1_kindOf_193
            by_cases c_7 : (nI b9) = 193
            · skip
              refine lv_tableIn (tgt := 220) hx hb dX1_kindOf_49 (by rw [c_7]; decide) (by rw [c_7]; decide) (by rw [c_7] <;> rfl) (by decide) ?_
              refine lv_bipush (v := 12) hx hb dX1_kindOf_220 (by decide) ?_
              exact W.iret (v := 12) hx hb hr (fun t ht hW => ⟨⟨12, (), rfl, (ax_X1_kindOf_2 b9 hb9 hn9 c_7), trivial⟩, hS.F ht⟩) hS.2.2 dX1_kindOf_222
            by_cases c_8 : (nI b9) = 194
            · skip
              refine lv_tableIn (tgt := 194) hx hb dX1_kindOf_49 (by rw [c_8]; decide) (by rw [c_8]; decide) (by rw [c_8] <;> rfl) (by decide) ?_
              refine lv_iconst (v := 2) hx hb dX1_kindOf_194 (by decide) ?_
              exact W.iret (v := 2) hx hb hr (fun t ht hW => ⟨⟨2, (), rfl, (ax_X1_kindOf_3 b9 hb9 hn9 c_8), trivial⟩, hS.F ht⟩) hS.2.2 dX1_kindOf_195
            by_cases c_9 : (nI b9) = 195
            · skip
              refine lv_tableIn (tgt := 196) hx hb dX1_kindOf_49 (by rw [c_9]; decide) (by rw [c_9]; decide) (by rw [c_9] <;> rfl) (by decide) ?_
              refine lv_iconst (v := 3) hx hb dX1_kindOf_196 (by decide) ?_
              exact W.iret (v := 3) hx hb hr (fun t ht hW => ⟨⟨3, (), rfl, (ax_X1_kindOf_4 b9 hb9 hn9 c_9), trivial⟩, hS.F ht⟩) hS.2.2 dX1_kindOf_197
            by_cases c_10 : (nI b9) = 196
            · skip
              refine lv_tableIn (tgt := 198) hx hb dX1_kindOf_49 (by rw [c_10]; decide) (by rw [c_10]; decide) (by rw [c_10] <;> rfl) (by decide) ?_
              refine lv_bipush (v := 9) hx hb dX1_kindOf_198 (by decide) ?_
              exact W.iret (v := 9) hx hb hr (fun t ht hW => ⟨⟨9, (), rfl, (ax_X1_kindOf_5 b9 hb9 hn9 c_10), trivial⟩, hS.F ht⟩) hS.2.2 dX1_kindOf_200
            by_cases c_11 : (nI b9) = 197
            · skip
              refine lv_tableIn (tgt := 198) hx hb dX1_kindOf_49 (by rw [c_11]; decide) (by rw [c_11]; decide) (by rw [c_11] <;> rfl) (by decide) ?_
              refine lv_bipush (v := 9) hx hb dX1_kindOf_198 (by decide) ?_
              exact W.iret (v := 9) hx hb hr (fun t ht hW => ⟨⟨9, (), rfl, (ax_X1_kindOf_6 b9 hb9 hn9 c_11), trivial⟩, hS.F ht⟩) hS.2.2 dX1_kindOf_200
            by_cases c_12 : (nI b9) = 198
            · skip
              refine lv_tableIn (tgt := 198) hx hb dX1_kindOf_49 (by rw [c_12]; decide) (by rw [c_12]; decide) (by rw [c_12] <;> rfl) (by decide) ?_
              refine lv_bipush (v := 9) hx hb dX1_kindOf_198 (by decide) ?_
              exact W.iret (v := 9) hx hb hr (fun t ht hW => ⟨⟨9, (), rfl, (ax_X1_kindOf_7 b9 hb9 hn9 c_12), trivial⟩, hS.F ht⟩) hS.2.2 dX1_kindOf_200
            by_cases c_13 : (nI b9) = 199
            · skip
              refine lv_tableIn (tgt := 220) hx hb dX1_kindOf_49 (by rw [c_13]; decide) (by rw [c_13]; decide) (by rw [c_13] <;> rfl) (by decide) ?_
              refine lv_bipush (v := 12) hx hb dX1_kindOf_220 (by decide) ?_
              exact W.iret (v := 12) hx hb hr (fun t ht hW => ⟨⟨12, (), rfl, (ax_X1_kindOf_8 b9 hb9 hn9 c_13), trivial⟩, hS.F ht⟩) hS.2.2 dX1_kindOf_222
            by_cases c_14 : (nI b9) = 200
            · skip
              refine lv_tableIn (tgt := 220) hx hb dX1_kindOf_49 (by rw [c_14]; decide) (by rw [c_14]; decide) (by rw [c_14] <;> rfl) (by decide) ?_
              refine lv_bipush (v := 12) hx hb dX1_kindOf_220 (by decide) ?_
              exact W.iret (v := 12) hx hb hr (fun t ht hW => ⟨⟨12, (), rfl, (ax_X1_kindOf_9 b9 hb9 hn9 c_14), trivial⟩, hS.F ht⟩) hS.2.2 dX1_kindOf_222
            by_cases c_15 : (nI b9) = 201
            · skip
              refine lv_tableIn (tgt := 220) hx hb dX1_kindOf_49 (by rw [c_15]; decide) (by rw [c_15]; decide) (by rw [c_15] <;> rfl) (by decide) ?_
              refine lv_bipush (v := 12) hx hb dX1_kindOf_220 (by decide) ?_
              exact W.iret (v := 12) hx hb hr (fun t ht hW => ⟨⟨12, (), rfl, (ax_X1_kindOf_10 b9 hb9 hn9 c_15), trivial⟩, hS.F ht⟩) hS.2.2 dX1_kindOf_222
            by_cases c_16 : (nI b9) = 202
            · skip
              refine lv_tableIn (tgt := 201) hx hb dX1_kindOf_49 (by rw [c_16]; decide) (by rw [c_16]; decide) (by rw [c_16] <;> rfl) (by decide) ?_
              refine lv_bipush (v := 6) hx hb dX1_kindOf_201 (by decide) ?_
              exact W.iret (v := 6) hx hb hr (fun t ht hW => ⟨⟨6, (), rfl, (ax_X1_kindOf_11 b9 hb9 hn9 c_16), trivial⟩, hS.F ht⟩) hS.2.2 dX1_kindOf_203
            by_cases c_17 : (nI b9) = 203
            · skip
              refine lv_tableIn (tgt := 204) hx hb dX1_kindOf_49 (by rw [c_17]; decide) (by rw [c_17]; decide) (by rw [c_17] <;> rfl) (by decide) ?_
              refine lv_bipush (v := 7) hx hb dX1_kindOf_204 (by decide) ?_
              exact W.iret (v := 7) hx hb hr (fun t ht hW => ⟨⟨7, (), rfl, (ax_X1_kindOf_12 b9 hb9 hn9 c_17), trivial⟩, hS.F ht⟩) hS.2.2 dX1_kindOf_206
            by_cases c_18 : (nI b9) = 204
            · skip
              refine lv_tableIn (tgt := 207) hx hb dX1_kindOf_49 (by rw [c_18]; decide) (by rw [c_18]; decide) (by rw [c_18] <;> rfl) (by decide) ?_
              refine lv_iconst (v := 4) hx hb dX1_kindOf_207 (by decide) ?_
              exact W.iret (v := 4) hx hb hr (fun t ht hW => ⟨⟨4, (), rfl, (ax_X1_kindOf_13 b9 hb9 hn9 c_18), trivial⟩, hS.F ht⟩) hS.2.2 dX1_kindOf_208
            by_cases c_19 : (nI b9) = 205
            · skip
              refine lv_tableIn (tgt := 207) hx hb dX1_kindOf_49 (by rw [c_19]; decide) (by rw [c_19]; decide) (by rw [c_19] <;> rfl) (by decide) ?_
              refine lv_iconst (v := 4) hx hb dX1_kindOf_207 (by decide) ?_
              exact W.iret (v := 4) hx hb hr (fun t ht hW => ⟨⟨4, (), rfl, (ax_X1_kindOf_14 b9 hb9 hn9 c_19), trivial⟩, hS.F ht⟩) hS.2.2 dX1_kindOf_208
            by_cases c_20 : (nI b9) = 206
            · skip
              refine lv_tableIn (tgt := 207) hx hb dX1_kindOf_49 (by rw [c_20]; decide) (by rw [c_20]; decide) (by rw [c_20] <;> rfl) (by decide) ?_
              refine lv_iconst (v := 4) hx hb dX1_kindOf_207 (by decide) ?_
              exact W.iret (v := 4) hx hb hr (fun t ht hW => ⟨⟨4, (), rfl, (ax_X1_kindOf_15 b9 hb9 hn9 c_20), trivial⟩, hS.F ht⟩) hS.2.2 dX1_kindOf_208
            by_cases c_21 : (nI b9) = 207
            · skip
              refine lv_tableIn (tgt := 207) hx hb dX1_kindOf_49 (by rw [c_21]; decide) (by rw [c_21]; decide) (by rw [c_21] <;> rfl) (by decide) ?_
              refine lv_iconst (v := 4) hx hb dX1_kindOf_207 (by decide) ?_
              exact W.iret (v := 4) hx hb hr (fun t ht hW => ⟨⟨4, (), rfl, (ax_X1_kindOf_16 b9 hb9 hn9 c_21), trivial⟩, hS.F ht⟩) hS.2.2 dX1_kindOf_208
            by_cases c_22 : (nI b9) = 208
            · skip
              refine lv_tableIn (tgt := 209) hx hb dX1_kindOf_49 (by rw [c_22]; decide) (by rw [c_22]; decide) (by rw [c_22] <;> rfl) (by decide) ?_
              refine lv_iconst (v := 5) hx hb dX1_kindOf_209 (by decide) ?_
              exact W.iret (v := 5) hx hb hr (fun t ht hW => ⟨⟨5, (), rfl, (ax_X1_kindOf_17 b9 hb9 hn9 c_22), trivial⟩, hS.F ht⟩) hS.2.2 dX1_kindOf_210
            by_cases c_23 : (nI b9) = 209
            · skip
              refine lv_tableIn (tgt := 209) hx hb dX1_kindOf_49 (by rw [c_23]; decide) (by rw [c_23]; decide) (by rw [c_23] <;> rfl) (by decide) ?_
              refine lv_iconst (v := 5) hx hb dX1_kindOf_209 (by decide) ?_
              exact W.iret (v := 5) hx hb hr (fun t ht hW => ⟨⟨5, (), rfl, (ax_X1_kindOf_18 b9 hb9 hn9 c_23), trivial⟩, hS.F ht⟩) hS.2.2 dX1_kindOf_210
            by_cases c_24 : (nI b9) = 210
            · skip
              refine lv_tableIn (tgt := 209) hx hb dX1_kindOf_49 (by rw [c_24]; decide) (by rw [c_24]; decide) (by rw [c_24] <;> rfl) (by decide) ?_
              refine lv_iconst (v := 5) hx hb dX1_kindOf_209 (by decide) ?_
              exact W.iret (v := 5) hx hb hr (fun t ht hW => ⟨⟨5, (), rfl, (ax_X1_kindOf_19 b9 hb9 hn9 c_24), trivial⟩, hS.F ht⟩) hS.2.2 dX1_kindOf_210
            by_cases c_25 : (nI b9) = 211
            · skip
              refine lv_tableIn (tgt := 209) hx hb dX1_kindOf_49 (by rw [c_25]; decide) (by rw [c_25]; decide) (by rw [c_25] <;> rfl) (by decide) ?_
              refine lv_iconst (v := 5) hx hb dX1_kindOf_209 (by decide) ?_
              exact W.iret (v := 5) hx hb hr (fun t ht hW => ⟨⟨5, (), rfl, (ax_X1_kindOf_20 b9 hb9 hn9 c_25), trivial⟩, hS.F ht⟩) hS.2.2 dX1_kindOf_210
            by_cases c_26 : (nI b9) = 212
            · skip
              refine lv_tableIn (tgt := 220) hx hb dX1_kindOf_49 (by rw [c_26]; decide) (by rw [c_26]; decide) (by rw [c_26] <;> rfl) (by decide) ?_
              refine lv_bipush (v := 12) hx hb dX1_kindOf_220 (by decide) ?_
              exact W.iret (v := 12) hx hb hr (fun t ht hW => ⟨⟨12, (), rfl, (ax_X1_kindOf_21 b9 hb9 hn9 c_26), trivial⟩, hS.F ht⟩) hS.2.2 dX1_kindOf_222
            by_cases c_27 : (nI b9) = 213
            · skip
              refine lv_tableIn (tgt := 220) hx hb dX1_kindOf_49 (by rw [c_27]; decide) (by rw [c_27]; decide) (by rw [c_27] <;> rfl) (by decide) ?_
              refine lv_bipush (v := 12) hx hb dX1_kindOf_220 (by decide) ?_
              exact W.iret (v := 12) hx hb hr (fun t ht hW => ⟨⟨12, (), rfl, (ax_X1_kindOf_22 b9 hb9 hn9 c_27), trivial⟩, hS.F ht⟩) hS.2.2 dX1_kindOf_222
            by_cases c_28 : (nI b9) = 214
            · skip
              refine lv_tableIn (tgt := 220) hx hb dX1_kindOf_49 (by rw [c_28]; decide) (by rw [c_28]; decide) (by rw [c_28] <;> rfl) (by decide) ?_
              refine lv_bipush (v := 12) hx hb dX1_kindOf_220 (by decide) ?_
              exact W.iret (v := 12) hx hb hr (fun t ht hW => ⟨⟨12, (), rfl, (ax_X1_kindOf_23 b9 hb9 hn9 c_28), trivial⟩, hS.F ht⟩) hS.2.2 dX1_kindOf_222
            by_cases c_29 : (nI b9) = 215
            · skip
              refine lv_tableIn (tgt := 220) hx hb dX1_kindOf_49 (by rw [c_29]; decide) (by rw [c_29]; decide) (by rw [c_29] <;> rfl) (by decide) ?_
              refine lv_bipush (v := 12) hx hb dX1_kindOf_220 (by decide) ?_
              exact W.iret (v := 12) hx hb hr (fun t ht hW => ⟨⟨12, (), rfl, (ax_X1_kindOf_24 b9 hb9 hn9 c_29), trivial⟩, hS.F ht⟩) hS.2.2 dX1_kindOf_222
            by_cases c_30 : (nI b9) = 216
            · skip
              refine lv_tableIn (tgt := 220) hx hb dX1_kindOf_49 (by rw [c_30]; decide) (by rw [c_30]; decide) (by rw [c_30] <;> rfl) (by decide) ?_
              refine lv_bipush (v := 12) hx hb dX1_kindOf_220 (by decide) ?_
              exact W.iret (v := 12) hx hb hr (fun t ht hW => ⟨⟨12, (), rfl, (ax_X1_kindOf_25 b9 hb9 hn9 c_30), trivial⟩, hS.F ht⟩) hS.2.2 dX1_kindOf_222
            by_cases c_31 : (nI b9) = 217
            · skip
              refine lv_tableIn (tgt := 211) hx hb dX1_kindOf_49 (by rw [c_31]; decide) (by rw [c_31]; decide) (by rw [c_31] <;> rfl) (by decide) ?_
              refine lv_bipush (v := 8) hx hb dX1_kindOf_211 (by decide) ?_
              exact W.iret (v := 8) hx hb hr (fun t ht hW => ⟨⟨8, (), rfl, (ax_X1_kindOf_26 b9 hb9 hn9 c_31), trivial⟩, hS.F ht⟩) hS.2.2 dX1_kindOf_213
            by_cases c_32 : (nI b9) = 218
            · skip
              refine lv_tableIn (tgt := 211) hx hb dX1_kindOf_49 (by rw [c_32]; decide) (by rw [c_32]; decide) (by rw [c_32] <;> rfl) (by decide) ?_
              refine lv_bipush (v := 8) hx hb dX1_kindOf_211 (by decide) ?_
              exact W.iret (v := 8) hx hb hr (fun t ht hW => ⟨⟨8, (), rfl, (ax_X1_kindOf_27 b9 hb9 hn9 c_32), trivial⟩, hS.F ht⟩) hS.2.2 dX1_kindOf_213
            by_cases c_33 : (nI b9) = 219
            · skip
              refine lv_tableIn (tgt := 211) hx hb dX1_kindOf_49 (by rw [c_33]; decide) (by rw [c_33]; decide) (by rw [c_33] <;> rfl) (by decide) ?_
              refine lv_bipush (v := 8) hx hb dX1_kindOf_211 (by decide) ?_
              exact W.iret (v := 8) hx hb hr (fun t ht hW => ⟨⟨8, (), rfl, (ax_X1_kindOf_28 b9 hb9 hn9 c_33), trivial⟩, hS.F ht⟩) hS.2.2 dX1_kindOf_213
            by_cases c_34 : (nI b9) = 220
            · skip
              refine lv_tableIn (tgt := 214) hx hb dX1_kindOf_49 (by rw [c_34]; decide) (by rw [c_34]; decide) (by rw [c_34] <;> rfl) (by decide) ?_
              refine lv_bipush (v := 10) hx hb dX1_kindOf_214 (by decide) ?_
              exact W.iret (v := 10) hx hb hr (fun t ht hW => ⟨⟨10, (), rfl, (ax_X1_kindOf_29 b9 hb9 hn9 c_34), trivial⟩, hS.F ht⟩) hS.2.2 dX1_kindOf_216
            by_cases c_35 : (nI b9) = 221
            · skip
              refine lv_tableIn (tgt := 214) hx hb dX1_kindOf_49 (by rw [c_35]; decide) (by rw [c_35]; decide) (by rw [c_35] <;> rfl) (by decide) ?_
              refine lv_bipush (v := 10) hx hb dX1_kindOf_214 (by decide) ?_
              exact W.iret (v := 10) hx hb hr (fun t ht hW => ⟨⟨10, (), rfl, (ax_X1_kindOf_30 b9 hb9 hn9 c_35), trivial⟩, hS.F ht⟩) hS.2.2 dX1_kindOf_216
            by_cases c_36 : (nI b9) = 222
            · skip
              refine lv_tableIn (tgt := 217) hx hb dX1_kindOf_49 (by rw [c_36]; decide) (by rw [c_36]; decide) (by rw [c_36] <;> rfl) (by decide) ?_
              refine lv_bipush (v := 11) hx hb dX1_kindOf_217 (by decide) ?_
              exact W.iret (v := 11) hx hb hr (fun t ht hW => ⟨⟨11, (), rfl, (ax_X1_kindOf_31 b9 hb9 hn9 c_36), trivial⟩, hS.F ht⟩) hS.2.2 dX1_kindOf_219
            by_cases c_37 : (nI b9) = 223
            · skip
              refine lv_tableIn (tgt := 217) hx hb dX1_kindOf_49 (by rw [c_37]; decide) (by rw [c_37]; decide) (by rw [c_37] <;> rfl) (by decide) ?_
              refine lv_bipush (v := 11) hx hb dX1_kindOf_217 (by decide) ?_
              exact W.iret (v := 11) hx hb hr (fun t ht hW => ⟨⟨11, (), rfl, (ax_X1_kindOf_32 b9 hb9 hn9 c_37), trivial⟩, hS.F ht⟩) hS.2.2 dX1_kindOf_219
            refine lv_tableOut (tgt := 220) hx hb dX1_kindOf_49 (by have := lv_neT (a := 192) c_6 (by decide); have := lv_neT (a := 193) c_7 (by decide); have := lv_neT (a := 194) c_8 (by decide); have := lv_neT (a := 195) c_9 (by decide); have := lv_neT (a := 196) c_10 (by decide); have := lv_neT (a := 197) c_11 (by decide); have := lv_neT (a := 198) c_12 (by decide); have := lv_neT (a := 199) c_13 (by decide); have := lv_neT (a := 200) c_14 (by decide); have := lv_neT (a := 201) c_15 (by decide); have := lv_neT (a := 202) c_16 (by decide); have := lv_neT (a := 203) c_17 (by decide); have := lv_neT (a := 204) c_18 (by decide); have := lv_neT (a := 205) c_19 (by decide); have := lv_neT (a := 206) c_20 (by decide); have := lv_neT (a := 207) c_21 (by decide); have := lv_neT (a := 208) c_22 (by decide); have := lv_neT (a := 209) c_23 (by decide); have := lv_neT (a := 210) c_24 (by decide); have := lv_neT (a := 211) c_25 (by decide); have := lv_neT (a := 212) c_26 (by decide); have := lv_neT (a := 213) c_27 (by decide); have := lv_neT (a := 214) c_28 (by decide); have := lv_neT (a := 215) c_29 (by decide); have := lv_neT (a := 216) c_30 (by decide); have := lv_neT (a := 217) c_31 (by decide); have := lv_neT (a := 218) c_32 (by decide); have := lv_neT (a := 219) c_33 (by decide); have := lv_neT (a := 220) c_34 (by decide); have := lv_neT (a := 221) c_35 (by decide); have := lv_neT (a := 222) c_36 (by decide); have := lv_neT (a := 223) c_37 (by decide); omega) (by decide) ?_
            refine lv_bipush (v := 12) hx hb dX1_kindOf_220 (by decide) ?_
            exact W.iret (v := 12) hx hb hr (fun t ht hW => ⟨⟨12, (), rfl, (ax_X1_kindOf_33 b9 hb9 hn9 (andB c_1 (andB c_2 (andB c_3 (andB c_4 (decide_eq_true c_5))))) (by simp [c_6, c_7, c_8, c_9, c_10, c_11, c_12, c_13, c_14, c_15, c_16, c_17, c_18, c_19, c_20, c_21, c_22, c_23, c_24, c_25, c_26, c_27, c_28, c_29, c_30, c_31, c_32, c_33, c_34, c_35, c_36, c_37])), trivial⟩, hS.F ht⟩) hS.2.2 dX1_kindOf_222
          · skip
            refine lv_iconst (v := 5) hx hb dX1_kindOf_46 (by decide) ?_
            exact W.iret (v := 5) hx hb hr (fun t ht hW => ⟨⟨5, (), rfl, (ax_X1_kindOf_34 b9 hb9 hn9 (andB c_1 (andB c_2 (andB c_3 (andB c_4 (decide_eq_true c_5)))))), trivial⟩, hS.F ht⟩) hS.2.2 dX1_kindOf_47
        · skip
          refine lv_bipush (v := 8) hx hb dX1_kindOf_36 (by decide) ?_
          exact W.iret (v := 8) hx hb hr (fun t ht hW => ⟨⟨8, (), rfl, (ax_X1_kindOf_35 b9 hb9 hn9 (andB c_1 (andB c_2 (andB c_3 (decide_eq_true c_4))))), trivial⟩, hS.F ht⟩) hS.2.2 dX1_kindOf_38
      · skip
        refine lv_bipush (v := 10) hx hb dX1_kindOf_26 (by decide) ?_
        exact W.iret (v := 10) hx hb hr (fun t ht hW => ⟨⟨10, (), rfl, (ax_X1_kindOf_36 b9 hb9 hn9 (andB c_1 (andB c_2 (decide_eq_true c_3)))), trivial⟩, hS.F ht⟩) hS.2.2 dX1_kindOf_28
    · skip
      refine lv_bipush (v := 11) hx hb dX1_kindOf_16 (by decide) ?_
      exact W.iret (v := 11) hx hb hr (fun t ht hW => ⟨⟨11, (), rfl, (ax_X1_kindOf_37 b9 hb9 hn9 c_1 c_2), trivial⟩, hS.F ht⟩) hS.2.2 dX1_kindOf_18
  · skip
    refine lv_iconst (v := 4) hx hb dX1_kindOf_7 (by decide) ?_
    exact W.iret (v := 4) hx hb hr (fun t ht hW => ⟨⟨4, (), rfl, (ax_X1_kindOf_38 b9 hb9 hn9 c_1), trivial⟩, hS.F ht⟩) hS.2.2 dX1_kindOf_8
theorem ax_X1_ownNumber_1 : ∀ b, b < 256 → (decide (((128 : Int32) ≤ (nI b))) && (decide (((144 : Int32) ≤ (nI b))) && (decide (((160 : Int32) ≤ (nI b))) && (decide (((192 : Int32) ≤ (nI b))) && (decide (((nI b) ≤ (223 : Int32))) && (decide (((nI b) ≤ (211 : Int32))))))))) = true → (0 : Int64) = ow b := by decide +kernel
theorem ax_X1_ownNumber_2 : ∀ b, b < 256 → (decide (((128 : Int32) ≤ (nI b))) && (decide (((144 : Int32) ≤ (nI b))) && (decide (((160 : Int32) ≤ (nI b))) && (decide (((192 : Int32) ≤ (nI b))) && (decide (((nI b) ≤ (223 : Int32))) && (decide (¬ ((nI b) ≤ (211 : Int32))) && (decide (((217 : Int32) ≤ (nI b)))))))))) = true → (0 : Int64) = ow b := by decide +kernel
theorem ax_X1_ownNumber_3 : ∀ b, b < 256 → (decide (((128 : Int32) ≤ (nI b))) && (decide (((144 : Int32) ≤ (nI b))) && (decide (((160 : Int32) ≤ (nI b))) && (decide (((192 : Int32) ≤ (nI b))) && (decide (((nI b) ≤ (223 : Int32))) && (decide (¬ ((nI b) ≤ (211 : Int32))) && (decide (¬ ((217 : Int32) ≤ (nI b)))))))))) = true → (1 <<< (((nI b) - 212).toInt64 &&& 63) : Int64) = ow b := by decide +kernel
theorem ax_X1_ownNumber_4 : ∀ b, b < 256 → (decide (((128 : Int32) ≤ (nI b))) && (decide (((144 : Int32) ≤ (nI b))) && (decide (((160 : Int32) ≤ (nI b))) && (decide (((192 : Int32) ≤ (nI b))) && (decide (¬ ((nI b) ≤ (223 : Int32)))))))) = true → (((nI b) - 256).toInt64 : Int64) = ow b := by decide +kernel
theorem ax_X1_ownNumber_5 : ∀ b, b < 256 → (decide (((128 : Int32) ≤ (nI b))) && (decide (((144 : Int32) ≤ (nI b))) && (decide (((160 : Int32) ≤ (nI b))) && (decide (¬ ((192 : Int32) ≤ (nI b))))))) = true → (((nI b) - 160).toInt64 : Int64) = ow b := by decide +kernel
theorem ax_X1_ownNumber_6 : ∀ b, b < 256 → (decide (((128 : Int32) ≤ (nI b))) && (decide (((144 : Int32) ≤ (nI b))) && (decide (¬ ((160 : Int32) ≤ (nI b)))))) = true → (((nI b) - 144).toInt64 : Int64) = ow b := by decide +kernel
theorem ax_X1_ownNumber_7 : ∀ b, b < 256 → ((128 : Int32) ≤ (nI b)) → ¬ ((144 : Int32) ≤ (nI b)) → (((nI b) - 128).toInt64 : Int64) = ow b := by decide +kernel
theorem ax_X1_ownNumber_8 : ∀ b, b < 256 → ¬ ((128 : Int32) ≤ (nI b)) → ((nI b).toInt64 : Int64) = ow b := by decide +kernel
set_option maxHeartbeats 4000000 in
set_option maxRecDepth 100000 in
theorem c_X1_ownNumber (l : Launch) (dC : Nat → ClassId) (dI : Nat → Nat → Nat) (tk tw : Nat) (sz : Nat) (b9 : Nat) (hb9 : b9 < 256) : Met l yX1_ownNumber wsX1_ownNumber ({ frames := 0, cells := 0, slots := 0, locals := 0 }) (va_Pc [.int (nI b9)] (p0 sz tk tw)) (va_Ql (fun (r : Int64) (_ : Unit) => r = ow b9) (fun _ _ => True) (va_A [] sz)) 0 0 (va_A [] sz) := by
  refine Met.ofW (cc := cX1_ownNumber) (maxL := 1) (ret := (some .long)) (by decide) rfl ?_
  intro p e s m args below meth c s₁ Bd hml hv
  obtain ⟨rfl, hsz, hZ⟩ := hv
  have hx := Bd.exec
  have hb := Bd.bytes
  have hr := Bd.returns
  have hts := atoms_spec (ws := wsX1_ownNumber) Bd.pre
  have hown : s.vm.findClass RX1 = some m.cls := findClass_of_methodNamed Bd.named
  have hlocks := Bd.notSynchronized
  subst hsz
  generalize hAe : va_A [] s.heap.size = A at hZ ⊢
  have hA : ∀ q : Nat, s.heap.size ≤ q → A q := fun q h => by rw [← hAe]; exact Or.inr h
  have hS : va_S A s.heap s.heap [] := va_S.rf
  have hP : va_P (dC, dI) vwCl [] s.heap := fun k q h => by simp at h
  have hl := lv_entry ([.int (nI b9)]) (n := 1) (Nat.le_of_ble_eq_true rfl)
  rw [lg_entry_eq]
  generalize (lg_sl ([.int (nI b9)]) ++ List.replicate (1 - (lg_sl ([.int (nI b9)])).length) Slot.unset).toArray = ls at hl ⊢
  have hl : lv_has ls 1 [(0, .int (nI b9))] := hl
  refine lv_iload_n hx hb dX1_ownNumber_0 rfl (lv_at hl 0 rfl) ?_
  refine lv_sipush (v := 128) hx hb dX1_ownNumber_1 (by decide) ?_
  refine lv_icmp_ge (tgt := 10) hx hb dX1_ownNumber_4 (by decide) (fun c_1 => ?_) (fun c_1 => ?_)
  · skip
    refine lv_iload_n hx hb dX1_ownNumber_10 rfl (lv_at hl 0 rfl) ?_
    refine lv_sipush (v := 144) hx hb dX1_ownNumber_11 (by decide) ?_
    refine lv_icmp_ge (tgt := 24) hx hb dX1_ownNumber_14 (by decide) (fun c_2 => ?_) (fun c_2 => ?_)
    · skip
      refine lv_iload_n hx hb dX1_ownNumber_24 rfl (lv_at hl 0 rfl) ?_
      refine lv_sipush (v := 160) hx hb dX1_ownNumber_25 (by decide) ?_
      refine lv_icmp_ge (tgt := 38) hx hb dX1_ownNumber_28 (by decide) (fun c_3 => ?_) (fun c_3 => ?_)
      · skip
        refine lv_iload_n hx hb dX1_ownNumber_38 rfl (lv_at hl 0 rfl) ?_
        refine lv_sipush (v := 192) hx hb dX1_ownNumber_39 (by decide) ?_
        refine lv_icmp_ge (tgt := 52) hx hb dX1_ownNumber_42 (by decide) (fun c_4 => ?_) (fun c_4 => ?_)
        · skip
          refine lv_iload_n hx hb dX1_ownNumber_52 rfl (lv_at hl 0 rfl) ?_
          refine lv_sipush (v := 223) hx hb dX1_ownNumber_53 (by decide) ?_
          refine lv_icmp_le (tgt := 68) hx hb dX1_ownNumber_56 (by decide) (fun c_5 => ?_) (fun c_5 => ?_)
          · skip
            refine lv_iload_n hx hb dX1_ownNumber_68 rfl (lv_at hl 0 rfl) ?_
            refine lv_sipush (v := 211) hx hb dX1_ownNumber_69 (by decide) ?_
            refine lv_icmp_le (tgt := 92) hx hb dX1_ownNumber_72 (by decide) (fun c_6 => ?_) (fun c_6 => ?_)
            · skip
              refine lv_lconst (v := 0) hx hb dX1_ownNumber_92 (by decide) ?_
              exact W.lret (v := 0) hx hb hr (fun t ht hW => ⟨⟨0, (), rfl, (ax_X1_ownNumber_1 b9 hb9 (andB c_1 (andB c_2 (andB c_3 (andB c_4 (andB c_5 (decide_eq_true c_6))))))), trivial⟩, hS.F ht⟩) hS.2.2 dX1_ownNumber_93
            · skip
              refine lv_iload_n hx hb dX1_ownNumber_75 rfl (lv_at hl 0 rfl) ?_
              refine lv_sipush (v := 217) hx hb dX1_ownNumber_76 (by decide) ?_
              refine lv_icmp_ge (tgt := 92) hx hb dX1_ownNumber_79 (by decide) (fun c_7 => ?_) (fun c_7 => ?_)
              · skip
                refine lv_lconst (v := 0) hx hb dX1_ownNumber_92 (by decide) ?_
                exact W.lret (v := 0) hx hb hr (fun t ht hW => ⟨⟨0, (), rfl, (ax_X1_ownNumber_2 b9 hb9 (andB c_1 (andB c_2 (andB c_3 (andB c_4 (andB c_5 (andB c_6 (decide_eq_true c_7)))))))), trivial⟩, hS.F ht⟩) hS.2.2 dX1_ownNumber_93
              · skip
                refine lv_lconst (v := 1) hx hb dX1_ownNumber_82 (by decide) ?_
                refine lv_iload_n hx hb dX1_ownNumber_83 rfl (lv_at hl 0 rfl) ?_
                refine lv_sipush (v := 212) hx hb dX1_ownNumber_84 (by decide) ?_
                refine lv_isub hx hb dX1_ownNumber_87 ?_
                refine lv_lshl hx hb dX1_ownNumber_88 rfl ?_
                refine lv_goto (tgt := 93) hx hb dX1_ownNumber_89 (by decide) ?_
                exact W.lret (v := 1 <<< (((nI b9) - 212).toInt64 &&& 63)) hx hb hr (fun t ht hW => ⟨⟨1 <<< (((nI b9) - 212).toInt64 &&& 63), (), rfl, (ax_X1_ownNumber_3 b9 hb9 (andB c_1 (andB c_2 (andB c_3 (andB c_4 (andB c_5 (andB c_6 (decide_eq_true c_7)))))))), trivial⟩, hS.F ht⟩) hS.2.2 dX1_ownNumber_93
          · skip
            refine lv_iload_n hx hb dX1_ownNumber_59 rfl (lv_at hl 0 rfl) ?_
            refine lv_sipush (v := 256) hx hb dX1_ownNumber_60 (by decide) ?_
            refine lv_isub hx hb dX1_ownNumber_63 ?_
            refine lv_i2l hx hb dX1_ownNumber_64 rfl ?_
            refine lv_goto (tgt := 93) hx hb dX1_ownNumber_65 (by decide) ?_
            exact W.lret (v := ((nI b9) - 256).toInt64) hx hb hr (fun t ht hW => ⟨⟨((nI b9) - 256).toInt64, (), rfl, (ax_X1_ownNumber_4 b9 hb9 (andB c_1 (andB c_2 (andB c_3 (andB c_4 (decide_eq_true c_5)))))), trivial⟩, hS.F ht⟩) hS.2.2 dX1_ownNumber_93
        · skip
          refine lv_iload_n hx hb dX1_ownNumber_45 rfl (lv_at hl 0 rfl) ?_
          refine lv_sipush (v := 160) hx hb dX1_ownNumber_46 (by decide) ?_
          refine lv_isub hx hb dX1_ownNumber_49 ?_
          refine lv_i2l hx hb dX1_ownNumber_50 rfl ?_
          exact W.lret (v := ((nI b9) - 160).toInt64) hx hb hr (fun t ht hW => ⟨⟨((nI b9) - 160).toInt64, (), rfl, (ax_X1_ownNumber_5 b9 hb9 (andB c_1 (andB c_2 (andB c_3 (decide_eq_true c_4))))), trivial⟩, hS.F ht⟩) hS.2.2 dX1_ownNumber_51
      · skip
        refine lv_iload_n hx hb dX1_ownNumber_31 rfl (lv_at hl 0 rfl) ?_
        refine lv_sipush (v := 144) hx hb dX1_ownNumber_32 (by decide) ?_
        refine lv_isub hx hb dX1_ownNumber_35 ?_
        refine lv_i2l hx hb dX1_ownNumber_36 rfl ?_
        exact W.lret (v := ((nI b9) - 144).toInt64) hx hb hr (fun t ht hW => ⟨⟨((nI b9) - 144).toInt64, (), rfl, (ax_X1_ownNumber_6 b9 hb9 (andB c_1 (andB c_2 (decide_eq_true c_3)))), trivial⟩, hS.F ht⟩) hS.2.2 dX1_ownNumber_37
    · skip
      refine lv_iload_n hx hb dX1_ownNumber_17 rfl (lv_at hl 0 rfl) ?_
      refine lv_sipush (v := 128) hx hb dX1_ownNumber_18 (by decide) ?_
      refine lv_isub hx hb dX1_ownNumber_21 ?_
      refine lv_i2l hx hb dX1_ownNumber_22 rfl ?_
      exact W.lret (v := ((nI b9) - 128).toInt64) hx hb hr (fun t ht hW => ⟨⟨((nI b9) - 128).toInt64, (), rfl, (ax_X1_ownNumber_7 b9 hb9 c_1 c_2), trivial⟩, hS.F ht⟩) hS.2.2 dX1_ownNumber_23
  · skip
    refine lv_iload_n hx hb dX1_ownNumber_7 rfl (lv_at hl 0 rfl) ?_
    refine lv_i2l hx hb dX1_ownNumber_8 rfl ?_
    exact W.lret (v := (nI b9).toInt64) hx hb hr (fun t ht hW => ⟨⟨(nI b9).toInt64, (), rfl, (ax_X1_ownNumber_8 b9 hb9 c_1), trivial⟩, hS.F ht⟩) hS.2.2 dX1_ownNumber_9
