/-! a call that has a part of the world: the rest stays -/
theorem fr_app {A : Nat → Prop} {D : va_G} {cl : List vw_C} {wc wr w1 : va_W} {H H1 : Heap} (hP : va_P D cl (wc ++ wr) H) (hD : va_D A (wc ++ wr)) (hk : ∀ q : Nat, q < H.size → ¬ va_A wc H.size q → H1[q]? = H[q]?) (hF : ∀ q, va_A wc H.size q → A q) (hP1 : va_P D cl w1 H1) (hD1 : va_D (va_A wc H.size) w1) :
    va_P D cl (w1 ++ wr) H1 ∧ va_D A (w1 ++ wr) := by
  have at' : ∀ (k : Nat) (q : Nat × va_E), wr[k]? = some q → (wc ++ wr)[wc.length + k]? = some q := by
    intro k q h
    rw [List.getElem?_append_right (by omega), Nat.add_sub_cancel_left]
    exact h
  have atc : ∀ (k : Nat) (q : Nat × va_E), wc[k]? = some q → k < wc.length ∧ (wc ++ wr)[k]? = some q := by
    intro k q h
    have hl := (List.getElem?_eq_some_iff.mp h).1
    exact ⟨hl, by rw [List.getElem?_append_left hl]; exact h⟩
  have apart : ∀ (k : Nat) (q : Nat × va_E), wr[k]? = some q → q.1 < H.size ∧ ¬ va_A wc H.size q.1 := by
    intro k q h
    have hl := (hP _ q (at' k q h)).lt
    refine ⟨hl, fun z => ?_⟩
    rcases z with ⟨j, e, z⟩ | z
    · obtain ⟨z1, z2⟩ := atc j _ z
      have := hD.1 j (wc.length + k) (q.1, e) q z2 (at' k q h) rfl
      omega
    · omega
  have hDr : va_D A wr := ⟨fun i j x y hx hy hxy => by
    have := hD.1 _ _ x y (at' i x hx) (at' j y hy) hxy
    omega, fun k q h => hD.2 _ q (at' k q h)⟩
  refine ⟨hP1.app (fun k q h => ?_), va_D.app (hD1.weaken (fun _ q _ h => hF q.1 h)) hDr (fun i j x y hx hy hxy => ?_)⟩
  · obtain ⟨g1, g2⟩ := apart k q h
    exact (hP _ q (at' k q h)).kept (hk q.1 g1 g2)
  · exact (apart j y hy).2 (by rw [← hxy]; exact hD1.2 i x hx)
theorem P_left {D : va_G} {cl : List vw_C} {wc wr : va_W} {H : Heap} (h : va_P D cl (wc ++ wr) H) : va_P D cl wc H := fun k q hk => h k q (by rw [List.getElem?_append_left (List.getElem?_eq_some_iff.mp hk).1]; exact hk)
theorem D_left {A : Nat → Prop} {wc wr : va_W} (h : va_D A (wc ++ wr)) : va_D A wc := ⟨fun i j x y hx hy hxy => h.1 i j x y (by rw [List.getElem?_append_left (List.getElem?_eq_some_iff.mp hx).1]; exact hx) (by rw [List.getElem?_append_left (List.getElem?_eq_some_iff.mp hy).1]; exact hy) hxy, fun k q hk => h.2 k q (by rw [List.getElem?_append_left (List.getElem?_eq_some_iff.mp hk).1]; exact hk)⟩
section GL
variable {p : Program} {l : Launch} {e : Env} {R : Room} {s : State} {m : MethodId} {args : Array Value} {below : List Frame} {meth : Method} {c : Code} {H : Heap} {locs : List Loc} {cells slots : Nat} {Q : State → Prop}
variable {y : MethodName} {bytes cc : ByteArray} {maxL nL mc ms n index : Nat} {ret : Option FieldType} {w : List Cond} {rm : Room} {Ts : List Cond} {own C : String} {b : Addr} {As rest st0 : List Value} {pc : Nat} {ls : Array Slot}
variable {dC : Nat → ClassId} {dI : Nat → Nat → Nat} {tc : List (ClassId × FieldType)} {wc wr : va_W} {A : Nat → Prop} {tk tw : Nat} {sa : Nat → Nat} {S : Type} {W1 : S → va_W} {q0 ci : Nat} {q : vw_C} {fs : List Value}
theorem gji {post : Int32 → S → Prop} (X : CallFix p m c cc nL s args Ts own)
    (hM : Met l y w rm (va_Pc (.ref b :: As) (pr dC dI tc wc H.size tk tw)) (va_Qi post (fun u => po dC dI tc (va_A wc H.size) (W1 u)) (va_A wc H.size)) mc ms (va_A wc H.size))
    (cw : CallW R s args own C index y bytes maxL ret w rm mc ms n)
    (hK : va_K (dC, dI) vwCl tc s) (hP : va_P (dC, dI) vwCl (wc ++ wr) H) (hD : va_D A (wc ++ wr)) (hS : va_S A s.heap H locs) (hA : ∀ q, s.heap.size ≤ q → A q) (hZ : zz tk tw A s s.heap)
    (hc : vwCl[ci]? = some q) (hq : q.1 = C) (he : wc[q0]? = some (b, .inr (ci, fs)))
    (hn : As.length = n) (hsize : ls.size = nL) (hstack : st0 = As.reverse ++ .ref b :: rest) (hW : (rest.map fun v => v.category).sum ≤ 8) (hdg : decode cc pc = .ok (.invokevirtual index, 3)) (hf : cells + mc ≤ R.cells ∧ slots + ms ≤ R.slots)
    (kk : ∀ (r : Int32) (u : S) (H1 : Heap) (locs1 : List Loc), post r u → va_P (dC, dI) vwCl (W1 u ++ wr) H1 → va_D A (W1 u ++ wr) → va_S A s.heap H1 locs1 → W p l e R s m args below meth c H1 locs1 (cells + mc) (slots + ms) Q (F0 m (pc + 3) ls (.int r :: rest))) : W p l e R s m args below meth c H locs cells slots Q (F0 m pc ls st0) := by
  have hPc := P_left hP
  have hDc := D_left hD
  have hF := fr_all hDc hS hA
  subst hq
  refine va_calli (va_runV (As := As) (rest := rest) X hM cw ⟨fun a U g mk q => ?_, va_recv hK hPc hc he, fun U hU hW => ?_⟩ rfl hn hsize hstack (lv_room hW) hdg hf) hS (fun q _ h => hF q h) hF (fun r u t H1 locs1 ht hvm hw hB hz1 hk1 hS1 => ?_)
  · obtain ⟨q0, q1, qP, qK, qD, qZ⟩ := q
    exact ⟨q0, q1, qP, va_K.moved (u := U) (U := U.calling g mk a) (Vm.Alike.refl U.vm) qK, qD, zz_moved (u := U) (U := U.calling g mk a) (Vm.Alike.refl U.vm) qZ⟩
  · exact ⟨rfl, by rw [hU], by rw [hU]; exact hPc, va_K.moved hW.alike hK, hDc.weaken (fun _ _ _ _ => trivial), by rw [hU]; exact zz_moved hW.alike (zz_narrow (zz_kept hZ (fun a h1 h2 => hS.2.1 a h1 h2)) hF)⟩
  · obtain ⟨hP1, hK1, hD1⟩ := hB
    rw [ht] at hP1
    obtain ⟨z1, z2⟩ := fr_app hP hD hk1 hF hP1 hD1
    exact kk r u H1 locs1 hw z1 z2 hS1
theorem gjl {post : Int64 → S → Prop} (X : CallFix p m c cc nL s args Ts own)
    (hM : Met l y w rm (va_Pc (.ref b :: As) (pr dC dI tc wc H.size tk tw)) (va_Ql post (fun u => po dC dI tc (va_A wc H.size) (W1 u)) (va_A wc H.size)) mc ms (va_A wc H.size))
    (cw : CallW R s args own C index y bytes maxL ret w rm mc ms n)
    (hK : va_K (dC, dI) vwCl tc s) (hP : va_P (dC, dI) vwCl (wc ++ wr) H) (hD : va_D A (wc ++ wr)) (hS : va_S A s.heap H locs) (hA : ∀ q, s.heap.size ≤ q → A q) (hZ : zz tk tw A s s.heap)
    (hc : vwCl[ci]? = some q) (hq : q.1 = C) (he : wc[q0]? = some (b, .inr (ci, fs)))
    (hn : As.length = n) (hsize : ls.size = nL) (hstack : st0 = As.reverse ++ .ref b :: rest) (hW : (rest.map fun v => v.category).sum ≤ 8) (hdg : decode cc pc = .ok (.invokevirtual index, 3)) (hf : cells + mc ≤ R.cells ∧ slots + ms ≤ R.slots)
    (kk : ∀ (r : Int64) (u : S) (H1 : Heap) (locs1 : List Loc), post r u → va_P (dC, dI) vwCl (W1 u ++ wr) H1 → va_D A (W1 u ++ wr) → va_S A s.heap H1 locs1 → W p l e R s m args below meth c H1 locs1 (cells + mc) (slots + ms) Q (F0 m (pc + 3) ls (.long r :: rest))) : W p l e R s m args below meth c H locs cells slots Q (F0 m pc ls st0) := by
  have hPc := P_left hP
  have hDc := D_left hD
  have hF := fr_all hDc hS hA
  subst hq
  refine va_calll (va_runV (As := As) (rest := rest) X hM cw ⟨fun a U g mk q => ?_, va_recv hK hPc hc he, fun U hU hW => ?_⟩ rfl hn hsize hstack (lv_room hW) hdg hf) hS (fun q _ h => hF q h) hF (fun r u t H1 locs1 ht hvm hw hB hz1 hk1 hS1 => ?_)
  · obtain ⟨q0, q1, qP, qK, qD, qZ⟩ := q
    exact ⟨q0, q1, qP, va_K.moved (u := U) (U := U.calling g mk a) (Vm.Alike.refl U.vm) qK, qD, zz_moved (u := U) (U := U.calling g mk a) (Vm.Alike.refl U.vm) qZ⟩
  · exact ⟨rfl, by rw [hU], by rw [hU]; exact hPc, va_K.moved hW.alike hK, hDc.weaken (fun _ _ _ _ => trivial), by rw [hU]; exact zz_moved hW.alike (zz_narrow (zz_kept hZ (fun a h1 h2 => hS.2.1 a h1 h2)) hF)⟩
  · obtain ⟨hP1, hK1, hD1⟩ := hB
    rw [ht] at hP1
    obtain ⟨z1, z2⟩ := fr_app hP hD hk1 hF hP1 hD1
    exact kk r u H1 locs1 hw z1 z2 hS1
/-- a call of the class that throws E (int) -/
theorem gxi {E0 : String} (X : CallFix p m c cc nL s args Ts own)
    (hM : vx_Met l y w rm (va_Pc (.ref b :: As) (prx dC dI tc wc H.size tk tw sa)) (va_Qi (fun (_ : Int32) (_ : Unit) => False) (fun _ _ => True) (va_A wc H.size)) (vx_X (fun (_ : Unit) => True) (fun (E : String) (_ : Unit) => fun t => E = E0 ∧ po dC dI tc (va_A wc H.size) wc t) (va_A wc H.size)) mc ms (va_A wc H.size))
    (cw : CallW R s args own C index y bytes maxL ret w rm mc ms n)
    (hK : va_K (dC, dI) vwCl tc s) (hP : va_P (dC, dI) vwCl (wc ++ wr) H) (hD : va_D A (wc ++ wr)) (hS : va_S A s.heap H locs) (hA : ∀ q, s.heap.size ≤ q → A q) (hZ : zz tk tw A s s.heap) (hX : zx sa A s s.heap)
    (hc : vwCl[ci]? = some q) (hq : q.1 = C) (he : wc[q0]? = some (b, .inr (ci, fs)))
    (hn : As.length = n) (hsize : ls.size = nL) (hstack : st0 = As.reverse ++ .ref b :: rest) (hW : (rest.map fun v => v.category).sum ≤ 8) (hdg : decode cc pc = .ok (.invokevirtual index, 3)) (hf : cells + mc ≤ R.cells ∧ slots + ms ≤ R.slots)
    (kk : ∀ (ce : Cell) (q9 : Addr) (H1 : Heap) (locs1 : List Loc), va_P (dC, dI) vwCl (wc ++ wr) H1 → va_D A (wc ++ wr) → va_S A s.heap H1 locs1 → H1[q9]? = some ce → ce.vm = .none → s.vm.findClass E0 = some ce.cls → vx_W p l e R s m args below meth c H1 locs1 (cells + mc) (slots + ms) Q (F0 m pc ls rest) q9) : W p l e R s m args below meth c H locs cells slots Q (F0 m pc ls st0) := by
  have hPc := P_left hP
  have hDc := D_left hD
  have hF := fr_all hDc hS hA
  subst hq
  refine vx_calli (vx_runV (As := As) (rest := rest) X hM cw ⟨fun a U g mk q => ?_, va_recv hK hPc hc he, fun U hU hW => ?_⟩ rfl hn hsize hstack (lv_room hW) hdg hf) hS (fun q _ h => hF q h) hF (fun q _ h => hF q h) (fun E ce q9 u t H1 locs1 ht hvm _ hB hz1 hk1 hS1 h1 h2 h3 => ?_) (fun r u t H1 locs1 ht hvm hw => absurd hw id)
  · obtain ⟨q0, q1, qP, qK, qD, qZ, qX⟩ := q
    exact ⟨q0, q1, qP, va_K.moved (u := U) (U := U.calling g mk a) (Vm.Alike.refl U.vm) qK, qD, zz_moved (u := U) (U := U.calling g mk a) (Vm.Alike.refl U.vm) qZ, zx_same (u := U) (U := U.calling g mk a) rfl qX⟩
  · exact ⟨rfl, by rw [hU], by rw [hU]; exact hPc, va_K.moved hW.alike hK, hDc.weaken (fun _ _ _ _ => trivial), by rw [hU]; exact zz_moved hW.alike (zz_narrow (zz_kept hZ (fun a h1 h2 => hS.2.1 a h1 h2)) hF), by rw [hU]; exact zx_warm hW (zx_narrow (zx_kept hX (fun a h1 h2 => hS.2.1 a h1 h2)) hF)⟩
  · obtain ⟨rfl, hP1, hK1, hD1⟩ := hB
    rw [ht] at hP1
    obtain ⟨z1, z2⟩ := fr_app hP hD hk1 hF hP1 hD1
    exact kk ce q9 H1 locs1 z1 z2 hS1 h1 h2 h3
/-- the same, long -/
theorem gxl {E0 : String} (X : CallFix p m c cc nL s args Ts own)
    (hM : vx_Met l y w rm (va_Pc (.ref b :: As) (prx dC dI tc wc H.size tk tw sa)) (va_Ql (fun (_ : Int64) (_ : Unit) => False) (fun _ _ => True) (va_A wc H.size)) (vx_X (fun (_ : Unit) => True) (fun (E : String) (_ : Unit) => fun t => E = E0 ∧ po dC dI tc (va_A wc H.size) wc t) (va_A wc H.size)) mc ms (va_A wc H.size))
    (cw : CallW R s args own C index y bytes maxL ret w rm mc ms n)
    (hK : va_K (dC, dI) vwCl tc s) (hP : va_P (dC, dI) vwCl (wc ++ wr) H) (hD : va_D A (wc ++ wr)) (hS : va_S A s.heap H locs) (hA : ∀ q, s.heap.size ≤ q → A q) (hZ : zz tk tw A s s.heap) (hX : zx sa A s s.heap)
    (hc : vwCl[ci]? = some q) (hq : q.1 = C) (he : wc[q0]? = some (b, .inr (ci, fs)))
    (hn : As.length = n) (hsize : ls.size = nL) (hstack : st0 = As.reverse ++ .ref b :: rest) (hW : (rest.map fun v => v.category).sum ≤ 8) (hdg : decode cc pc = .ok (.invokevirtual index, 3)) (hf : cells + mc ≤ R.cells ∧ slots + ms ≤ R.slots)
    (kk : ∀ (ce : Cell) (q9 : Addr) (H1 : Heap) (locs1 : List Loc), va_P (dC, dI) vwCl (wc ++ wr) H1 → va_D A (wc ++ wr) → va_S A s.heap H1 locs1 → H1[q9]? = some ce → ce.vm = .none → s.vm.findClass E0 = some ce.cls → vx_W p l e R s m args below meth c H1 locs1 (cells + mc) (slots + ms) Q (F0 m pc ls rest) q9) : W p l e R s m args below meth c H locs cells slots Q (F0 m pc ls st0) := by
  have hPc := P_left hP
  have hDc := D_left hD
  have hF := fr_all hDc hS hA
  subst hq
  refine vx_calll (vx_runV (As := As) (rest := rest) X hM cw ⟨fun a U g mk q => ?_, va_recv hK hPc hc he, fun U hU hW => ?_⟩ rfl hn hsize hstack (lv_room hW) hdg hf) hS (fun q _ h => hF q h) hF (fun q _ h => hF q h) (fun E ce q9 u t H1 locs1 ht hvm _ hB hz1 hk1 hS1 h1 h2 h3 => ?_) (fun r u t H1 locs1 ht hvm hw => absurd hw id)
  · obtain ⟨q0, q1, qP, qK, qD, qZ, qX⟩ := q
    exact ⟨q0, q1, qP, va_K.moved (u := U) (U := U.calling g mk a) (Vm.Alike.refl U.vm) qK, qD, zz_moved (u := U) (U := U.calling g mk a) (Vm.Alike.refl U.vm) qZ, zx_same (u := U) (U := U.calling g mk a) rfl qX⟩
  · exact ⟨rfl, by rw [hU], by rw [hU]; exact hPc, va_K.moved hW.alike hK, hDc.weaken (fun _ _ _ _ => trivial), by rw [hU]; exact zz_moved hW.alike (zz_narrow (zz_kept hZ (fun a h1 h2 => hS.2.1 a h1 h2)) hF), by rw [hU]; exact zx_warm hW (zx_narrow (zx_kept hX (fun a h1 h2 => hS.2.1 a h1 h2)) hF)⟩
  · obtain ⟨rfl, hP1, hK1, hD1⟩ := hB
    rw [ht] at hP1
    obtain ⟨z1, z2⟩ := fr_app hP hD hk1 hF hP1 hD1
    exact kk ce q9 H1 locs1 z1 z2 hS1 h1 h2 h3
/-- the law's call of one of its helpers -/
theorem ghi {hh : List (Nat × Nat × Nat × Nat)} {post : Int32 → S → Prop} (X : CallFix p m c cc nL s args Ts own)
    (hM : Met l y w rm (va_Pc As (prx dC dI tc wc H.size tk tw sa)) (va_Qi post (fun u => po dC dI tc (va_A wc H.size) (W1 u)) (va_A wc H.size)) mc ms (va_A wc H.size))
    (cw : vx_CSW R s args own index y bytes maxL ret hh w rm mc ms n)
    (hK : va_K (dC, dI) vwCl tc s) (hP : va_P (dC, dI) vwCl (wc ++ wr) H) (hD : va_D A (wc ++ wr)) (hS : va_S A s.heap H locs) (hA : ∀ q, s.heap.size ≤ q → A q) (hZ : zz tk tw A s s.heap) (hX : zx sa A s s.heap)
    (hn : As.length = n) (hsize : ls.size = nL) (hstack : st0 = As.reverse ++ rest) (hW : (rest.map fun v => v.category).sum ≤ 8) (hdg : decode cc pc = .ok (.invokestatic index, 3)) (hf : cells + mc ≤ R.cells ∧ slots + ms ≤ R.slots)
    (kk : ∀ (r : Int32) (u : S) (H1 : Heap) (locs1 : List Loc), post r u → va_P (dC, dI) vwCl (W1 u ++ wr) H1 → va_D A (W1 u ++ wr) → va_S A s.heap H1 locs1 → W p l e R s m args below meth c H1 locs1 (cells + mc) (slots + ms) Q (F0 m (pc + 3) ls (.int r :: rest))) : W p l e R s m args below meth c H locs cells slots Q (F0 m pc ls st0) := by
  have hPc := P_left hP
  have hDc := D_left hD
  have hF := fr_all hDc hS hA
  refine va_calli (vx_runSW (As := As) (rest := rest) X hM cw ⟨fun a U g mk q => ?_, fun U hU hW => ?_⟩ rfl hn hsize hstack (lv_room hW) hdg hf) hS (fun q _ h => hF q h) hF (fun r u t H1 locs1 ht hvm hw hB hz1 hk1 hS1 => ?_)
  · obtain ⟨q0, q1, qP, qK, qD, qZ, qX⟩ := q
    exact ⟨q0, q1, qP, va_K.moved (u := U) (U := U.calling g mk a) (Vm.Alike.refl U.vm) qK, qD, zz_moved (u := U) (U := U.calling g mk a) (Vm.Alike.refl U.vm) qZ, zx_same (u := U) (U := U.calling g mk a) rfl qX⟩
  · exact ⟨rfl, by rw [hU], by rw [hU]; exact hPc, va_K.moved hW.alike hK, hDc.weaken (fun _ _ _ _ => trivial), by rw [hU]; exact zz_moved hW.alike (zz_narrow (zz_kept hZ (fun a h1 h2 => hS.2.1 a h1 h2)) hF), by rw [hU]; exact zx_warm hW (zx_narrow (zx_kept hX (fun a h1 h2 => hS.2.1 a h1 h2)) hF)⟩
  · obtain ⟨hP1, hK1, hD1⟩ := hB
    rw [ht] at hP1
    obtain ⟨z1, z2⟩ := fr_app hP hD hk1 hF hP1 hD1
    exact kk r u H1 locs1 hw z1 z2 hS1
end GL
abbrev wo (o : Nat) (cO : ClassId) (go : Nat → Int64) : va_W := [(o, .inl (cO, 1, .inr (.inl go)))]
abbrev th (cB cJ cO : ClassId) : List (ClassId × FieldType) := [(cB, .byte), (cJ, .long), (cO, .long)]
