/-! the statics' tables, the two objects' cells, and calls in one row -/
def rKl : List Int32 := [1, 0, 2, 3, 9, 9, 9, 12, 12, 12, 6, 7, 4, 4, 4, 4, 5, 5, 5, 5, 12, 12, 12, 12, 12, 8, 8, 8, 10, 10, 11, 11]
def rWl : List Int32 := [0, 0, 0, 0, 1, 2, 4, 1, 2, 4, 4, 8, 1, 2, 4, 8, 1, 2, 4, 8, 0, 0, 0, 0, 0, 1, 2, 4, 2, 4, 2, 4]
def rK (j : Nat) : Int32 := rKl.getD j 0
def rW (j : Nat) : Int32 := rWl.getD j 0
def zz (tk tw : Nat) (A : Nat → Prop) (U : State) (H : Heap) : Prop := va_Z "MessageReader" "ROW_KIND" "[I" (.ref tk) A U H ∧ va_T .int tk 32 (fun j => .int (rK j)) A U H ∧ va_Z "MessageReader" "ROW_WIDTH" "[I" (.ref tw) A U H ∧ va_T .int tw 32 (fun j => .int (rW j)) A U H
theorem zz_moved {tk tw : Nat} {A : Nat → Prop} {u U : State} {H : Heap} (hvm : u.vm.Alike U.vm) (h : zz tk tw A u H) : zz tk tw A U H := ⟨h.1.moved hvm, h.2.1.moved hvm, h.2.2.1.moved hvm, h.2.2.2.moved hvm⟩
theorem zz_kept {tk tw : Nat} {A : Nat → Prop} {U : State} {H H1 : Heap} (h : zz tk tw A U H) (hq : ∀ a : Nat, a < H.size → ¬ A a → H1[a]? = H[a]?) : zz tk tw A U H1 := ⟨h.1.kept hq, h.2.1.kept hq, h.2.2.1.kept hq, h.2.2.2.kept hq⟩
theorem zz_narrow {tk tw : Nat} {A B : Nat → Prop} {U : State} {H : Heap} (h : zz tk tw A U H) (hAB : ∀ q, B q → A q) : zz tk tw B U H := ⟨h.1.narrow hAB, h.2.1.narrow hAB, h.2.2.1.narrow hAB, h.2.2.2.narrow hAB⟩
abbrev pr (dC : Nat → ClassId) (dI : Nat → Nat → Nat) (tys : List (ClassId × FieldType)) (ws : va_W) (sz tk tw : Nat) : State → Prop := fun U => U.heap.size = sz ∧ va_P (dC, dI) vwCl ws U.heap ∧ va_K (dC, dI) vwCl tys U ∧ va_D (fun _ => True) ws ∧ zz tk tw (va_A ws sz) U U.heap
abbrev po (dC : Nat → ClassId) (dI : Nat → Nat → Nat) (tys : List (ClassId × FieldType)) (A : Nat → Prop) (ws : va_W) : State → Prop := fun t => va_P (dC, dI) vwCl ws t.heap ∧ va_K (dC, dI) vwCl tys t ∧ va_D A ws
abbrev p0 (sz tk tw : Nat) : State → Prop := fun U => U.heap.size = sz ∧ zz tk tw (va_A [] sz) U U.heap
theorem fr_all {A : Nat → Prop} {ws : va_W} {H0 H : Heap} {locs : List Loc} (hD : va_D A ws) (hS : va_S A H0 H locs) (hA : ∀ q, H0.size ≤ q → A q) : ∀ q, va_A ws H.size q → A q := by
  intro q h
  rcases h with ⟨k, e, h⟩ | h
  · exact hD.2 k (q, e) h
  · exact hA q (Nat.le_trans hS.1 h)
theorem fr_nil {A : Nat → Prop} {H0 H : Heap} {locs : List Loc} (hS : va_S A H0 H locs) (hA : ∀ q, H0.size ≤ q → A q) : ∀ q, va_A [] H.size q → A q := by
  intro q h
  rcases h with ⟨k, e, h⟩ | h
  · simp at h
  · exact hA q (Nat.le_trans hS.1 h)
theorem nA_nil {q sz : Nat} (h : q < sz) : ¬ va_A [] sz q := by
  intro z
  rcases z with ⟨k, e, z⟩ | z
  · simp at z
  · omega
section GC
variable {p : Program} {l : Launch} {e : Env} {R : Room} {s : State} {m : MethodId} {args : Array Value} {below : List Frame} {meth : Method} {c : Code} {H : Heap} {locs : List Loc} {cells slots : Nat} {Q : State → Prop}
variable {y : MethodName} {bytes cc : ByteArray} {maxL nL mc ms n index : Nat} {ret : Option FieldType} {w : List Cond} {rm : Room} {Ts : List Cond} {own C : String} {b : Addr} {As rest st0 : List Value} {pc : Nat} {ls : Array Slot}
variable {dC : Nat → ClassId} {dI : Nat → Nat → Nat} {tys : List (ClassId × FieldType)} {ws : va_W} {A : Nat → Prop} {tk tw : Nat} {S : Type} {W1 : S → va_W} {q0 ci : Nat} {q : vw_C} {fs : List Value}
theorem gvi {post : Int32 → S → Prop} (X : CallFix p m c cc nL s args Ts own)
    (hM : Met l y w rm (va_Pc (.ref b :: As) (pr dC dI tys ws H.size tk tw)) (va_Qi post (fun u => po dC dI tys (va_A ws H.size) (W1 u)) (va_A ws H.size)) mc ms (va_A ws H.size))
    (cw : CallW R s args own C index y bytes maxL ret w rm mc ms n)
    (hK : va_K (dC, dI) vwCl tys s) (hP : va_P (dC, dI) vwCl ws H) (hD : va_D A ws) (hS : va_S A s.heap H locs) (hA : ∀ q, s.heap.size ≤ q → A q) (hZ : zz tk tw A s s.heap)
    (hc : vwCl[ci]? = some q) (hq : q.1 = C) (he : ws[q0]? = some (b, .inr (ci, fs)))
    (hn : As.length = n) (hsize : ls.size = nL) (hstack : st0 = As.reverse ++ .ref b :: rest) (hW : (rest.map fun v => v.category).sum ≤ 8) (hdg : decode cc pc = .ok (.invokevirtual index, 3)) (hf : cells + mc ≤ R.cells ∧ slots + ms ≤ R.slots)
    (kk : ∀ (r : Int32) (u : S) (H1 : Heap) (locs1 : List Loc), post r u → va_P (dC, dI) vwCl (W1 u) H1 → va_D A (W1 u) → va_S A s.heap H1 locs1 → W p l e R s m args below meth c H1 locs1 (cells + mc) (slots + ms) Q (F0 m (pc + 3) ls (.int r :: rest))) : W p l e R s m args below meth c H locs cells slots Q (F0 m pc ls st0) := by
  have hF := fr_all hD hS hA
  subst hq
  refine va_calli (va_runV (As := As) (rest := rest) X hM cw ⟨fun a U g mk q => ?_, va_recv hK hP hc he, fun U hU hW => ?_⟩ rfl hn hsize hstack (lv_room hW) hdg hf) hS (fun q _ h => hF q h) hF (fun r u t H1 locs1 ht hvm hw hB hz1 hk1 hS1 => ?_)
  · obtain ⟨q0, q1, qP, qK, qD, qZ⟩ := q
    exact ⟨q0, q1, qP, va_K.moved (u := U) (U := U.calling g mk a) (Vm.Alike.refl U.vm) qK, qD, zz_moved (u := U) (U := U.calling g mk a) (Vm.Alike.refl U.vm) qZ⟩
  · exact ⟨rfl, by rw [hU], by rw [hU]; exact hP, va_K.moved hW.alike hK, hD.weaken (fun _ _ _ _ => trivial), by rw [hU]; exact zz_moved hW.alike (zz_narrow (zz_kept hZ (fun a h1 h2 => hS.2.1 a h1 h2)) hF)⟩
  · obtain ⟨hP1, hK1, hD1⟩ := hB
    rw [ht] at hP1
    exact kk r u H1 locs1 hw hP1 (hD1.weaken (fun _ q _ h => hF q.1 h)) hS1
theorem gvl {post : Int64 → S → Prop} (X : CallFix p m c cc nL s args Ts own)
    (hM : Met l y w rm (va_Pc (.ref b :: As) (pr dC dI tys ws H.size tk tw)) (va_Ql post (fun u => po dC dI tys (va_A ws H.size) (W1 u)) (va_A ws H.size)) mc ms (va_A ws H.size))
    (cw : CallW R s args own C index y bytes maxL ret w rm mc ms n)
    (hK : va_K (dC, dI) vwCl tys s) (hP : va_P (dC, dI) vwCl ws H) (hD : va_D A ws) (hS : va_S A s.heap H locs) (hA : ∀ q, s.heap.size ≤ q → A q) (hZ : zz tk tw A s s.heap)
    (hc : vwCl[ci]? = some q) (hq : q.1 = C) (he : ws[q0]? = some (b, .inr (ci, fs)))
    (hn : As.length = n) (hsize : ls.size = nL) (hstack : st0 = As.reverse ++ .ref b :: rest) (hW : (rest.map fun v => v.category).sum ≤ 8) (hdg : decode cc pc = .ok (.invokevirtual index, 3)) (hf : cells + mc ≤ R.cells ∧ slots + ms ≤ R.slots)
    (kk : ∀ (r : Int64) (u : S) (H1 : Heap) (locs1 : List Loc), post r u → va_P (dC, dI) vwCl (W1 u) H1 → va_D A (W1 u) → va_S A s.heap H1 locs1 → W p l e R s m args below meth c H1 locs1 (cells + mc) (slots + ms) Q (F0 m (pc + 3) ls (.long r :: rest))) : W p l e R s m args below meth c H locs cells slots Q (F0 m pc ls st0) := by
  have hF := fr_all hD hS hA
  subst hq
  refine va_calll (va_runV (As := As) (rest := rest) X hM cw ⟨fun a U g mk q => ?_, va_recv hK hP hc he, fun U hU hW => ?_⟩ rfl hn hsize hstack (lv_room hW) hdg hf) hS (fun q _ h => hF q h) hF (fun r u t H1 locs1 ht hvm hw hB hz1 hk1 hS1 => ?_)
  · obtain ⟨q0, q1, qP, qK, qD, qZ⟩ := q
    exact ⟨q0, q1, qP, va_K.moved (u := U) (U := U.calling g mk a) (Vm.Alike.refl U.vm) qK, qD, zz_moved (u := U) (U := U.calling g mk a) (Vm.Alike.refl U.vm) qZ⟩
  · exact ⟨rfl, by rw [hU], by rw [hU]; exact hP, va_K.moved hW.alike hK, hD.weaken (fun _ _ _ _ => trivial), by rw [hU]; exact zz_moved hW.alike (zz_narrow (zz_kept hZ (fun a h1 h2 => hS.2.1 a h1 h2)) hF)⟩
  · obtain ⟨hP1, hK1, hD1⟩ := hB
    rw [ht] at hP1
    exact kk r u H1 locs1 hw hP1 (hD1.weaken (fun _ q _ h => hF q.1 h)) hS1
theorem gvv {post : S → Prop} (X : CallFix p m c cc nL s args Ts own)
    (hM : Met l y w rm (va_Pc (.ref b :: As) (pr dC dI tys ws H.size tk tw)) (va_Qv post (fun u => po dC dI tys (va_A ws H.size) (W1 u)) (va_A ws H.size)) mc ms (va_A ws H.size))
    (cw : CallW R s args own C index y bytes maxL ret w rm mc ms n)
    (hK : va_K (dC, dI) vwCl tys s) (hP : va_P (dC, dI) vwCl ws H) (hD : va_D A ws) (hS : va_S A s.heap H locs) (hA : ∀ q, s.heap.size ≤ q → A q) (hZ : zz tk tw A s s.heap)
    (hc : vwCl[ci]? = some q) (hq : q.1 = C) (he : ws[q0]? = some (b, .inr (ci, fs)))
    (hn : As.length = n) (hsize : ls.size = nL) (hstack : st0 = As.reverse ++ .ref b :: rest) (hW : (rest.map fun v => v.category).sum ≤ 8) (hdg : decode cc pc = .ok (.invokevirtual index, 3)) (hf : cells + mc ≤ R.cells ∧ slots + ms ≤ R.slots)
    (kk : ∀ (u : S) (H1 : Heap) (locs1 : List Loc), post u → va_P (dC, dI) vwCl (W1 u) H1 → va_D A (W1 u) → va_S A s.heap H1 locs1 → W p l e R s m args below meth c H1 locs1 (cells + mc) (slots + ms) Q (F0 m (pc + 3) ls rest)) : W p l e R s m args below meth c H locs cells slots Q (F0 m pc ls st0) := by
  have hF := fr_all hD hS hA
  subst hq
  refine va_callv (va_runV (As := As) (rest := rest) X hM cw ⟨fun a U g mk q => ?_, va_recv hK hP hc he, fun U hU hW => ?_⟩ rfl hn hsize hstack (lv_room hW) hdg hf) hS (fun q _ h => hF q h) hF (fun u t H1 locs1 ht hvm hw hB hz1 hk1 hS1 => ?_)
  · obtain ⟨q0, q1, qP, qK, qD, qZ⟩ := q
    exact ⟨q0, q1, qP, va_K.moved (u := U) (U := U.calling g mk a) (Vm.Alike.refl U.vm) qK, qD, zz_moved (u := U) (U := U.calling g mk a) (Vm.Alike.refl U.vm) qZ⟩
  · exact ⟨rfl, by rw [hU], by rw [hU]; exact hP, va_K.moved hW.alike hK, hD.weaken (fun _ _ _ _ => trivial), by rw [hU]; exact zz_moved hW.alike (zz_narrow (zz_kept hZ (fun a h1 h2 => hS.2.1 a h1 h2)) hF)⟩
  · obtain ⟨hP1, hK1, hD1⟩ := hB
    rw [ht] at hP1
    exact kk u H1 locs1 hw hP1 (hD1.weaken (fun _ q _ h => hF q.1 h)) hS1
theorem gsi {post : Int32 → Unit → Prop} (X : CallFix p m c cc nL s args Ts own)
    (hM : Met l y w rm (va_Pc As (p0 H.size tk tw)) (va_Qi post (fun _ _ => True) (va_A [] H.size)) mc ms (va_A [] H.size))
    (cw : CallB R s args own index y bytes maxL ret w rm mc ms n ∧ (Cond.static y).before args s = true)
    (hP : va_P (dC, dI) vwCl ws H) (hS : va_S A s.heap H locs) (hA : ∀ q, s.heap.size ≤ q → A q) (hZ : zz tk tw A s s.heap)
    (hn : As.length = n) (hsize : ls.size = nL) (hstack : st0 = As.reverse ++ rest) (hW : (rest.map fun v => v.category).sum ≤ 8) (hdg : decode cc pc = .ok (.invokestatic index, 3)) (hf : cells + mc ≤ R.cells ∧ slots + ms ≤ R.slots)
    (kk : ∀ (r : Int32) (H1 : Heap) (locs1 : List Loc), post r () → va_P (dC, dI) vwCl ws H1 → va_S A s.heap H1 locs1 → W p l e R s m args below meth c H1 locs1 (cells + mc) (slots + ms) Q (F0 m (pc + 3) ls (.int r :: rest))) : W p l e R s m args below meth c H locs cells slots Q (F0 m pc ls st0) := by
  have hF := fr_nil hS hA
  refine va_calli (va_runS (As := As) (rest := rest) X hM cw ⟨fun a U g mk q => ?_, fun U hU hW => ?_⟩ rfl hn hsize hstack (lv_room hW) hdg hf) hS (fun q _ h => hF q h) hF (fun r u t H1 locs1 ht hvm hw hB hz1 hk1 hS1 => ?_)
  · obtain ⟨q0, q1, qZ⟩ := q
    exact ⟨q0, q1, zz_moved (u := U) (U := U.calling g mk a) (Vm.Alike.refl U.vm) qZ⟩
  · exact ⟨rfl, by rw [hU], by rw [hU]; exact zz_moved hW.alike (zz_narrow (zz_kept hZ (fun a h1 h2 => hS.2.1 a h1 h2)) hF)⟩
  · exact kk r H1 locs1 hw (hP.kept (fun k x hk => hk1 x.1 (hP k x hk).lt (nA_nil (hP k x hk).lt))) hS1
theorem gsl {post : Int64 → Unit → Prop} (X : CallFix p m c cc nL s args Ts own)
    (hM : Met l y w rm (va_Pc As (p0 H.size tk tw)) (va_Ql post (fun _ _ => True) (va_A [] H.size)) mc ms (va_A [] H.size))
    (cw : CallB R s args own index y bytes maxL ret w rm mc ms n ∧ (Cond.static y).before args s = true)
    (hP : va_P (dC, dI) vwCl ws H) (hS : va_S A s.heap H locs) (hA : ∀ q, s.heap.size ≤ q → A q) (hZ : zz tk tw A s s.heap)
    (hn : As.length = n) (hsize : ls.size = nL) (hstack : st0 = As.reverse ++ rest) (hW : (rest.map fun v => v.category).sum ≤ 8) (hdg : decode cc pc = .ok (.invokestatic index, 3)) (hf : cells + mc ≤ R.cells ∧ slots + ms ≤ R.slots)
    (kk : ∀ (r : Int64) (H1 : Heap) (locs1 : List Loc), post r () → va_P (dC, dI) vwCl ws H1 → va_S A s.heap H1 locs1 → W p l e R s m args below meth c H1 locs1 (cells + mc) (slots + ms) Q (F0 m (pc + 3) ls (.long r :: rest))) : W p l e R s m args below meth c H locs cells slots Q (F0 m pc ls st0) := by
  have hF := fr_nil hS hA
  refine va_calll (va_runS (As := As) (rest := rest) X hM cw ⟨fun a U g mk q => ?_, fun U hU hW => ?_⟩ rfl hn hsize hstack (lv_room hW) hdg hf) hS (fun q _ h => hF q h) hF (fun r u t H1 locs1 ht hvm hw hB hz1 hk1 hS1 => ?_)
  · obtain ⟨q0, q1, qZ⟩ := q
    exact ⟨q0, q1, zz_moved (u := U) (U := U.calling g mk a) (Vm.Alike.refl U.vm) qZ⟩
  · exact ⟨rfl, by rw [hU], by rw [hU]; exact zz_moved hW.alike (zz_narrow (zz_kept hZ (fun a h1 h2 => hS.2.1 a h1 h2)) hF)⟩
  · exact kk r H1 locs1 hw (hP.kept (fun k x hk => hk1 x.1 (hP k x hk).lt (nA_nil (hP k x hk).lt))) hS1
end GC
abbrev w0 (h a b : Nat) (cB cJ : ClassId) (f : Nat → Int32) (g : Nat → Int64) (sz cn gv op : Int32) : va_W := [(h, .inr (0, [.ref a, .int sz, .int cn, .int gv, .ref b, .int op])), (a, .inl (cB, 4096, .inl f)), (b, .inl (cJ, 100, .inr (.inl g)))]
abbrev w1 (h a b : Nat) (cI cJ : ClassId) (f : Nat → Int32) (g : Nat → Int64) (th sz cn so : Int32) (nu : Int64) (ty hd : Int32) (pa ch : Int64) (lk lo hi lp ll lv : Int32) : va_W := [(h, .inr (1, [.int th, .ref a, .int sz, .int cn, .int so, .long nu, .int ty, .int hd, .long pa, .long ch, .int lk, .int lo, .int hi, .int lp, .int ll, .ref b, .int lv])), (a, .inl (cI, 4096, .inl f)), (b, .inl (cJ, 100, .inr (.inl g)))]
abbrev t0 (cB cJ : ClassId) : List (ClassId × FieldType) := [(cB, .byte), (cJ, .long)]
abbrev t1 (cI cJ : ClassId) : List (ClassId × FieldType) := [(cI, .int), (cJ, .long)]
