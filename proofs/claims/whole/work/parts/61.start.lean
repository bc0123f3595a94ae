set_option maxHeartbeats 8000000 in
set_option maxRecDepth 100000 in
theorem whole_start {p : Program} {e : Env} {s : State} {m : MethodId} {below : List Frame} {meth : Method} {c : Code} (l : Launch) (hst : l.stackTraces = false) {b L : Nat} {xs : Nat → Int32} (hL : L ≤ 2048) (C0 : lw_At p s m meth c b L xs) : W p l e room_1 s m #[Value.ref b] below meth c s.heap [] 0 0 (lw_Z below #[Value.ref b] s) (entryFrame m ([Value.ref b] : List Value).toArray 8) := by
  obtain ⟨hx, hb, hr, hml, hown, hts0, hXs, hbl, hlocks, hgv⟩ := C0
  have hown : s.vm.findClass RL = some m.cls := hown
  have hts : ∀ w ∈ wsL_law, w.before #[Value.ref b] s = true := fun w h => hts0 w (wsL_law_in w h)
  have hfl := flat_of_before _ hgv
  have hnA : ∀ a : Nat, a < s.heap.size → ¬ (fun q : Nat => s.heap.size ≤ q) a := fun a h => Nat.not_le.mpr h
  have hA : ∀ q : Nat, s.heap.size ≤ q → (fun q : Nat => s.heap.size ≤ q) q := fun _ h => h
  obtain ⟨tk, htk, hTk⟩ := va_Tof (tm := .static "MessageReader" "ROW_KIND" "[I") (ty := .int) (N := 32) (f := fun j => .int (rK j)) (A := (fun q : Nat => s.heap.size ≤ q)) (by decide) (hfl _ mK_arr) (va_eqt (hfl _ mK_len)) (fun j hj => va_eqt (hfl _ (mK_el j hj))) hnA
  have hZk : va_Z "MessageReader" "ROW_KIND" "[I" (.ref tk) (fun q : Nat => s.heap.size ≤ q) s s.heap := va_Zref (hts0 (.laysStatic "MessageReader" "ROW_KIND" "[I") (by decide +kernel)) (hts0 (.initialized "MessageReader") (by decide +kernel)) htk hnA
  obtain ⟨tw, htw, hTw⟩ := va_Tof (tm := .static "MessageReader" "ROW_WIDTH" "[I") (ty := .int) (N := 32) (f := fun j => .int (rW j)) (A := (fun q : Nat => s.heap.size ≤ q)) (by decide) (hfl _ mW_arr) (va_eqt (hfl _ mW_len)) (fun j hj => va_eqt (hfl _ (mW_el j hj))) hnA
  have hZw : va_Z "MessageReader" "ROW_WIDTH" "[I" (.ref tw) (fun q : Nat => s.heap.size ≤ q) s s.heap := va_Zref (hts0 (.laysStatic "MessageReader" "ROW_WIDTH" "[I") (by decide +kernel)) (hts0 (.initialized "MessageReader") (by decide +kernel)) htw hnA
  have hZ : zz tk tw (fun q : Nat => s.heap.size ≤ q) s s.heap := ⟨hZk, hTk, hZw, hTw⟩
  obtain ⟨sa, hsa⟩ : ∃ sa : Nat → Nat, ∀ q ∈ strs, vk_R RX0 q.1 q.2 (sa q.1) s := by
    have h1 : ∀ q ∈ strs, ∃ a, (Term.string RX0 q.1).eval #[Value.ref b] s none [] s = some (.ref a) := fun q hq => by
      obtain ⟨a, -, -, -, ha, -⟩ := Cond.exactly_spec (hfl _ (mS_ex q hq))
      exact ⟨a, ha⟩
    have h4 : ∀ k : Nat, ∃ a : Nat, (∃ x : Nat, (Term.string RX0 k).eval #[Value.ref b] s none [] s = some (.ref x)) → (Term.string RX0 k).eval #[Value.ref b] s none [] s = some (.ref a) := fun k => (Classical.em (∃ x : Nat, (Term.string RX0 k).eval #[Value.ref b] s none [] s = some (.ref x))).elim (fun ⟨x, hx⟩ => ⟨x, fun _ => hx⟩) (fun h => ⟨0, fun h' => absurd h' h⟩)
    exact ⟨fun k => (h4 k).choose, fun q hq => vk_R.of (hts0 _ (mS_ref q hq)) ((h4 q.1).choose_spec (h1 q hq))⟩
  have hX : zx sa (fun q : Nat => s.heap.size ≤ q) s s.heap := ⟨vx_Zqof (hts0 (.laysStatic Bundle.tN "UNASSIGNED_STACK" Bundle.steD) (by decide +kernel)) (hts0 (.initialized Bundle.tN) (by decide +kernel)) (hfl _ mU_ref) hnA, vx_Zqof (hts0 (.laysStatic Bundle.tN "SUPPRESSED_SENTINEL" Bundle.listD) (by decide +kernel)) (hts0 (.initialized Bundle.tN) (by decide +kernel)) (hfl _ mN_ref) hnA, hsa, va_Nw.of rfl (hts0 cdI (by decide +kernel)), va_Nw.of rfl (hts0 cdS (by decide +kernel)), va_Nw.of rfl (hts0 cdR (by decide +kernel)), va_Nw.of rfl (hts0 cdE (by decide +kernel)), va_Nw.of rfl (hts0 cdT (by decide +kernel)), va_Nc.of (hfl _ mC_not)⟩
  obtain ⟨c0, iS0, hKn0⟩ := u_known (C := RX0) (T := TX0) (N := 6) (n := 6) hts0 inX0 (hts0 (.instantiable RX0 6) (by decide +kernel))
  obtain ⟨c1, iS1, hKn1⟩ := u_known (C := RX1) (T := TX1) (N := 17) (n := 17) hts0 inX1 (hts0 (.instantiable RX1 17) (by decide +kernel))
  obtain ⟨dC, dI, hKc⟩ : ∃ (dC : Nat → ClassId) (dI : Nat → Nat → Nat), ∀ (k : Nat) (q : vw_C), vwCl[k]? = some q → u_Kn s q.1 q.2.1 q.2.2 (dC k) (dI k) := by
    refine ⟨fun k => if k = 0 then c0 else c1, fun k => if k = 0 then iS0 else iS1, ?_⟩
    intro k q hq
    match k, hq with
    | 0, hq => cases hq; exact hKn0
    | 1, hq => cases hq; exact hKn1
    | k + 2, hq => simp [vwCl] at hq
  have hS : va_S (fun q : Nat => s.heap.size ≤ q) s.heap s.heap [] := va_S.rf
  have hK : va_K (dC, dI) vwCl [] s := ⟨hKc, fun k q h => by simp at h⟩
  have hP : va_P (dC, dI) vwCl [] s.heap := fun k q h => by simp at h
  have hD : va_D (fun q : Nat => s.heap.size ≤ q) [] := ⟨fun i j p q h => by simp at h, fun k q h => by simp at h⟩
  have hl := lv_entry ([.ref b]) (n := 8) (Nat.le_of_ble_eq_true rfl)
  rw [lg_entry_eq]
  generalize (lg_sl ([.ref b]) ++ List.replicate (8 - (lg_sl ([.ref b])).length) Slot.unset).toArray = ls at hl ⊢
  have hl : lv_has ls 8 [(0, .ref b)] := hl
  refine va_new (ci := 0) (fs := [.null, .int 0, .int 0, .int 0, .null, .int 0]) (C := RX0) (T := TX0) (N := 6) hx hb hts0 inX0 tyX0 tyX0_ok hown (hts0 (.classLink RL 8 RX0) (by decide +kernel)) (hts0 (.instantiable RX0 6) (by decide +kernel)) (hts0 (.initialized RX0) (by decide +kernel)) hK hP hD hS hA rfl (fun j hj => by rcases (show j = 0 ∨ j = 1 ∨ j = 2 ∨ j = 3 ∨ j = 4 ∨ j = 5 by omega) with rfl | rfl | rfl | rfl | rfl | rfl <;> rfl) (Nat.le_of_ble_eq_true rfl) (Nat.le_of_ble_eq_true rfl) dL_law_0 (fun h H hP hD hS => ?_)
  have hP : va_P (dC, dI) vwCl [(h, .inr (0, [.null, .int 0, .int 0, .int 0, .null, .int 0]))] H := hP
  have hD : va_D (fun q : Nat => s.heap.size ≤ q) [(h, .inr (0, [.null, .int 0, .int 0, .int 0, .null, .int 0]))] := hD
  refine lv_dup hx hb dL_law_3 rfl ?_
  have hFc := va_free (wc := [(h, .inr (0, [.null, .int 0, .int 0, .int 0, .null, .int 0]))]) hD hS hA [0] rfl
  refine va_callv (va_runI (As := []) (rest := [.ref h]) ⟨hx, hb, hml, hown, hts⟩ (c_X0_init l dC dI h H.size) (cwI 0 hts gL_law_X0_init rfl rfl rfl (hts (.initialized RX0) (by decide +kernel)) (hts (.methodLink RL 35 yX0_init) (by decide +kernel)) (hts (.instanceMethod yX0_init) (by decide +kernel)) rfl (by decide +kernel) ⟨(Nat.le_of_ble_eq_true rfl), (Nat.le_of_ble_eq_true rfl)⟩) ⟨fun a U g mk q => by obtain ⟨q0, q1, qP, qK, qD⟩ := q; exact ⟨q0, q1, qP, va_K.moved (u := U) (U := U.calling g mk a) (Vm.Alike.refl U.vm) qK, qD⟩, fun U hU hW => ⟨rfl, by rw [hU], by rw [hU]; exact hP, va_K.moved hW.alike hK, hD.weaken (fun _ _ _ _ => trivial)⟩⟩ rfl rfl hl.1 rfl (lv_room (Nat.le_of_ble_eq_true rfl)) dL_law_4 ⟨(Nat.le_of_ble_eq_true rfl), (Nat.le_of_ble_eq_true rfl)⟩) hS (fun q _ h => hFc q h) hFc (fun u t H1 locs ht hvm hw hB hz1 hk1 hS => ?_)
  obtain ⟨a, b0, cB, cJ⟩ := u
  obtain ⟨hP1, hK1, hD1⟩ := hB
  rw [ht] at hP1
  have hKx := va_K.moved hvm.symm hK1
  obtain ⟨hP, hD⟩ := va_join (wr := []) (w1 := w0 h a b0 cB cJ (fun _ => 0) (fun _ => 0) 0 0 (-1) 0) hP hD [0] [] rfl rfl (by decide) (by decide) hk1 hFc hP1 hD1
  clear hP1 hK1 hD1 hz1 hk1 hFc
  generalize H1 = H at hP hS ⊢
  have hP : va_P (dC, dI) vwCl (w0 h a b0 cB cJ (fun _ => 0) (fun _ => 0) 0 0 (-1) 0) H := hP
  have hD : va_D (fun q : Nat => s.heap.size ≤ q) (w0 h a b0 cB cJ (fun _ => 0) (fun _ => 0) 0 0 (-1) 0) := hD
  have hKx : va_K (dC, dI) vwCl (t0 cB cJ) s := hKx
  refine lv_astore_n (lv' := [(1, .ref h), (0, .ref b)]) hx hb dL_law_7 rfl hl (by decide) rfl (fun ls hl => ?_)
  refine va_new (ci := 1) (fs := [.int 0, .null, .int 0, .int 0, .int 0, .long 0, .int 0, .int 0, .long 0, .long 0, .int 0, .int 0, .int 0, .int 0, .int 0, .null, .int 0]) (C := RX1) (T := TX1) (N := 17) hx hb hts0 inX1 tyX1 tyX1_ok hown (hts0 (.classLink RL 36 RX1) (by decide +kernel)) (hts0 (.instantiable RX1 17) (by decide +kernel)) (hts0 (.initialized RX1) (by decide +kernel)) hKx hP hD hS hA rfl (fun j hj => by rcases (show j = 0 ∨ j = 1 ∨ j = 2 ∨ j = 3 ∨ j = 4 ∨ j = 5 ∨ j = 6 ∨ j = 7 ∨ j = 8 ∨ j = 9 ∨ j = 10 ∨ j = 11 ∨ j = 12 ∨ j = 13 ∨ j = 14 ∨ j = 15 ∨ j = 16 by omega) with rfl | rfl | rfl | rfl | rfl | rfl | rfl | rfl | rfl | rfl | rfl | rfl | rfl | rfl | rfl | rfl | rfl <;> rfl) (Nat.le_of_ble_eq_true rfl) (Nat.le_of_ble_eq_true rfl) dL_law_8 (fun h1 H hP hD hS => ?_)
  have hP : va_P (dC, dI) vwCl (w0 h a b0 cB cJ (fun _ => 0) (fun _ => 0) 0 0 (-1) 0 ++ [(h1, .inr (1, [.int 0, .null, .int 0, .int 0, .int 0, .long 0, .int 0, .int 0, .long 0, .long 0, .int 0, .int 0, .int 0, .int 0, .int 0, .null, .int 0]))]) H := hP
  have hD : va_D (fun q : Nat => s.heap.size ≤ q) (w0 h a b0 cB cJ (fun _ => 0) (fun _ => 0) 0 0 (-1) 0 ++ [(h1, .inr (1, [.int 0, .null, .int 0, .int 0, .int 0, .long 0, .int 0, .int 0, .long 0, .long 0, .int 0, .int 0, .int 0, .int 0, .int 0, .null, .int 0]))]) := hD
  refine lv_dup hx hb dL_law_11 rfl ?_
  have hPc := hP.sub (ws' := [(h1, .inr (1, [.int 0, .null, .int 0, .int 0, .int 0, .long 0, .int 0, .int 0, .long 0, .long 0, .int 0, .int 0, .int 0, .int 0, .int 0, .null, .int 0]))]) [3] rfl
  have hDc := hD.sub (ws' := [(h1, .inr (1, [.int 0, .null, .int 0, .int 0, .int 0, .long 0, .int 0, .int 0, .long 0, .long 0, .int 0, .int 0, .int 0, .int 0, .int 0, .null, .int 0]))]) [3] (by decide) rfl
  have hFc := va_free (wc := [(h1, .inr (1, [.int 0, .null, .int 0, .int 0, .int 0, .long 0, .int 0, .int 0, .long 0, .long 0, .int 0, .int 0, .int 0, .int 0, .int 0, .null, .int 0]))]) hD hS hA [3] rfl
  refine va_callv (va_runI (As := []) (rest := [.ref h1]) ⟨hx, hb, hml, hown, hts⟩ (c_X1_init l dC dI h1 H.size) (cwI 0 hts gL_law_X1_init rfl rfl rfl (hts (.initialized RX1) (by decide +kernel)) (hts (.methodLink RL 38 yX1_init) (by decide +kernel)) (hts (.instanceMethod yX1_init) (by decide +kernel)) rfl (by decide +kernel) ⟨(Nat.le_of_ble_eq_true rfl), (Nat.le_of_ble_eq_true rfl)⟩) ⟨fun a U g mk q => by obtain ⟨q0, q1, qP, qK, qD⟩ := q; exact ⟨q0, q1, qP, va_K.moved (u := U) (U := U.calling g mk a) (Vm.Alike.refl U.vm) qK, qD⟩, fun U hU hW => ⟨rfl, by rw [hU], by rw [hU]; exact hPc, va_K.moved hW.alike hK, hDc.weaken (fun _ _ _ _ => trivial)⟩⟩ rfl rfl hl.1 rfl (lv_room (Nat.le_of_ble_eq_true rfl)) dL_law_12 ⟨(Nat.le_of_ble_eq_true rfl), (Nat.le_of_ble_eq_true rfl)⟩) hS (fun q _ h => hFc q h) hFc (fun u t H1 locs ht hvm hw hB hz1 hk1 hS => ?_)
  obtain ⟨a1, b1, cI, cK⟩ := u
  obtain ⟨hP1, hK1, hD1⟩ := hB
  rw [ht] at hP1
  have hKm := va_K.moved hvm.symm hK1
  obtain ⟨hP, hD⟩ := va_join (wr := w0 h a b0 cB cJ (fun _ => 0) (fun _ => 0) 0 0 (-1) 0) (w1 := w1 h1 a1 b1 cI cK (fun _ => 0) (fun _ => 0) 0 0 0 0 0 0 0 0 0 (-1) 0 0 0 0 0) hP hD [3] [0, 1, 2] rfl rfl (by decide) (by decide) hk1 hFc hP1 hD1
  clear hP1 hK1 hD1 hz1 hk1 hFc hPc hDc
  generalize H1 = H at hP hS ⊢
  have hP : va_P (dC, dI) vwCl (w0 h a b0 cB cJ (fun _ => 0) (fun _ => 0) 0 0 (-1) 0 ++ w1 h1 a1 b1 cI cK (fun _ => 0) (fun _ => 0) 0 0 0 0 0 0 0 0 0 (-1) 0 0 0 0 0) H := hP
  have hD : va_D (fun q : Nat => s.heap.size ≤ q) (w0 h a b0 cB cJ (fun _ => 0) (fun _ => 0) 0 0 (-1) 0 ++ w1 h1 a1 b1 cI cK (fun _ => 0) (fun _ => 0) 0 0 0 0 0 0 0 0 0 (-1) 0 0 0 0 0) := hD
  have hK := hKx.app hKm
  have hK : va_K (dC, dI) vwCl [(cB, .byte), (cJ, .long), (cI, .int), (cK, .long)] s := hK
  refine lv_astore_n (lv' := [(2, .ref h1), (1, .ref h), (0, .ref b)]) hx hb dL_law_15 rfl hl (by decide) rfl (fun ls hl => ?_)
  refine lv_iconst (v := 1) hx hb dL_law_16 (by decide) ?_
  refine va_newa (atype := .long) (ty := .long) (a0 := (1, .inr (.inl (fun _ => 0)))) (N' := 1) hx hb (hts (.arrayClass .long) (by decide +kernel)) rfl hK hP hD hS hA (fun _ => rfl) (by decide) (by decide) (by decide) (Nat.le_of_ble_eq_true rfl) (Nat.le_of_ble_eq_true rfl) dL_law_17 (fun o cO H hK hP hD hS => ?_)
  have hK : va_K (dC, dI) vwCl (tL cB cJ cI cK cO) s := hK
  have hP : va_P (dC, dI) vwCl (w0 h a b0 cB cJ (fun _ => 0) (fun _ => 0) 0 0 (-1) 0 ++ (w1 h1 a1 b1 cI cK (fun _ => 0) (fun _ => 0) 0 0 0 0 0 0 0 0 0 (-1) 0 0 0 0 0 ++ wo o cO (fun _ => 0))) H := hP
  have hD : va_D (fun q : Nat => s.heap.size ≤ q) (w0 h a b0 cB cJ (fun _ => 0) (fun _ => 0) 0 0 (-1) 0 ++ (w1 h1 a1 b1 cI cK (fun _ => 0) (fun _ => 0) 0 0 0 0 0 0 0 0 0 (-1) 0 0 0 0 0 ++ wo o cO (fun _ => 0))) := hD
  refine lv_astore_n (lv' := [(3, .ref o), (2, .ref h1), (1, .ref h), (0, .ref b)]) hx hb dL_law_19 rfl hl (by decide) rfl (fun ls hl => ?_)
  refine lv_iconst (v := 0) hx hb dL_law_20 (by decide) ?_
  refine lv_istore (lv' := [(4, .int 0), (3, .ref o), (2, .ref h1), (1, .ref h), (0, .ref b)]) hx hb dL_law_21 hl (by decide) rfl (fun ls hl => ?_)
  have CX : LC l p s m meth c b L xs dC dI tk tw sa cB cJ cI cK cO := ⟨⟨hx, hb, hr, hml, hown, hts, hXs, hbl, hlocks⟩, hst, hL, hK, hZ, hX⟩
  refine W.widen (k := 7) (n := 8416) (by omega) (by omega) ?_
  exact law_loop CX 514 0 rfl (by decide) _ _ _ ⟨0, 0, 0, (fun _ => 0), (fun _ => 0), (fun _ => 0), -1, 0, 0, 0, 0, 0, 0, 0, -1, 0, 0, 0, 0, (fun _ => 0), by decide, Nat.le_refl _, by decide, RB_0 _ _, Or.inl ⟨rfl, rfl, rfl, rfl, rfl, rfl⟩, hP, hD, hS, lv_sub hl [4, 3, 2, 1, 0] rfl⟩
