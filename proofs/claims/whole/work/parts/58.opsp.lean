set_option maxHeartbeats 4000000 in
set_option maxRecDepth 100000 in
theorem op_pack_b {p : Program} {e : Env} {s : State} {m : MethodId} {below : List Frame} {meth : Method} {cd : Code} {l : Launch} {b L : Nat} {xs : Nat → Int32} {dC : Nat → ClassId} {dI : Nat → Nat → Nat} {tk tw : Nat} {sa : Nat → Nat} {cB cJ cI cK cO : ClassId} {h a b0 h1 a1 b1 o t : Nat} {H : Heap} {locs : List Loc} {ls : Array Slot} (CX : LC l p s m meth cd b L xs dC dI tk tw sa cB cJ cI cK cO) (ht4 : 4 * t + 4 ≤ L) (K : ∀ (H : Heap) (locs : List Loc) (ls : Array Slot), LI s b dC dI h a b0 cB cJ h1 a1 b1 cI cK o cO t H locs ls → W p l e room_1 s m #[Value.ref b] below meth cd H locs (7 + t + 1) (8416 + 6 * (t + 1)) (lw_Z below #[Value.ref b] s) (F0 m 644 ls [])) (n : Nat) (c : Nat) (k : Nat) (f : Nat → Int32) (fb : Nat → Int32) (g : Nat → Int64) (zg : Int32) (zt : Int32) (so : Int32) (nu : Int64) (ty : Int32) (hh : Int32) (pa : Int64) (ch9 : Int64) (zk : Int32) (zl : Int32) (zh : Int32) (zp : Int32) (zq : Int32) (go : Nat → Int64) (hn : n ≤ 4096) (hc : c ≤ n) (hk : k ≤ 100) (hRB : RB n f fb) (hG : GV f c zg zk zl zh zp zq) (hP : va_P (dC, dI) vwCl (w0 h a b0 cB cJ f g (nI n) (nI c) zg (nI k) ++ (w1 h1 a1 b1 cI cK fb g zt (nI n) (nI c) so nu ty hh pa ch9 zk zl zh zp zq (nI k) ++ wo o cO go)) H) (hD : va_D (fun q : Nat => s.heap.size ≤ q) (w0 h a b0 cB cJ f g (nI n) (nI c) zg (nI k) ++ (w1 h1 a1 b1 cI cK fb g zt (nI n) (nI c) so nu ty hh pa ch9 zk zl zh zp zq (nI k) ++ wo o cO go))) (hS : va_S (fun q : Nat => s.heap.size ≤ q) s.heap H locs) (hl : lv_has ls 8 [(0, .ref b), (1, .ref h), (2, .ref h1), (3, .ref o), (4, .int (nI (4 * t)))]) (hb9 : ¬ (0 < xs (4 * t + 1) ∧ xs (4 * t + 1) < 13 ∧ (¬ xs (4 * t + 1) < 8 → ¬ xs (4 * t + 2) < 0) ∧ (xs (4 * t + 1) = 12 → ¬ xs (4 * t + 3) < -128 ∧ ¬ 127 < xs (4 * t + 3)))) : W p l e room_1 s m #[Value.ref b] below meth cd H locs (7 + t) (8416 + 6 * t) (lw_Z below #[Value.ref b] s) (F0 m 564 ls []) := by
  obtain ⟨⟨hx, hb, hr, hml, hown, hts, hXs, hbl, hlocks⟩, hst, hL, hK, hZ, hX⟩ := CX
  have hA : ∀ q : Nat, s.heap.size ≤ q → (fun q : Nat => s.heap.size ≤ q) q := fun _ h => h
  have hbA : ¬ (fun q : Nat => s.heap.size ≤ q) b := Nat.not_le.mpr hbl
  have hKx := hK.sub (tys' := t0 cB cJ) [0, 1] rfl
  have hKm := hK.sub (tys' := t1 cI cK) [2, 3] rfl
  have hKh := hK.sub (tys' := th cB cJ cO) [0, 1, 4] rfl
  refine lv_aload_n hx hb dL_law_564 rfl (lv_at hl 1 rfl) ?_
  refine lv_aload_n hx hb dL_law_565 rfl (lv_at hl 0 rfl) ?_
  refine lv_iload hx hb dL_law_566 (lv_at hl 4 rfl) ?_
  refine lv_iconst (v := 1) hx hb dL_law_568 (by decide) ?_
  refine lv_iadd hx hb dL_law_569 ?_
  have e_1 : (nI (4 * t) + (1 : Int32)) = nI (4 * t + 1) := nI_add (4 * t) 1
  rw [e_1]
  refine va_sld hx hb hXs hbl hbA hS (vp_in_nI (by omega) (by omega)) dL_law_570 ?_
  rw [nI_clamp (by omega)]
  refine lv_aload_n hx hb dL_law_571 rfl (lv_at hl 0 rfl) ?_
  refine lv_iload hx hb dL_law_572 (lv_at hl 4 rfl) ?_
  refine lv_iconst (v := 2) hx hb dL_law_574 (by decide) ?_
  refine lv_iadd hx hb dL_law_575 ?_
  have e_2 : (nI (4 * t) + (2 : Int32)) = nI (4 * t + 2) := nI_add (4 * t) 2
  rw [e_2]
  refine va_sld hx hb hXs hbl hbA hS (vp_in_nI (by omega) (by omega)) dL_law_576 ?_
  rw [nI_clamp (by omega)]
  refine lv_aload_n hx hb dL_law_577 rfl (lv_at hl 0 rfl) ?_
  refine lv_iload hx hb dL_law_578 (lv_at hl 4 rfl) ?_
  refine lv_iconst (v := 3) hx hb dL_law_580 (by decide) ?_
  refine lv_iadd hx hb dL_law_581 ?_
  have e_3 : (nI (4 * t) + (3 : Int32)) = nI (4 * t + 3) := nI_add (4 * t) 3
  rw [e_3]
  refine va_sld hx hb hXs hbl hbA hS (vp_in_nI (by omega) (by omega)) dL_law_582 ?_
  rw [nI_clamp (by omega)]
  refine lv_aload_n hx hb dL_law_583 rfl (lv_at hl 3 rfl) ?_
  have hP : va_P (dC, dI) vwCl ((w0 h a b0 cB cJ f g (nI n) (nI c) zg (nI k) ++ wo o cO go) ++ w1 h1 a1 b1 cI cK fb g zt (nI n) (nI c) so nu ty hh pa ch9 zk zl zh zp zq (nI k)) H := hP.sub [0, 1, 2, 6, 3, 4, 5] rfl
  have hD : va_D (fun q : Nat => s.heap.size ≤ q) ((w0 h a b0 cB cJ f g (nI n) (nI c) zg (nI k) ++ wo o cO go) ++ w1 h1 a1 b1 cI cK fb g zt (nI n) (nI c) so nu ty hh pa ch9 zk zl zh zp zq (nI k)) := hD.sub [0, 1, 2, 6, 3, 4, 5] (by decide) rfl
  refine ghi (wc := w0 h a b0 cB cJ f g (nI n) (nI c) zg (nI k) ++ wo o cO go) (wr := w1 h1 a1 b1 cI cK fb g zt (nI n) (nI c) so nu ty hh pa ch9 zk zl zh zp zq (nI k)) (As := [.ref h, .int (xs (4 * t + 1)), .int (xs (4 * t + 2)), .int (xs (4 * t + 3)), .ref o]) (rest := []) ⟨hx, hb, hml, hown, hts⟩ (c_L_pack_b l hst sa dC dI tk tw h a b0 cB cJ o cO go _ f g (nI n) (nI c) zg (nI k) (xs (4 * t + 1)) (xs (4 * t + 2)) (xs (4 * t + 3)) hb9) (vx_cwSW 5 hts gL_law_L_pack rfl rfl rfl (by decide +kernel) ⟨Nat.le_of_ble_eq_true rfl, Nat.le_of_ble_eq_true rfl⟩) hKh hP hD hS hA hZ hX rfl hl.1 rfl (Nat.le_of_ble_eq_true rfl) dL_law_584 ⟨by show _ ≤ 1042; omega, by show _ ≤ 16674; omega⟩ (fun r_4 u_6 H locs hw_5 hP hD hS => ?_)
  have hP : va_P (dC, dI) vwCl ((w0 h a b0 cB cJ f g (nI n) (nI c) zg (nI k) ++ wo o cO go) ++ w1 h1 a1 b1 cI cK fb g zt (nI n) (nI c) so nu ty hh pa ch9 zk zl zh zp zq (nI k)) H := hP
  have hD : va_D (fun q : Nat => s.heap.size ≤ q) ((w0 h a b0 cB cJ f g (nI n) (nI c) zg (nI k) ++ wo o cO go) ++ w1 h1 a1 b1 cI cK fb g zt (nI n) (nI c) so nu ty hh pa ch9 zk zl zh zp zq (nI k)) := hD
  obtain rfl : r_4 = 1 := hw_5
  refine lv_istore (lv' := [(5, .int 1), (0, .ref b), (1, .ref h), (2, .ref h1), (3, .ref o), (4, .int (nI (4 * t)))]) hx hb dL_law_587 hl (by decide) rfl (fun ls hl => ?_)
  refine lv_aload_n hx hb dL_law_589 rfl (lv_at hl 3 rfl) ?_
  refine lv_aload_n hx hb dL_law_590 rfl (lv_at hl 1 rfl) ?_
  refine lv_iload hx hb dL_law_591 (lv_at hl 5 rfl) ?_
  refine lv_iconst (v := 1) hx hb dL_law_593 (by decide) ?_
  refine lv_iadd hx hb dL_law_594 ?_
  have e_7 : (nI (4 * t) + (1 : Int32)) = nI (4 * t + 1) := nI_add (4 * t) 1
  rw [e_7]
  refine va_sld hx hb hXs hbl hbA hS (vp_in_nI (by omega) (by omega)) dL_law_595 ?_
  rw [nI_clamp (by omega)]
  refine lv_aload_n hx hb dL_law_596 rfl (lv_at hl 1 rfl) ?_
  refine lv_iload hx hb dL_law_597 (lv_at hl 5 rfl) ?_
  refine lv_iconst (v := 2) hx hb dL_law_599 (by decide) ?_
  refine lv_iadd hx hb dL_law_600 ?_
  have e_8 : (nI (4 * t) + (2 : Int32)) = nI (4 * t + 2) := nI_add (4 * t) 2
  rw [e_8]
  refine va_sld hx hb hXs hbl hbA hS (vp_in_nI (by omega) (by omega)) dL_law_601 ?_
  rw [nI_clamp (by omega)]
  refine lv_aload_n hx hb dL_law_602 rfl (lv_at hl 1 rfl) ?_
  refine lv_iload hx hb dL_law_603 (lv_at hl 5 rfl) ?_
  refine lv_iconst (v := 3) hx hb dL_law_605 (by decide) ?_
  refine lv_iadd hx hb dL_law_606 ?_
  have e_9 : (nI (4 * t) + (3 : Int32)) = nI (4 * t + 3) := nI_add (4 * t) 3
  rw [e_9]
  refine va_sld hx hb hXs hbl hbA hS (vp_in_nI (by omega) (by omega)) dL_law_607 ?_
  rw [nI_clamp (by omega)]
  have hP : va_P (dC, dI) vwCl (w1 h1 a1 b1 cI cK fb g zt (nI n) (nI c) so nu ty hh pa ch9 zk zl zh zp zq (nI k) ++ (w0 h a b0 cB cJ f g (nI n) (nI c) zg (nI k) ++ wo o cO go)) H := hP.sub [4, 5, 6, 0, 1, 2, 3] rfl
  have hD : va_D (fun q : Nat => s.heap.size ≤ q) (w1 h1 a1 b1 cI cK fb g zt (nI n) (nI c) so nu ty hh pa ch9 zk zl zh zp zq (nI k) ++ (w0 h a b0 cB cJ f g (nI n) (nI c) zg (nI k) ++ wo o cO go)) := hD.sub [4, 5, 6, 0, 1, 2, 3] (by decide) rfl
  refine gji (wc := w1 h1 a1 b1 cI cK fb g zt (nI n) (nI c) so nu ty hh pa ch9 zk zl zh zp zq (nI k)) (wr := w0 h a b0 cB cJ f g (nI n) (nI c) zg (nI k) ++ wo o cO go) (As := [.int (xs (4 * t + 1)), .int (xs (4 * t + 2)), .int (xs (4 * t + 3))]) (rest := []) ⟨hx, hb, hml, hown, hts⟩ (c_X1_pack_b l dC dI tk tw h1 a1 b1 cI cK _ fb g zt (nI n) (nI c) so nu ty hh pa ch9 zk zl zh zp zq (nI k) (xs (4 * t + 1)) (xs (4 * t + 2)) (xs (4 * t + 3)) hb9) (cwV 3 hts gL_law_X1_pack rfl rfl rfl (by decide +kernel) ⟨Nat.le_of_ble_eq_true rfl, Nat.le_of_ble_eq_true rfl⟩) hKm hP hD hS hA hZ (q0 := 0) (ci := 1) rfl rfl rfl rfl hl.1 rfl (Nat.le_of_ble_eq_true rfl) dL_law_608 ⟨by show _ ≤ 1042; omega, by show _ ≤ 16674; omega⟩ (fun r_10 u_12 H locs hw_11 hP hD hS => ?_)
  have hP : va_P (dC, dI) vwCl (w1 h1 a1 b1 cI cK fb g 1 (nI n) (nI c) so nu ty hh pa ch9 zk zl zh zp zq (nI k) ++ (w0 h a b0 cB cJ f g (nI n) (nI c) zg (nI k) ++ wo o cO go)) H := hP
  have hD : va_D (fun q : Nat => s.heap.size ≤ q) (w1 h1 a1 b1 cI cK fb g 1 (nI n) (nI c) so nu ty hh pa ch9 zk zl zh zp zq (nI k) ++ (w0 h a b0 cB cJ f g (nI n) (nI c) zg (nI k) ++ wo o cO go)) := hD
  refine lv_istore (lv' := [(6, .int r_10), (5, .int 1), (0, .ref b), (1, .ref h), (2, .ref h1), (3, .ref o), (4, .int (nI (4 * t)))]) hx hb dL_law_611 hl (by decide) rfl (fun ls hl => ?_)
  refine lv_aload_n hx hb dL_law_613 rfl (lv_at hl 4 rfl) ?_
  refine gji (wc := w1 h1 a1 b1 cI cK fb g 1 (nI n) (nI c) so nu ty hh pa ch9 zk zl zh zp zq (nI k)) (wr := w0 h a b0 cB cJ f g (nI n) (nI c) zg (nI k) ++ wo o cO go) (As := []) (rest := []) ⟨hx, hb, hml, hown, hts⟩ (c_X1_thrown l dC dI tk tw h1 a1 b1 cI cK _ fb g 1 (nI n) (nI c) so nu ty hh pa ch9 zk zl zh zp zq (nI k) ) (cwV 0 hts gL_law_X1_thrown rfl rfl rfl (by decide +kernel) ⟨Nat.le_of_ble_eq_true rfl, Nat.le_of_ble_eq_true rfl⟩) hKm hP hD hS hA hZ (q0 := 0) (ci := 1) rfl rfl rfl rfl hl.1 rfl (Nat.le_of_ble_eq_true rfl) dL_law_614 ⟨by show _ ≤ 1042; omega, by show _ ≤ 16674; omega⟩ (fun r_13 u_15 H locs hw_14 hP hD hS => ?_)
  have hP : va_P (dC, dI) vwCl (w1 h1 a1 b1 cI cK fb g 1 (nI n) (nI c) so nu ty hh pa ch9 zk zl zh zp zq (nI k) ++ (w0 h a b0 cB cJ f g (nI n) (nI c) zg (nI k) ++ wo o cO go)) H := hP
  have hD : va_D (fun q : Nat => s.heap.size ≤ q) (w1 h1 a1 b1 cI cK fb g 1 (nI n) (nI c) so nu ty hh pa ch9 zk zl zh zp zq (nI k) ++ (w0 h a b0 cB cJ f g (nI n) (nI c) zg (nI k) ++ wo o cO go)) := hD
  obtain rfl : r_13 = 1 := hw_14
  refine lv_iload hx hb dL_law_617 (lv_at hl 1 rfl) ?_
  refine lv_icmp_eq (tgt := 624) hx hb dL_law_619 (by decide) (fun c_16 => ?_) (fun c_16 => ?_)
  · skip
    refine lv_iload hx hb dL_law_624 (lv_at hl 1 rfl) ?_
    refine lv_if_ne (tgt := 641) hx hb dL_law_626 (by decide) (fun c_17 => ?_) (fun c_17 => ?_)
    · skip
      refine lv_goto (tgt := 644) hx hb dL_law_641 (by decide) ?_
      have hP : va_P (dC, dI) vwCl (w0 h a b0 cB cJ f g (nI n) (nI c) zg (nI k) ++ (w1 h1 a1 b1 cI cK fb g 1 (nI n) (nI c) so nu ty hh pa ch9 zk zl zh zp zq (nI k) ++ wo o cO go)) H := hP.sub [3, 4, 5, 0, 1, 2, 6] rfl
      have hD : va_D (fun q : Nat => s.heap.size ≤ q) (w0 h a b0 cB cJ f g (nI n) (nI c) zg (nI k) ++ (w1 h1 a1 b1 cI cK fb g 1 (nI n) (nI c) so nu ty hh pa ch9 zk zl zh zp zq (nI k) ++ wo o cO go)) := hD.sub [3, 4, 5, 0, 1, 2, 6] (by decide) rfl
      refine W.widen (k := 7 + t + 1) (n := 8416 + 6 * (t + 1)) (by omega) (by omega) ?_
      exact K _ _ _ ⟨n, c, k, f, fb, g, zg, 1, so, nu, ty, hh, pa, ch9, zk, zl, zh, zp, zq, go, hn, hc, hk, hRB, hG, hP, hD, hS, lv_sub hl [2, 3, 4, 5, 6] rfl⟩
    · skip
      exact absurd c_17 (by decide)
  · skip
    exact absurd rfl c_16
set_option maxHeartbeats 4000000 in
set_option maxRecDepth 100000 in
theorem op_pack_g1 {p : Program} {e : Env} {s : State} {m : MethodId} {below : List Frame} {meth : Method} {cd : Code} {l : Launch} {b L : Nat} {xs : Nat → Int32} {dC : Nat → ClassId} {dI : Nat → Nat → Nat} {tk tw : Nat} {sa : Nat → Nat} {cB cJ cI cK cO : ClassId} {h a b0 h1 a1 b1 o t : Nat} {H : Heap} {locs : List Loc} {ls : Array Slot} (CX : LC l p s m meth cd b L xs dC dI tk tw sa cB cJ cI cK cO) (ht4 : 4 * t + 4 ≤ L) (K : ∀ (H : Heap) (locs : List Loc) (ls : Array Slot), LI s b dC dI h a b0 cB cJ h1 a1 b1 cI cK o cO t H locs ls → W p l e room_1 s m #[Value.ref b] below meth cd H locs (7 + t + 1) (8416 + 6 * (t + 1)) (lw_Z below #[Value.ref b] s) (F0 m 644 ls [])) (n : Nat) (c : Nat) (k : Nat) (f : Nat → Int32) (fb : Nat → Int32) (g : Nat → Int64) (zg : Int32) (zt : Int32) (so : Int32) (nu : Int64) (ty : Int32) (hh : Int32) (pa : Int64) (ch9 : Int64) (zk : Int32) (zl : Int32) (zh : Int32) (zp : Int32) (zq : Int32) (go : Nat → Int64) (hn : n ≤ 4096) (hc : c ≤ n) (hk : k ≤ 100) (hRB : RB n f fb) (hG : GV f c zg zk zl zh zp zq) (hP : va_P (dC, dI) vwCl (w0 h a b0 cB cJ f g (nI n) (nI c) zg (nI k) ++ (w1 h1 a1 b1 cI cK fb g zt (nI n) (nI c) so nu ty hh pa ch9 zk zl zh zp zq (nI k) ++ wo o cO go)) H) (hD : va_D (fun q : Nat => s.heap.size ≤ q) (w0 h a b0 cB cJ f g (nI n) (nI c) zg (nI k) ++ (w1 h1 a1 b1 cI cK fb g zt (nI n) (nI c) so nu ty hh pa ch9 zk zl zh zp zq (nI k) ++ wo o cO go))) (hS : va_S (fun q : Nat => s.heap.size ≤ q) s.heap H locs) (hl : lv_has ls 8 [(0, .ref b), (1, .ref h), (2, .ref h1), (3, .ref o), (4, .int (nI (4 * t)))]) (e1 : xs (4 * t + 1) = 1) (hr8 : n + phL (pk1 (xs (4 * t + 2)) (xs (4 * t + 3))) ≤ 4096) : W p l e room_1 s m #[Value.ref b] below meth cd H locs (7 + t) (8416 + 6 * t) (lw_Z below #[Value.ref b] s) (F0 m 564 ls []) := by
  obtain ⟨⟨hx, hb, hr, hml, hown, hts, hXs, hbl, hlocks⟩, hst, hL, hK, hZ, hX⟩ := CX
  have hA : ∀ q : Nat, s.heap.size ≤ q → (fun q : Nat => s.heap.size ≤ q) q := fun _ h => h
  have hbA : ¬ (fun q : Nat => s.heap.size ≤ q) b := Nat.not_le.mpr hbl
  have hKx := hK.sub (tys' := t0 cB cJ) [0, 1] rfl
  have hKm := hK.sub (tys' := t1 cI cK) [2, 3] rfl
  have hKh := hK.sub (tys' := th cB cJ cO) [0, 1, 4] rfl
  obtain ⟨b9, hb9, hs9, t1, t2, t3, t4⟩ := pkE_1 (xs (4 * t + 2)) (xs (4 * t + 3))
  obtain ⟨z1, z2⟩ := RB_pack (k := 1) (lo := (xs (4 * t + 2))) (hi := (xs (4 * t + 3))) (T := (pk1 (xs (4 * t + 2)) (xs (4 * t + 3)))) hb9 hRB t1 t2 t3 t4
  have hr9 : n + hd b9 ≤ 4096 := by rw [← z1]; exact hr8
  refine lv_aload_n hx hb dL_law_564 rfl (lv_at hl 1 rfl) ?_
  refine lv_aload_n hx hb dL_law_565 rfl (lv_at hl 0 rfl) ?_
  refine lv_iload hx hb dL_law_566 (lv_at hl 4 rfl) ?_
  refine lv_iconst (v := 1) hx hb dL_law_568 (by decide) ?_
  refine lv_iadd hx hb dL_law_569 ?_
  have e_1 : (nI (4 * t) + (1 : Int32)) = nI (4 * t + 1) := nI_add (4 * t) 1
  rw [e_1]
  refine va_sld hx hb hXs hbl hbA hS (vp_in_nI (by omega) (by omega)) dL_law_570 ?_
  rw [nI_clamp (by omega)]
  rw [e1]
  refine lv_aload_n hx hb dL_law_571 rfl (lv_at hl 0 rfl) ?_
  refine lv_iload hx hb dL_law_572 (lv_at hl 4 rfl) ?_
  refine lv_iconst (v := 2) hx hb dL_law_574 (by decide) ?_
  refine lv_iadd hx hb dL_law_575 ?_
  have e_2 : (nI (4 * t) + (2 : Int32)) = nI (4 * t + 2) := nI_add (4 * t) 2
  rw [e_2]
  refine va_sld hx hb hXs hbl hbA hS (vp_in_nI (by omega) (by omega)) dL_law_576 ?_
  rw [nI_clamp (by omega)]
  refine lv_aload_n hx hb dL_law_577 rfl (lv_at hl 0 rfl) ?_
  refine lv_iload hx hb dL_law_578 (lv_at hl 4 rfl) ?_
  refine lv_iconst (v := 3) hx hb dL_law_580 (by decide) ?_
  refine lv_iadd hx hb dL_law_581 ?_
  have e_3 : (nI (4 * t) + (3 : Int32)) = nI (4 * t + 3) := nI_add (4 * t) 3
  rw [e_3]
  refine va_sld hx hb hXs hbl hbA hS (vp_in_nI (by omega) (by omega)) dL_law_582 ?_
  rw [nI_clamp (by omega)]
  refine lv_aload_n hx hb dL_law_583 rfl (lv_at hl 3 rfl) ?_
  have hP : va_P (dC, dI) vwCl ((w0 h a b0 cB cJ f g (nI n) (nI c) zg (nI k) ++ wo o cO go) ++ w1 h1 a1 b1 cI cK fb g zt (nI n) (nI c) so nu ty hh pa ch9 zk zl zh zp zq (nI k)) H := hP.sub [0, 1, 2, 6, 3, 4, 5] rfl
  have hD : va_D (fun q : Nat => s.heap.size ≤ q) ((w0 h a b0 cB cJ f g (nI n) (nI c) zg (nI k) ++ wo o cO go) ++ w1 h1 a1 b1 cI cK fb g zt (nI n) (nI c) so nu ty hh pa ch9 zk zl zh zp zq (nI k)) := hD.sub [0, 1, 2, 6, 3, 4, 5] (by decide) rfl
  refine ghi (wc := w0 h a b0 cB cJ f g (nI n) (nI c) zg (nI k) ++ wo o cO go) (wr := w1 h1 a1 b1 cI cK fb g zt (nI n) (nI c) so nu ty hh pa ch9 zk zl zh zp zq (nI k)) (As := [.ref h, .int 1, .int (xs (4 * t + 2)), .int (xs (4 * t + 3)), .ref o]) (rest := []) ⟨hx, hb, hml, hown, hts⟩ (c_L_pack l hst sa dC dI tk tw h a b0 cB cJ o cO go _ f g (nI c) zg (nI k) n 1 (xs (4 * t + 2)) (xs (4 * t + 3)) (by decide) (by decide) (fun z => absurd (by decide) z) (fun z => absurd z (by decide)) b9 hb9 hs9 hr9) (vx_cwSW 5 hts gL_law_L_pack rfl rfl rfl (by decide +kernel) ⟨Nat.le_of_ble_eq_true rfl, Nat.le_of_ble_eq_true rfl⟩) hKh hP hD hS hA hZ hX rfl hl.1 rfl (Nat.le_of_ble_eq_true rfl) dL_law_584 ⟨by show _ ≤ 1042; omega, by show _ ≤ 16674; omega⟩ (fun r_4 u_6 H locs hw_5 hP hD hS => ?_)
  have hP : va_P (dC, dI) vwCl ((w0 h a b0 cB cJ (apR (apR (apR f n (nI b9).toInt64 1) (n + 1) (nO 1 (xs (4 * t + 2)) (xs (4 * t + 3))) (wd b9)) (n + 1 + wd b9) (xs (4 * t + 3)).toInt64 (tW b9)) g (nI (n + hd b9)) (nI c) zg (nI k) ++ wo o cO (vp_updL go 0 ((nI (hd b9)).toInt64))) ++ w1 h1 a1 b1 cI cK fb g zt (nI n) (nI c) so nu ty hh pa ch9 zk zl zh zp zq (nI k)) H := hP
  have hD : va_D (fun q : Nat => s.heap.size ≤ q) ((w0 h a b0 cB cJ (apR (apR (apR f n (nI b9).toInt64 1) (n + 1) (nO 1 (xs (4 * t + 2)) (xs (4 * t + 3))) (wd b9)) (n + 1 + wd b9) (xs (4 * t + 3)).toInt64 (tW b9)) g (nI (n + hd b9)) (nI c) zg (nI k) ++ wo o cO (vp_updL go 0 ((nI (hd b9)).toInt64))) ++ w1 h1 a1 b1 cI cK fb g zt (nI n) (nI c) so nu ty hh pa ch9 zk zl zh zp zq (nI k)) := hD
  obtain rfl : r_4 = 0 := hw_5
  refine lv_istore (lv' := [(5, .int 0), (0, .ref b), (1, .ref h), (2, .ref h1), (3, .ref o), (4, .int (nI (4 * t)))]) hx hb dL_law_587 hl (by decide) rfl (fun ls hl => ?_)
  refine lv_aload_n hx hb dL_law_589 rfl (lv_at hl 3 rfl) ?_
  refine lv_aload_n hx hb dL_law_590 rfl (lv_at hl 1 rfl) ?_
  refine lv_iload hx hb dL_law_591 (lv_at hl 5 rfl) ?_
  refine lv_iconst (v := 1) hx hb dL_law_593 (by decide) ?_
  refine lv_iadd hx hb dL_law_594 ?_
  have e_7 : (nI (4 * t) + (1 : Int32)) = nI (4 * t + 1) := nI_add (4 * t) 1
  rw [e_7]
  refine va_sld hx hb hXs hbl hbA hS (vp_in_nI (by omega) (by omega)) dL_law_595 ?_
  rw [nI_clamp (by omega)]
  rw [e1]
  refine lv_aload_n hx hb dL_law_596 rfl (lv_at hl 1 rfl) ?_
  refine lv_iload hx hb dL_law_597 (lv_at hl 5 rfl) ?_
  refine lv_iconst (v := 2) hx hb dL_law_599 (by decide) ?_
  refine lv_iadd hx hb dL_law_600 ?_
  have e_8 : (nI (4 * t) + (2 : Int32)) = nI (4 * t + 2) := nI_add (4 * t) 2
  rw [e_8]
  refine va_sld hx hb hXs hbl hbA hS (vp_in_nI (by omega) (by omega)) dL_law_601 ?_
  rw [nI_clamp (by omega)]
  refine lv_aload_n hx hb dL_law_602 rfl (lv_at hl 1 rfl) ?_
  refine lv_iload hx hb dL_law_603 (lv_at hl 5 rfl) ?_
  refine lv_iconst (v := 3) hx hb dL_law_605 (by decide) ?_
  refine lv_iadd hx hb dL_law_606 ?_
  have e_9 : (nI (4 * t) + (3 : Int32)) = nI (4 * t + 3) := nI_add (4 * t) 3
  rw [e_9]
  refine va_sld hx hb hXs hbl hbA hS (vp_in_nI (by omega) (by omega)) dL_law_607 ?_
  rw [nI_clamp (by omega)]
  have hP : va_P (dC, dI) vwCl (w1 h1 a1 b1 cI cK fb g zt (nI n) (nI c) so nu ty hh pa ch9 zk zl zh zp zq (nI k) ++ (w0 h a b0 cB cJ (apR (apR (apR f n (nI b9).toInt64 1) (n + 1) (nO 1 (xs (4 * t + 2)) (xs (4 * t + 3))) (wd b9)) (n + 1 + wd b9) (xs (4 * t + 3)).toInt64 (tW b9)) g (nI (n + hd b9)) (nI c) zg (nI k) ++ wo o cO (vp_updL go 0 ((nI (hd b9)).toInt64)))) H := hP.sub [4, 5, 6, 0, 1, 2, 3] rfl
  have hD : va_D (fun q : Nat => s.heap.size ≤ q) (w1 h1 a1 b1 cI cK fb g zt (nI n) (nI c) so nu ty hh pa ch9 zk zl zh zp zq (nI k) ++ (w0 h a b0 cB cJ (apR (apR (apR f n (nI b9).toInt64 1) (n + 1) (nO 1 (xs (4 * t + 2)) (xs (4 * t + 3))) (wd b9)) (n + 1 + wd b9) (xs (4 * t + 3)).toInt64 (tW b9)) g (nI (n + hd b9)) (nI c) zg (nI k) ++ wo o cO (vp_updL go 0 ((nI (hd b9)).toInt64)))) := hD.sub [4, 5, 6, 0, 1, 2, 3] (by decide) rfl
  refine gji (wc := w1 h1 a1 b1 cI cK fb g zt (nI n) (nI c) so nu ty hh pa ch9 zk zl zh zp zq (nI k)) (wr := w0 h a b0 cB cJ (apR (apR (apR f n (nI b9).toInt64 1) (n + 1) (nO 1 (xs (4 * t + 2)) (xs (4 * t + 3))) (wd b9)) (n + 1 + wd b9) (xs (4 * t + 3)).toInt64 (tW b9)) g (nI (n + hd b9)) (nI c) zg (nI k) ++ wo o cO (vp_updL go 0 ((nI (hd b9)).toInt64))) (As := [.int 1, .int (xs (4 * t + 2)), .int (xs (4 * t + 3))]) (rest := []) ⟨hx, hb, hml, hown, hts⟩ (c_X1_pack_1 l dC dI tk tw h1 a1 b1 cI cK _ fb g zt (nI c) so nu ty hh pa ch9 zk zl zh zp zq (nI k) n (xs (4 * t + 2)) (xs (4 * t + 3)) hr8) (cwV 3 hts gL_law_X1_pack rfl rfl rfl (by decide +kernel) ⟨Nat.le_of_ble_eq_true rfl, Nat.le_of_ble_eq_true rfl⟩) hKm hP hD hS hA hZ (q0 := 0) (ci := 1) rfl rfl rfl rfl hl.1 rfl (Nat.le_of_ble_eq_true rfl) dL_law_608 ⟨by show _ ≤ 1042; omega, by show _ ≤ 16674; omega⟩ (fun r_10 u_12 H locs hw_11 hP hD hS => ?_)
  have hP : va_P (dC, dI) vwCl (w1 h1 a1 b1 cI cK (phF fb n (pk1 (xs (4 * t + 2)) (xs (4 * t + 3)))) g 0 (nI (n + phL (pk1 (xs (4 * t + 2)) (xs (4 * t + 3))))) (nI c) so nu ty hh pa ch9 zk zl zh zp zq (nI k) ++ (w0 h a b0 cB cJ (apR (apR (apR f n (nI b9).toInt64 1) (n + 1) (nO 1 (xs (4 * t + 2)) (xs (4 * t + 3))) (wd b9)) (n + 1 + wd b9) (xs (4 * t + 3)).toInt64 (tW b9)) g (nI (n + hd b9)) (nI c) zg (nI k) ++ wo o cO (vp_updL go 0 ((nI (hd b9)).toInt64)))) H := hP
  have hD : va_D (fun q : Nat => s.heap.size ≤ q) (w1 h1 a1 b1 cI cK (phF fb n (pk1 (xs (4 * t + 2)) (xs (4 * t + 3)))) g 0 (nI (n + phL (pk1 (xs (4 * t + 2)) (xs (4 * t + 3))))) (nI c) so nu ty hh pa ch9 zk zl zh zp zq (nI k) ++ (w0 h a b0 cB cJ (apR (apR (apR f n (nI b9).toInt64 1) (n + 1) (nO 1 (xs (4 * t + 2)) (xs (4 * t + 3))) (wd b9)) (n + 1 + wd b9) (xs (4 * t + 3)).toInt64 (tW b9)) g (nI (n + hd b9)) (nI c) zg (nI k) ++ wo o cO (vp_updL go 0 ((nI (hd b9)).toInt64)))) := hD
  obtain rfl : r_10 = nI (phL (pk1 (xs (4 * t + 2)) (xs (4 * t + 3)))) := hw_11
  rw [z1] at hP hD
  have hP : va_P (dC, dI) vwCl (w1 h1 a1 b1 cI cK (phF fb n (pk1 (xs (4 * t + 2)) (xs (4 * t + 3)))) g 0 (nI (n + hd b9)) (nI c) so nu ty hh pa ch9 zk zl zh zp zq (nI k) ++ (w0 h a b0 cB cJ (apR (apR (apR f n (nI b9).toInt64 1) (n + 1) (nO 1 (xs (4 * t + 2)) (xs (4 * t + 3))) (wd b9)) (n + 1 + wd b9) (xs (4 * t + 3)).toInt64 (tW b9)) g (nI (n + hd b9)) (nI c) zg (nI k) ++ wo o cO (vp_updL go 0 ((nI (hd b9)).toInt64)))) H := hP
  have hD : va_D (fun q : Nat => s.heap.size ≤ q) (w1 h1 a1 b1 cI cK (phF fb n (pk1 (xs (4 * t + 2)) (xs (4 * t + 3)))) g 0 (nI (n + hd b9)) (nI c) so nu ty hh pa ch9 zk zl zh zp zq (nI k) ++ (w0 h a b0 cB cJ (apR (apR (apR f n (nI b9).toInt64 1) (n + 1) (nO 1 (xs (4 * t + 2)) (xs (4 * t + 3))) (wd b9)) (n + 1 + wd b9) (xs (4 * t + 3)).toInt64 (tW b9)) g (nI (n + hd b9)) (nI c) zg (nI k) ++ wo o cO (vp_updL go 0 ((nI (hd b9)).toInt64)))) := hD
  refine lv_istore (lv' := [(6, .int (nI (phL (pk1 (xs (4 * t + 2)) (xs (4 * t + 3)))))), (5, .int 0), (0, .ref b), (1, .ref h), (2, .ref h1), (3, .ref o), (4, .int (nI (4 * t)))]) hx hb dL_law_611 hl (by decide) rfl (fun ls hl => ?_)
  refine lv_aload_n hx hb dL_law_613 rfl (lv_at hl 4 rfl) ?_
  refine gji (wc := w1 h1 a1 b1 cI cK (phF fb n (pk1 (xs (4 * t + 2)) (xs (4 * t + 3)))) g 0 (nI (n + hd b9)) (nI c) so nu ty hh pa ch9 zk zl zh zp zq (nI k)) (wr := w0 h a b0 cB cJ (apR (apR (apR f n (nI b9).toInt64 1) (n + 1) (nO 1 (xs (4 * t + 2)) (xs (4 * t + 3))) (wd b9)) (n + 1 + wd b9) (xs (4 * t + 3)).toInt64 (tW b9)) g (nI (n + hd b9)) (nI c) zg (nI k) ++ wo o cO (vp_updL go 0 ((nI (hd b9)).toInt64))) (As := []) (rest := []) ⟨hx, hb, hml, hown, hts⟩ (c_X1_thrown l dC dI tk tw h1 a1 b1 cI cK _ (phF fb n (pk1 (xs (4 * t + 2)) (xs (4 * t + 3)))) g 0 (nI (n + hd b9)) (nI c) so nu ty hh pa ch9 zk zl zh zp zq (nI k) ) (cwV 0 hts gL_law_X1_thrown rfl rfl rfl (by decide +kernel) ⟨Nat.le_of_ble_eq_true rfl, Nat.le_of_ble_eq_true rfl⟩) hKm hP hD hS hA hZ (q0 := 0) (ci := 1) rfl rfl rfl rfl hl.1 rfl (Nat.le_of_ble_eq_true rfl) dL_law_614 ⟨by show _ ≤ 1042; omega, by show _ ≤ 16674; omega⟩ (fun r_13 u_15 H locs hw_14 hP hD hS => ?_)
  have hP : va_P (dC, dI) vwCl (w1 h1 a1 b1 cI cK (phF fb n (pk1 (xs (4 * t + 2)) (xs (4 * t + 3)))) g 0 (nI (n + hd b9)) (nI c) so nu ty hh pa ch9 zk zl zh zp zq (nI k) ++ (w0 h a b0 cB cJ (apR (apR (apR f n (nI b9).toInt64 1) (n + 1) (nO 1 (xs (4 * t + 2)) (xs (4 * t + 3))) (wd b9)) (n + 1 + wd b9) (xs (4 * t + 3)).toInt64 (tW b9)) g (nI (n + hd b9)) (nI c) zg (nI k) ++ wo o cO (vp_updL go 0 ((nI (hd b9)).toInt64)))) H := hP
  have hD : va_D (fun q : Nat => s.heap.size ≤ q) (w1 h1 a1 b1 cI cK (phF fb n (pk1 (xs (4 * t + 2)) (xs (4 * t + 3)))) g 0 (nI (n + hd b9)) (nI c) so nu ty hh pa ch9 zk zl zh zp zq (nI k) ++ (w0 h a b0 cB cJ (apR (apR (apR f n (nI b9).toInt64 1) (n + 1) (nO 1 (xs (4 * t + 2)) (xs (4 * t + 3))) (wd b9)) (n + 1 + wd b9) (xs (4 * t + 3)).toInt64 (tW b9)) g (nI (n + hd b9)) (nI c) zg (nI k) ++ wo o cO (vp_updL go 0 ((nI (hd b9)).toInt64)))) := hD
  obtain rfl : r_13 = 0 := hw_14
  refine lv_iload hx hb dL_law_617 (lv_at hl 1 rfl) ?_
  refine lv_icmp_eq (tgt := 624) hx hb dL_law_619 (by decide) (fun c_16 => ?_) (fun c_16 => ?_)
  · skip
    refine lv_iload hx hb dL_law_624 (lv_at hl 1 rfl) ?_
    refine lv_if_ne (tgt := 641) hx hb dL_law_626 (by decide) (fun c_17 => ?_) (fun c_17 => ?_)
    · skip
      exact absurd (by decide) c_17
    · skip
      refine lv_aload_n hx hb dL_law_629 rfl (lv_at hl 5 rfl) ?_
      refine lv_iconst (v := 0) hx hb dL_law_630 (by decide) ?_
      refine va_lald hx hb hK hP 6 4 rfl rfl vp01 dL_law_631 ?_
      have e_18 : (vp_updL go 0 ((nI (hd b9)).toInt64) (0 : Int32).toNatClampNeg : Int64) = ((nI (hd b9)).toInt64) := pk_uLs
      rw [e_18]
      refine lv_iload hx hb dL_law_632 (lv_at hl 0 rfl) ?_
      refine lv_i2l hx hb dL_law_634 rfl ?_
      refine W.lcmp hx hb dL_law_635 ?_
      refine lv_if_eq (tgt := 641) hx hb dL_law_636 (by decide) (fun c_19 => ?_) (fun c_19 => ?_)
      · skip
        have c_19 := (lg_cmp_eq ((nI (hd b9)).toInt64) ((nI (phL (pk1 (xs (4 * t + 2)) (xs (4 * t + 3))))).toInt64)).mp c_19
        refine lv_goto (tgt := 644) hx hb dL_law_641 (by decide) ?_
        have hP : va_P (dC, dI) vwCl (w0 h a b0 cB cJ (apR (apR (apR f n (nI b9).toInt64 1) (n + 1) (nO 1 (xs (4 * t + 2)) (xs (4 * t + 3))) (wd b9)) (n + 1 + wd b9) (xs (4 * t + 3)).toInt64 (tW b9)) g (nI (n + hd b9)) (nI c) zg (nI k) ++ (w1 h1 a1 b1 cI cK (phF fb n (pk1 (xs (4 * t + 2)) (xs (4 * t + 3)))) g 0 (nI (n + hd b9)) (nI c) so nu ty hh pa ch9 zk zl zh zp zq (nI k) ++ wo o cO (vp_updL go 0 ((nI (hd b9)).toInt64)))) H := hP.sub [3, 4, 5, 0, 1, 2, 6] rfl
        have hD : va_D (fun q : Nat => s.heap.size ≤ q) (w0 h a b0 cB cJ (apR (apR (apR f n (nI b9).toInt64 1) (n + 1) (nO 1 (xs (4 * t + 2)) (xs (4 * t + 3))) (wd b9)) (n + 1 + wd b9) (xs (4 * t + 3)).toInt64 (tW b9)) g (nI (n + hd b9)) (nI c) zg (nI k) ++ (w1 h1 a1 b1 cI cK (phF fb n (pk1 (xs (4 * t + 2)) (xs (4 * t + 3)))) g 0 (nI (n + hd b9)) (nI c) so nu ty hh pa ch9 zk zl zh zp zq (nI k) ++ wo o cO (vp_updL go 0 ((nI (hd b9)).toInt64)))) := hD.sub [3, 4, 5, 0, 1, 2, 6] (by decide) rfl
        refine W.widen (k := 7 + t + 1) (n := 8416 + 6 * (t + 1)) (by omega) (by omega) ?_
        exact K _ _ _ ⟨n + hd b9, c, k, apR (apR (apR f n (nI b9).toInt64 1) (n + 1) (nO 1 (xs (4 * t + 2)) (xs (4 * t + 3))) (wd b9)) (n + 1 + wd b9) (xs (4 * t + 3)).toInt64 (tW b9), phF fb n (pk1 (xs (4 * t + 2)) (xs (4 * t + 3))), g, zg, 0, so, nu, ty, hh, pa, ch9, zk, zl, zh, zp, zq, vp_updL go 0 ((nI (hd b9)).toInt64), hr9, (by omega), hk, z2, (GV_mono hG (fun j hj => by rw [apR_lo _ _ _ _ (by omega), apR_lo _ _ _ _ (by omega), apR_lo _ _ _ _ (by omega)]) (Nat.le_refl _)), hP, hD, hS, lv_sub hl [2, 3, 4, 5, 6] rfl⟩
      · skip
        have c_19 := (not_congr (lg_cmp_eq ((nI (hd b9)).toInt64) ((nI (phL (pk1 (xs (4 * t + 2)) (xs (4 * t + 3))))).toInt64))).mp c_19
        exact absurd (by rw [z1]) c_19
  · skip
    exact absurd rfl c_16
set_option maxHeartbeats 4000000 in
set_option maxRecDepth 100000 in
theorem op_pack_f1 {p : Program} {e : Env} {s : State} {m : MethodId} {below : List Frame} {meth : Method} {cd : Code} {l : Launch} {b L : Nat} {xs : Nat → Int32} {dC : Nat → ClassId} {dI : Nat → Nat → Nat} {tk tw : Nat} {sa : Nat → Nat} {cB cJ cI cK cO : ClassId} {h a b0 h1 a1 b1 o t : Nat} {H : Heap} {locs : List Loc} {ls : Array Slot} (CX : LC l p s m meth cd b L xs dC dI tk tw sa cB cJ cI cK cO) (ht4 : 4 * t + 4 ≤ L) (K : ∀ (H : Heap) (locs : List Loc) (ls : Array Slot), LI s b dC dI h a b0 cB cJ h1 a1 b1 cI cK o cO t H locs ls → W p l e room_1 s m #[Value.ref b] below meth cd H locs (7 + t + 1) (8416 + 6 * (t + 1)) (lw_Z below #[Value.ref b] s) (F0 m 644 ls [])) (n : Nat) (c : Nat) (k : Nat) (f : Nat → Int32) (fb : Nat → Int32) (g : Nat → Int64) (zg : Int32) (zt : Int32) (so : Int32) (nu : Int64) (ty : Int32) (hh : Int32) (pa : Int64) (ch9 : Int64) (zk : Int32) (zl : Int32) (zh : Int32) (zp : Int32) (zq : Int32) (go : Nat → Int64) (hn : n ≤ 4096) (hc : c ≤ n) (hk : k ≤ 100) (hRB : RB n f fb) (hG : GV f c zg zk zl zh zp zq) (hP : va_P (dC, dI) vwCl (w0 h a b0 cB cJ f g (nI n) (nI c) zg (nI k) ++ (w1 h1 a1 b1 cI cK fb g zt (nI n) (nI c) so nu ty hh pa ch9 zk zl zh zp zq (nI k) ++ wo o cO go)) H) (hD : va_D (fun q : Nat => s.heap.size ≤ q) (w0 h a b0 cB cJ f g (nI n) (nI c) zg (nI k) ++ (w1 h1 a1 b1 cI cK fb g zt (nI n) (nI c) so nu ty hh pa ch9 zk zl zh zp zq (nI k) ++ wo o cO go))) (hS : va_S (fun q : Nat => s.heap.size ≤ q) s.heap H locs) (hl : lv_has ls 8 [(0, .ref b), (1, .ref h), (2, .ref h1), (3, .ref o), (4, .int (nI (4 * t)))]) (e1 : xs (4 * t + 1) = 1) (hr8 : 4096 < n + phL (pk1 (xs (4 * t + 2)) (xs (4 * t + 3)))) : W p l e room_1 s m #[Value.ref b] below meth cd H locs (7 + t) (8416 + 6 * t) (lw_Z below #[Value.ref b] s) (F0 m 564 ls []) := by
  obtain ⟨⟨hx, hb, hr, hml, hown, hts, hXs, hbl, hlocks⟩, hst, hL, hK, hZ, hX⟩ := CX
  have hA : ∀ q : Nat, s.heap.size ≤ q → (fun q : Nat => s.heap.size ≤ q) q := fun _ h => h
  have hbA : ¬ (fun q : Nat => s.heap.size ≤ q) b := Nat.not_le.mpr hbl
  have hKx := hK.sub (tys' := t0 cB cJ) [0, 1] rfl
  have hKm := hK.sub (tys' := t1 cI cK) [2, 3] rfl
  have hKh := hK.sub (tys' := th cB cJ cO) [0, 1, 4] rfl
  obtain ⟨b9, hb9, hs9, t1, t2, t3, t4⟩ := pkE_1 (xs (4 * t + 2)) (xs (4 * t + 3))
  obtain ⟨z1, z2⟩ := RB_pack (k := 1) (lo := (xs (4 * t + 2))) (hi := (xs (4 * t + 3))) (T := (pk1 (xs (4 * t + 2)) (xs (4 * t + 3)))) hb9 hRB t1 t2 t3 t4
  have hr9 : 4096 < n + hd b9 := by rw [← z1]; exact hr8
  refine lv_aload_n hx hb dL_law_564 rfl (lv_at hl 1 rfl) ?_
  refine lv_aload_n hx hb dL_law_565 rfl (lv_at hl 0 rfl) ?_
  refine lv_iload hx hb dL_law_566 (lv_at hl 4 rfl) ?_
  refine lv_iconst (v := 1) hx hb dL_law_568 (by decide) ?_
  refine lv_iadd hx hb dL_law_569 ?_
  have e_1 : (nI (4 * t) + (1 : Int32)) = nI (4 * t + 1) := nI_add (4 * t) 1
  rw [e_1]
  refine va_sld hx hb hXs hbl hbA hS (vp_in_nI (by omega) (by omega)) dL_law_570 ?_
  rw [nI_clamp (by omega)]
  rw [e1]
  refine lv_aload_n hx hb dL_law_571 rfl (lv_at hl 0 rfl) ?_
  refine lv_iload hx hb dL_law_572 (lv_at hl 4 rfl) ?_
  refine lv_iconst (v := 2) hx hb dL_law_574 (by decide) ?_
  refine lv_iadd hx hb dL_law_575 ?_
  have e_2 : (nI (4 * t) + (2 : Int32)) = nI (4 * t + 2) := nI_add (4 * t) 2
  rw [e_2]
  refine va_sld hx hb hXs hbl hbA hS (vp_in_nI (by omega) (by omega)) dL_law_576 ?_
  rw [nI_clamp (by omega)]
  refine lv_aload_n hx hb dL_law_577 rfl (lv_at hl 0 rfl) ?_
  refine lv_iload hx hb dL_law_578 (lv_at hl 4 rfl) ?_
  refine lv_iconst (v := 3) hx hb dL_law_580 (by decide) ?_
  refine lv_iadd hx hb dL_law_581 ?_
  have e_3 : (nI (4 * t) + (3 : Int32)) = nI (4 * t + 3) := nI_add (4 * t) 3
  rw [e_3]
  refine va_sld hx hb hXs hbl hbA hS (vp_in_nI (by omega) (by omega)) dL_law_582 ?_
  rw [nI_clamp (by omega)]
  refine lv_aload_n hx hb dL_law_583 rfl (lv_at hl 3 rfl) ?_
  have hP : va_P (dC, dI) vwCl ((w0 h a b0 cB cJ f g (nI n) (nI c) zg (nI k) ++ wo o cO go) ++ w1 h1 a1 b1 cI cK fb g zt (nI n) (nI c) so nu ty hh pa ch9 zk zl zh zp zq (nI k)) H := hP.sub [0, 1, 2, 6, 3, 4, 5] rfl
  have hD : va_D (fun q : Nat => s.heap.size ≤ q) ((w0 h a b0 cB cJ f g (nI n) (nI c) zg (nI k) ++ wo o cO go) ++ w1 h1 a1 b1 cI cK fb g zt (nI n) (nI c) so nu ty hh pa ch9 zk zl zh zp zq (nI k)) := hD.sub [0, 1, 2, 6, 3, 4, 5] (by decide) rfl
  refine ghi (wc := w0 h a b0 cB cJ f g (nI n) (nI c) zg (nI k) ++ wo o cO go) (wr := w1 h1 a1 b1 cI cK fb g zt (nI n) (nI c) so nu ty hh pa ch9 zk zl zh zp zq (nI k)) (As := [.ref h, .int 1, .int (xs (4 * t + 2)), .int (xs (4 * t + 3)), .ref o]) (rest := []) ⟨hx, hb, hml, hown, hts⟩ (c_L_pack_f l hst sa dC dI tk tw h a b0 cB cJ o cO go _ f g (nI c) zg (nI k) n hn 1 (xs (4 * t + 2)) (xs (4 * t + 3)) (by decide) (by decide) (fun z => absurd (by decide) z) (fun z => absurd z (by decide)) b9 hb9 hs9 hr9) (vx_cwSW 5 hts gL_law_L_pack rfl rfl rfl (by decide +kernel) ⟨Nat.le_of_ble_eq_true rfl, Nat.le_of_ble_eq_true rfl⟩) hKh hP hD hS hA hZ hX rfl hl.1 rfl (Nat.le_of_ble_eq_true rfl) dL_law_584 ⟨by show _ ≤ 1042; omega, by show _ ≤ 16674; omega⟩ (fun r_4 u_6 H locs hw_5 hP hD hS => ?_)
  have hP : va_P (dC, dI) vwCl ((w0 h a b0 cB cJ f g (nI n) (nI c) zg (nI k) ++ wo o cO go) ++ w1 h1 a1 b1 cI cK fb g zt (nI n) (nI c) so nu ty hh pa ch9 zk zl zh zp zq (nI k)) H := hP
  have hD : va_D (fun q : Nat => s.heap.size ≤ q) ((w0 h a b0 cB cJ f g (nI n) (nI c) zg (nI k) ++ wo o cO go) ++ w1 h1 a1 b1 cI cK fb g zt (nI n) (nI c) so nu ty hh pa ch9 zk zl zh zp zq (nI k)) := hD
  obtain rfl : r_4 = 2 := hw_5
  refine lv_istore (lv' := [(5, .int 2), (0, .ref b), (1, .ref h), (2, .ref h1), (3, .ref o), (4, .int (nI (4 * t)))]) hx hb dL_law_587 hl (by decide) rfl (fun ls hl => ?_)
  refine lv_aload_n hx hb dL_law_589 rfl (lv_at hl 3 rfl) ?_
  refine lv_aload_n hx hb dL_law_590 rfl (lv_at hl 1 rfl) ?_
  refine lv_iload hx hb dL_law_591 (lv_at hl 5 rfl) ?_
  refine lv_iconst (v := 1) hx hb dL_law_593 (by decide) ?_
  refine lv_iadd hx hb dL_law_594 ?_
  have e_7 : (nI (4 * t) + (1 : Int32)) = nI (4 * t + 1) := nI_add (4 * t) 1
  rw [e_7]
  refine va_sld hx hb hXs hbl hbA hS (vp_in_nI (by omega) (by omega)) dL_law_595 ?_
  rw [nI_clamp (by omega)]
  rw [e1]
  refine lv_aload_n hx hb dL_law_596 rfl (lv_at hl 1 rfl) ?_
  refine lv_iload hx hb dL_law_597 (lv_at hl 5 rfl) ?_
  refine lv_iconst (v := 2) hx hb dL_law_599 (by decide) ?_
  refine lv_iadd hx hb dL_law_600 ?_
  have e_8 : (nI (4 * t) + (2 : Int32)) = nI (4 * t + 2) := nI_add (4 * t) 2
  rw [e_8]
  refine va_sld hx hb hXs hbl hbA hS (vp_in_nI (by omega) (by omega)) dL_law_601 ?_
  rw [nI_clamp (by omega)]
  refine lv_aload_n hx hb dL_law_602 rfl (lv_at hl 1 rfl) ?_
  refine lv_iload hx hb dL_law_603 (lv_at hl 5 rfl) ?_
  refine lv_iconst (v := 3) hx hb dL_law_605 (by decide) ?_
  refine lv_iadd hx hb dL_law_606 ?_
  have e_9 : (nI (4 * t) + (3 : Int32)) = nI (4 * t + 3) := nI_add (4 * t) 3
  rw [e_9]
  refine va_sld hx hb hXs hbl hbA hS (vp_in_nI (by omega) (by omega)) dL_law_607 ?_
  rw [nI_clamp (by omega)]
  have hP : va_P (dC, dI) vwCl (w1 h1 a1 b1 cI cK fb g zt (nI n) (nI c) so nu ty hh pa ch9 zk zl zh zp zq (nI k) ++ (w0 h a b0 cB cJ f g (nI n) (nI c) zg (nI k) ++ wo o cO go)) H := hP.sub [4, 5, 6, 0, 1, 2, 3] rfl
  have hD : va_D (fun q : Nat => s.heap.size ≤ q) (w1 h1 a1 b1 cI cK fb g zt (nI n) (nI c) so nu ty hh pa ch9 zk zl zh zp zq (nI k) ++ (w0 h a b0 cB cJ f g (nI n) (nI c) zg (nI k) ++ wo o cO go)) := hD.sub [4, 5, 6, 0, 1, 2, 3] (by decide) rfl
  refine gji (wc := w1 h1 a1 b1 cI cK fb g zt (nI n) (nI c) so nu ty hh pa ch9 zk zl zh zp zq (nI k)) (wr := w0 h a b0 cB cJ f g (nI n) (nI c) zg (nI k) ++ wo o cO go) (As := [.int 1, .int (xs (4 * t + 2)), .int (xs (4 * t + 3))]) (rest := []) ⟨hx, hb, hml, hown, hts⟩ (c_X1_pack_1f l dC dI tk tw h1 a1 b1 cI cK _ fb g zt (nI c) so nu ty hh pa ch9 zk zl zh zp zq (nI k) n hn (xs (4 * t + 2)) (xs (4 * t + 3)) hr8) (cwV 3 hts gL_law_X1_pack rfl rfl rfl (by decide +kernel) ⟨Nat.le_of_ble_eq_true rfl, Nat.le_of_ble_eq_true rfl⟩) hKm hP hD hS hA hZ (q0 := 0) (ci := 1) rfl rfl rfl rfl hl.1 rfl (Nat.le_of_ble_eq_true rfl) dL_law_608 ⟨by show _ ≤ 1042; omega, by show _ ≤ 16674; omega⟩ (fun r_10 u_12 H locs hw_11 hP hD hS => ?_)
  have hP : va_P (dC, dI) vwCl (w1 h1 a1 b1 cI cK fb g 2 (nI n) (nI c) so nu ty hh pa ch9 zk zl zh zp zq (nI k) ++ (w0 h a b0 cB cJ f g (nI n) (nI c) zg (nI k) ++ wo o cO go)) H := hP
  have hD : va_D (fun q : Nat => s.heap.size ≤ q) (w1 h1 a1 b1 cI cK fb g 2 (nI n) (nI c) so nu ty hh pa ch9 zk zl zh zp zq (nI k) ++ (w0 h a b0 cB cJ f g (nI n) (nI c) zg (nI k) ++ wo o cO go)) := hD
  refine lv_istore (lv' := [(6, .int r_10), (5, .int 2), (0, .ref b), (1, .ref h), (2, .ref h1), (3, .ref o), (4, .int (nI (4 * t)))]) hx hb dL_law_611 hl (by decide) rfl (fun ls hl => ?_)
  refine lv_aload_n hx hb dL_law_613 rfl (lv_at hl 4 rfl) ?_
  refine gji (wc := w1 h1 a1 b1 cI cK fb g 2 (nI n) (nI c) so nu ty hh pa ch9 zk zl zh zp zq (nI k)) (wr := w0 h a b0 cB cJ f g (nI n) (nI c) zg (nI k) ++ wo o cO go) (As := []) (rest := []) ⟨hx, hb, hml, hown, hts⟩ (c_X1_thrown l dC dI tk tw h1 a1 b1 cI cK _ fb g 2 (nI n) (nI c) so nu ty hh pa ch9 zk zl zh zp zq (nI k) ) (cwV 0 hts gL_law_X1_thrown rfl rfl rfl (by decide +kernel) ⟨Nat.le_of_ble_eq_true rfl, Nat.le_of_ble_eq_true rfl⟩) hKm hP hD hS hA hZ (q0 := 0) (ci := 1) rfl rfl rfl rfl hl.1 rfl (Nat.le_of_ble_eq_true rfl) dL_law_614 ⟨by show _ ≤ 1042; omega, by show _ ≤ 16674; omega⟩ (fun r_13 u_15 H locs hw_14 hP hD hS => ?_)
  have hP : va_P (dC, dI) vwCl (w1 h1 a1 b1 cI cK fb g 2 (nI n) (nI c) so nu ty hh pa ch9 zk zl zh zp zq (nI k) ++ (w0 h a b0 cB cJ f g (nI n) (nI c) zg (nI k) ++ wo o cO go)) H := hP
  have hD : va_D (fun q : Nat => s.heap.size ≤ q) (w1 h1 a1 b1 cI cK fb g 2 (nI n) (nI c) so nu ty hh pa ch9 zk zl zh zp zq (nI k) ++ (w0 h a b0 cB cJ f g (nI n) (nI c) zg (nI k) ++ wo o cO go)) := hD
  obtain rfl : r_13 = 2 := hw_14
  refine lv_iload hx hb dL_law_617 (lv_at hl 1 rfl) ?_
  refine lv_icmp_eq (tgt := 624) hx hb dL_law_619 (by decide) (fun c_16 => ?_) (fun c_16 => ?_)
  · skip
    refine lv_iload hx hb dL_law_624 (lv_at hl 1 rfl) ?_
    refine lv_if_ne (tgt := 641) hx hb dL_law_626 (by decide) (fun c_17 => ?_) (fun c_17 => ?_)
    · skip
      refine lv_goto (tgt := 644) hx hb dL_law_641 (by decide) ?_
      have hP : va_P (dC, dI) vwCl (w0 h a b0 cB cJ f g (nI n) (nI c) zg (nI k) ++ (w1 h1 a1 b1 cI cK fb g 2 (nI n) (nI c) so nu ty hh pa ch9 zk zl zh zp zq (nI k) ++ wo o cO go)) H := hP.sub [3, 4, 5, 0, 1, 2, 6] rfl
      have hD : va_D (fun q : Nat => s.heap.size ≤ q) (w0 h a b0 cB cJ f g (nI n) (nI c) zg (nI k) ++ (w1 h1 a1 b1 cI cK fb g 2 (nI n) (nI c) so nu ty hh pa ch9 zk zl zh zp zq (nI k) ++ wo o cO go)) := hD.sub [3, 4, 5, 0, 1, 2, 6] (by decide) rfl
      refine W.widen (k := 7 + t + 1) (n := 8416 + 6 * (t + 1)) (by omega) (by omega) ?_
      exact K _ _ _ ⟨n, c, k, f, fb, g, zg, 2, so, nu, ty, hh, pa, ch9, zk, zl, zh, zp, zq, go, hn, hc, hk, hRB, hG, hP, hD, hS, lv_sub hl [2, 3, 4, 5, 6] rfl⟩
    · skip
      exact absurd c_17 (by decide)
  · skip
    exact absurd rfl c_16
set_option maxHeartbeats 4000000 in
set_option maxRecDepth 100000 in
theorem op_pack_g2 {p : Program} {e : Env} {s : State} {m : MethodId} {below : List Frame} {meth : Method} {cd : Code} {l : Launch} {b L : Nat} {xs : Nat → Int32} {dC : Nat → ClassId} {dI : Nat → Nat → Nat} {tk tw : Nat} {sa : Nat → Nat} {cB cJ cI cK cO : ClassId} {h a b0 h1 a1 b1 o t : Nat} {H : Heap} {locs : List Loc} {ls : Array Slot} (CX : LC l p s m meth cd b L xs dC dI tk tw sa cB cJ cI cK cO) (ht4 : 4 * t + 4 ≤ L) (K : ∀ (H : Heap) (locs : List Loc) (ls : Array Slot), LI s b dC dI h a b0 cB cJ h1 a1 b1 cI cK o cO t H locs ls → W p l e room_1 s m #[Value.ref b] below meth cd H locs (7 + t + 1) (8416 + 6 * (t + 1)) (lw_Z below #[Value.ref b] s) (F0 m 644 ls [])) (n : Nat) (c : Nat) (k : Nat) (f : Nat → Int32) (fb : Nat → Int32) (g : Nat → Int64) (zg : Int32) (zt : Int32) (so : Int32) (nu : Int64) (ty : Int32) (hh : Int32) (pa : Int64) (ch9 : Int64) (zk : Int32) (zl : Int32) (zh : Int32) (zp : Int32) (zq : Int32) (go : Nat → Int64) (hn : n ≤ 4096) (hc : c ≤ n) (hk : k ≤ 100) (hRB : RB n f fb) (hG : GV f c zg zk zl zh zp zq) (hP : va_P (dC, dI) vwCl (w0 h a b0 cB cJ f g (nI n) (nI c) zg (nI k) ++ (w1 h1 a1 b1 cI cK fb g zt (nI n) (nI c) so nu ty hh pa ch9 zk zl zh zp zq (nI k) ++ wo o cO go)) H) (hD : va_D (fun q : Nat => s.heap.size ≤ q) (w0 h a b0 cB cJ f g (nI n) (nI c) zg (nI k) ++ (w1 h1 a1 b1 cI cK fb g zt (nI n) (nI c) so nu ty hh pa ch9 zk zl zh zp zq (nI k) ++ wo o cO go))) (hS : va_S (fun q : Nat => s.heap.size ≤ q) s.heap H locs) (hl : lv_has ls 8 [(0, .ref b), (1, .ref h), (2, .ref h1), (3, .ref o), (4, .int (nI (4 * t)))]) (e1 : xs (4 * t + 1) = 2) (hr8 : n + phL (pk2 (xs (4 * t + 2)) (xs (4 * t + 3))) ≤ 4096) : W p l e room_1 s m #[Value.ref b] below meth cd H locs (7 + t) (8416 + 6 * t) (lw_Z below #[Value.ref b] s) (F0 m 564 ls []) := by
  obtain ⟨⟨hx, hb, hr, hml, hown, hts, hXs, hbl, hlocks⟩, hst, hL, hK, hZ, hX⟩ := CX
  have hA : ∀ q : Nat, s.heap.size ≤ q → (fun q : Nat => s.heap.size ≤ q) q := fun _ h => h
  have hbA : ¬ (fun q : Nat => s.heap.size ≤ q) b := Nat.not_le.mpr hbl
  have hKx := hK.sub (tys' := t0 cB cJ) [0, 1] rfl
  have hKm := hK.sub (tys' := t1 cI cK) [2, 3] rfl
  have hKh := hK.sub (tys' := th cB cJ cO) [0, 1, 4] rfl
  obtain ⟨b9, hb9, hs9, t1, t2, t3, t4⟩ := pkE_2 (xs (4 * t + 2)) (xs (4 * t + 3))
  obtain ⟨z1, z2⟩ := RB_pack (k := 2) (lo := (xs (4 * t + 2))) (hi := (xs (4 * t + 3))) (T := (pk2 (xs (4 * t + 2)) (xs (4 * t + 3)))) hb9 hRB t1 t2 t3 t4
  have hr9 : n + hd b9 ≤ 4096 := by rw [← z1]; exact hr8
  refine lv_aload_n hx hb dL_law_564 rfl (lv_at hl 1 rfl) ?_
  refine lv_aload_n hx hb dL_law_565 rfl (lv_at hl 0 rfl) ?_
  refine lv_iload hx hb dL_law_566 (lv_at hl 4 rfl) ?_
  refine lv_iconst (v := 1) hx hb dL_law_568 (by decide) ?_
  refine lv_iadd hx hb dL_law_569 ?_
  have e_1 : (nI (4 * t) + (1 : Int32)) = nI (4 * t + 1) := nI_add (4 * t) 1
  rw [e_1]
  refine va_sld hx hb hXs hbl hbA hS (vp_in_nI (by omega) (by omega)) dL_law_570 ?_
  rw [nI_clamp (by omega)]
  rw [e1]
  refine lv_aload_n hx hb dL_law_571 rfl (lv_at hl 0 rfl) ?_
  refine lv_iload hx hb dL_law_572 (lv_at hl 4 rfl) ?_
  refine lv_iconst (v := 2) hx hb dL_law_574 (by decide) ?_
  refine lv_iadd hx hb dL_law_575 ?_
  have e_2 : (nI (4 * t) + (2 : Int32)) = nI (4 * t + 2) := nI_add (4 * t) 2
  rw [e_2]
  refine va_sld hx hb hXs hbl hbA hS (vp_in_nI (by omega) (by omega)) dL_law_576 ?_
  rw [nI_clamp (by omega)]
  refine lv_aload_n hx hb dL_law_577 rfl (lv_at hl 0 rfl) ?_
  refine lv_iload hx hb dL_law_578 (lv_at hl 4 rfl) ?_
  refine lv_iconst (v := 3) hx hb dL_law_580 (by decide) ?_
  refine lv_iadd hx hb dL_law_581 ?_
  have e_3 : (nI (4 * t) + (3 : Int32)) = nI (4 * t + 3) := nI_add (4 * t) 3
  rw [e_3]
  refine va_sld hx hb hXs hbl hbA hS (vp_in_nI (by omega) (by omega)) dL_law_582 ?_
  rw [nI_clamp (by omega)]
  refine lv_aload_n hx hb dL_law_583 rfl (lv_at hl 3 rfl) ?_
  have hP : va_P (dC, dI) vwCl ((w0 h a b0 cB cJ f g (nI n) (nI c) zg (nI k) ++ wo o cO go) ++ w1 h1 a1 b1 cI cK fb g zt (nI n) (nI c) so nu ty hh pa ch9 zk zl zh zp zq (nI k)) H := hP.sub [0, 1, 2, 6, 3, 4, 5] rfl
  have hD : va_D (fun q : Nat => s.heap.size ≤ q) ((w0 h a b0 cB cJ f g (nI n) (nI c) zg (nI k) ++ wo o cO go) ++ w1 h1 a1 b1 cI cK fb g zt (nI n) (nI c) so nu ty hh pa ch9 zk zl zh zp zq (nI k)) := hD.sub [0, 1, 2, 6, 3, 4, 5] (by decide) rfl
  refine ghi (wc := w0 h a b0 cB cJ f g (nI n) (nI c) zg (nI k) ++ wo o cO go) (wr := w1 h1 a1 b1 cI cK fb g zt (nI n) (nI c) so nu ty hh pa ch9 zk zl zh zp zq (nI k)) (As := [.ref h, .int 2, .int (xs (4 * t + 2)), .int (xs (4 * t + 3)), .ref o]) (rest := []) ⟨hx, hb, hml, hown, hts⟩ (c_L_pack l hst sa dC dI tk tw h a b0 cB cJ o cO go _ f g (nI c) zg (nI k) n 2 (xs (4 * t + 2)) (xs (4 * t + 3)) (by decide) (by decide) (fun z => absurd (by decide) z) (fun z => absurd z (by decide)) b9 hb9 hs9 hr9) (vx_cwSW 5 hts gL_law_L_pack rfl rfl rfl (by decide +kernel) ⟨Nat.le_of_ble_eq_true rfl, Nat.le_of_ble_eq_true rfl⟩) hKh hP hD hS hA hZ hX rfl hl.1 rfl (Nat.le_of_ble_eq_true rfl) dL_law_584 ⟨by show _ ≤ 1042; omega, by show _ ≤ 16674; omega⟩ (fun r_4 u_6 H locs hw_5 hP hD hS => ?_)
  have hP : va_P (dC, dI) vwCl ((w0 h a b0 cB cJ (apR (apR (apR f n (nI b9).toInt64 1) (n + 1) (nO 2 (xs (4 * t + 2)) (xs (4 * t + 3))) (wd b9)) (n + 1 + wd b9) (xs (4 * t + 3)).toInt64 (tW b9)) g (nI (n + hd b9)) (nI c) zg (nI k) ++ wo o cO (vp_updL go 0 ((nI (hd b9)).toInt64))) ++ w1 h1 a1 b1 cI cK fb g zt (nI n) (nI c) so nu ty hh pa ch9 zk zl zh zp zq (nI k)) H := hP
  have hD : va_D (fun q : Nat => s.heap.size ≤ q) ((w0 h a b0 cB cJ (apR (apR (apR f n (nI b9).toInt64 1) (n + 1) (nO 2 (xs (4 * t + 2)) (xs (4 * t + 3))) (wd b9)) (n + 1 + wd b9) (xs (4 * t + 3)).toInt64 (tW b9)) g (nI (n + hd b9)) (nI c) zg (nI k) ++ wo o cO (vp_updL go 0 ((nI (hd b9)).toInt64))) ++ w1 h1 a1 b1 cI cK fb g zt (nI n) (nI c) so nu ty hh pa ch9 zk zl zh zp zq (nI k)) := hD
  obtain rfl : r_4 = 0 := hw_5
  refine lv_istore (lv' := [(5, .int 0), (0, .ref b), (1, .ref h), (2, .ref h1), (3, .ref o), (4, .int (nI (4 * t)))]) hx hb dL_law_587 hl (by decide) rfl (fun ls hl => ?_)
  refine lv_aload_n hx hb dL_law_589 rfl (lv_at hl 3 rfl) ?_
  refine lv_aload_n hx hb dL_law_590 rfl (lv_at hl 1 rfl) ?_
  refine lv_iload hx hb dL_law_591 (lv_at hl 5 rfl) ?_
  refine lv_iconst (v := 1) hx hb dL_law_593 (by decide) ?_
  refine lv_iadd hx hb dL_law_594 ?_
  have e_7 : (nI (4 * t) + (1 : Int32)) = nI (4 * t + 1) := nI_add (4 * t) 1
  rw [e_7]
  refine va_sld hx hb hXs hbl hbA hS (vp_in_nI (by omega) (by omega)) dL_law_595 ?_
  rw [nI_clamp (by omega)]
  rw [e1]
  refine lv_aload_n hx hb dL_law_596 rfl (lv_at hl 1 rfl) ?_
  refine lv_iload hx hb dL_law_597 (lv_at hl 5 rfl) ?_
  refine lv_iconst (v := 2) hx hb dL_law_599 (by decide) ?_
  refine lv_iadd hx hb dL_law_600 ?_
  have e_8 : (nI (4 * t) + (2 : Int32)) = nI (4 * t + 2) := nI_add (4 * t) 2
  rw [e_8]
  refine va_sld hx hb hXs hbl hbA hS (vp_in_nI (by omega) (by omega)) dL_law_601 ?_
  rw [nI_clamp (by omega)]
  refine lv_aload_n hx hb dL_law_602 rfl (lv_at hl 1 rfl) ?_
  refine lv_iload hx hb dL_law_603 (lv_at hl 5 rfl) ?_
  refine lv_iconst (v := 3) hx hb dL_law_605 (by decide) ?_
  refine lv_iadd hx hb dL_law_606 ?_
  have e_9 : (nI (4 * t) + (3 : Int32)) = nI (4 * t + 3) := nI_add (4 * t) 3
  rw [e_9]
  refine va_sld hx hb hXs hbl hbA hS (vp_in_nI (by omega) (by omega)) dL_law_607 ?_
  rw [nI_clamp (by omega)]
  have hP : va_P (dC, dI) vwCl (w1 h1 a1 b1 cI cK fb g zt (nI n) (nI c) so nu ty hh pa ch9 zk zl zh zp zq (nI k) ++ (w0 h a b0 cB cJ (apR (apR (apR f n (nI b9).toInt64 1) (n + 1) (nO 2 (xs (4 * t + 2)) (xs (4 * t + 3))) (wd b9)) (n + 1 + wd b9) (xs (4 * t + 3)).toInt64 (tW b9)) g (nI (n + hd b9)) (nI c) zg (nI k) ++ wo o cO (vp_updL go 0 ((nI (hd b9)).toInt64)))) H := hP.sub [4, 5, 6, 0, 1, 2, 3] rfl
  have hD : va_D (fun q : Nat => s.heap.size ≤ q) (w1 h1 a1 b1 cI cK fb g zt (nI n) (nI c) so nu ty hh pa ch9 zk zl zh zp zq (nI k) ++ (w0 h a b0 cB cJ (apR (apR (apR f n (nI b9).toInt64 1) (n + 1) (nO 2 (xs (4 * t + 2)) (xs (4 * t + 3))) (wd b9)) (n + 1 + wd b9) (xs (4 * t + 3)).toInt64 (tW b9)) g (nI (n + hd b9)) (nI c) zg (nI k) ++ wo o cO (vp_updL go 0 ((nI (hd b9)).toInt64)))) := hD.sub [4, 5, 6, 0, 1, 2, 3] (by decide) rfl
  refine gji (wc := w1 h1 a1 b1 cI cK fb g zt (nI n) (nI c) so nu ty hh pa ch9 zk zl zh zp zq (nI k)) (wr := w0 h a b0 cB cJ (apR (apR (apR f n (nI b9).toInt64 1) (n + 1) (nO 2 (xs (4 * t + 2)) (xs (4 * t + 3))) (wd b9)) (n + 1 + wd b9) (xs (4 * t + 3)).toInt64 (tW b9)) g (nI (n + hd b9)) (nI c) zg (nI k) ++ wo o cO (vp_updL go 0 ((nI (hd b9)).toInt64))) (As := [.int 2, .int (xs (4 * t + 2)), .int (xs (4 * t + 3))]) (rest := []) ⟨hx, hb, hml, hown, hts⟩ (c_X1_pack_2 l dC dI tk tw h1 a1 b1 cI cK _ fb g zt (nI c) so nu ty hh pa ch9 zk zl zh zp zq (nI k) n (xs (4 * t + 2)) (xs (4 * t + 3)) hr8) (cwV 3 hts gL_law_X1_pack rfl rfl rfl (by decide +kernel) ⟨Nat.le_of_ble_eq_true rfl, Nat.le_of_ble_eq_true rfl⟩) hKm hP hD hS hA hZ (q0 := 0) (ci := 1) rfl rfl rfl rfl hl.1 rfl (Nat.le_of_ble_eq_true rfl) dL_law_608 ⟨by show _ ≤ 1042; omega, by show _ ≤ 16674; omega⟩ (fun r_10 u_12 H locs hw_11 hP hD hS => ?_)
  have hP : va_P (dC, dI) vwCl (w1 h1 a1 b1 cI cK (phF fb n (pk2 (xs (4 * t + 2)) (xs (4 * t + 3)))) g 0 (nI (n + phL (pk2 (xs (4 * t + 2)) (xs (4 * t + 3))))) (nI c) so nu ty hh pa ch9 zk zl zh zp zq (nI k) ++ (w0 h a b0 cB cJ (apR (apR (apR f n (nI b9).toInt64 1) (n + 1) (nO 2 (xs (4 * t + 2)) (xs (4 * t + 3))) (wd b9)) (n + 1 + wd b9) (xs (4 * t + 3)).toInt64 (tW b9)) g (nI (n + hd b9)) (nI c) zg (nI k) ++ wo o cO (vp_updL go 0 ((nI (hd b9)).toInt64)))) H := hP
  have hD : va_D (fun q : Nat => s.heap.size ≤ q) (w1 h1 a1 b1 cI cK (phF fb n (pk2 (xs (4 * t + 2)) (xs (4 * t + 3)))) g 0 (nI (n + phL (pk2 (xs (4 * t + 2)) (xs (4 * t + 3))))) (nI c) so nu ty hh pa ch9 zk zl zh zp zq (nI k) ++ (w0 h a b0 cB cJ (apR (apR (apR f n (nI b9).toInt64 1) (n + 1) (nO 2 (xs (4 * t + 2)) (xs (4 * t + 3))) (wd b9)) (n + 1 + wd b9) (xs (4 * t + 3)).toInt64 (tW b9)) g (nI (n + hd b9)) (nI c) zg (nI k) ++ wo o cO (vp_updL go 0 ((nI (hd b9)).toInt64)))) := hD
  obtain rfl : r_10 = nI (phL (pk2 (xs (4 * t + 2)) (xs (4 * t + 3)))) := hw_11
  rw [z1] at hP hD
  have hP : va_P (dC, dI) vwCl (w1 h1 a1 b1 cI cK (phF fb n (pk2 (xs (4 * t + 2)) (xs (4 * t + 3)))) g 0 (nI (n + hd b9)) (nI c) so nu ty hh pa ch9 zk zl zh zp zq (nI k) ++ (w0 h a b0 cB cJ (apR (apR (apR f n (nI b9).toInt64 1) (n + 1) (nO 2 (xs (4 * t + 2)) (xs (4 * t + 3))) (wd b9)) (n + 1 + wd b9) (xs (4 * t + 3)).toInt64 (tW b9)) g (nI (n + hd b9)) (nI c) zg (nI k) ++ wo o cO (vp_updL go 0 ((nI (hd b9)).toInt64)))) H := hP
  have hD : va_D (fun q : Nat => s.heap.size ≤ q) (w1 h1 a1 b1 cI cK (phF fb n (pk2 (xs (4 * t + 2)) (xs (4 * t + 3)))) g 0 (nI (n + hd b9)) (nI c) so nu ty hh pa ch9 zk zl zh zp zq (nI k) ++ (w0 h a b0 cB cJ (apR (apR (apR f n (nI b9).toInt64 1) (n + 1) (nO 2 (xs (4 * t + 2)) (xs (4 * t + 3))) (wd b9)) (n + 1 + wd b9) (xs (4 * t + 3)).toInt64 (tW b9)) g (nI (n + hd b9)) (nI c) zg (nI k) ++ wo o cO (vp_updL go 0 ((nI (hd b9)).toInt64)))) := hD
  refine lv_istore (lv' := [(6, .int (nI (phL (pk2 (xs (4 * t + 2)) (xs (4 * t + 3)))))), (5, .int 0), (0, .ref b), (1, .ref h), (2, .ref h1), (3, .ref o), (4, .int (nI (4 * t)))]) hx hb dL_law_611 hl (by decide) rfl (fun ls hl => ?_)
  refine lv_aload_n hx hb dL_law_613 rfl (lv_at hl 4 rfl) ?_
  refine gji (wc := w1 h1 a1 b1 cI cK (phF fb n (pk2 (xs (4 * t + 2)) (xs (4 * t + 3)))) g 0 (nI (n + hd b9)) (nI c) so nu ty hh pa ch9 zk zl zh zp zq (nI k)) (wr := w0 h a b0 cB cJ (apR (apR (apR f n (nI b9).toInt64 1) (n + 1) (nO 2 (xs (4 * t + 2)) (xs (4 * t + 3))) (wd b9)) (n + 1 + wd b9) (xs (4 * t + 3)).toInt64 (tW b9)) g (nI (n + hd b9)) (nI c) zg (nI k) ++ wo o cO (vp_updL go 0 ((nI (hd b9)).toInt64))) (As := []) (rest := []) ⟨hx, hb, hml, hown, hts⟩ (c_X1_thrown l dC dI tk tw h1 a1 b1 cI cK _ (phF fb n (pk2 (xs (4 * t + 2)) (xs (4 * t + 3)))) g 0 (nI (n + hd b9)) (nI c) so nu ty hh pa ch9 zk zl zh zp zq (nI k) ) (cwV 0 hts gL_law_X1_thrown rfl rfl rfl (by decide +kernel) ⟨Nat.le_of_ble_eq_true rfl, Nat.le_of_ble_eq_true rfl⟩) hKm hP hD hS hA hZ (q0 := 0) (ci := 1) rfl rfl rfl rfl hl.1 rfl (Nat.le_of_ble_eq_true rfl) dL_law_614 ⟨by show _ ≤ 1042; omega, by show _ ≤ 16674; omega⟩ (fun r_13 u_15 H locs hw_14 hP hD hS => ?_)
  have hP : va_P (dC, dI) vwCl (w1 h1 a1 b1 cI cK (phF fb n (pk2 (xs (4 * t + 2)) (xs (4 * t + 3)))) g 0 (nI (n + hd b9)) (nI c) so nu ty hh pa ch9 zk zl zh zp zq (nI k) ++ (w0 h a b0 cB cJ (apR (apR (apR f n (nI b9).toInt64 1) (n + 1) (nO 2 (xs (4 * t + 2)) (xs (4 * t + 3))) (wd b9)) (n + 1 + wd b9) (xs (4 * t + 3)).toInt64 (tW b9)) g (nI (n + hd b9)) (nI c) zg (nI k) ++ wo o cO (vp_updL go 0 ((nI (hd b9)).toInt64)))) H := hP
  have hD : va_D (fun q : Nat => s.heap.size ≤ q) (w1 h1 a1 b1 cI cK (phF fb n (pk2 (xs (4 * t + 2)) (xs (4 * t + 3)))) g 0 (nI (n + hd b9)) (nI c) so nu ty hh pa ch9 zk zl zh zp zq (nI k) ++ (w0 h a b0 cB cJ (apR (apR (apR f n (nI b9).toInt64 1) (n + 1) (nO 2 (xs (4 * t + 2)) (xs (4 * t + 3))) (wd b9)) (n + 1 + wd b9) (xs (4 * t + 3)).toInt64 (tW b9)) g (nI (n + hd b9)) (nI c) zg (nI k) ++ wo o cO (vp_updL go 0 ((nI (hd b9)).toInt64)))) := hD
  obtain rfl : r_13 = 0 := hw_14
  refine lv_iload hx hb dL_law_617 (lv_at hl 1 rfl) ?_
  refine lv_icmp_eq (tgt := 624) hx hb dL_law_619 (by decide) (fun c_16 => ?_) (fun c_16 => ?_)
  · skip
    refine lv_iload hx hb dL_law_624 (lv_at hl 1 rfl) ?_
    refine lv_if_ne (tgt := 641) hx hb dL_law_626 (by decide) (fun c_17 => ?_) (fun c_17 => ?_)
    · skip
      exact absurd (by decide) c_17
    · skip
      refine lv_aload_n hx hb dL_law_629 rfl (lv_at hl 5 rfl) ?_
      refine lv_iconst (v := 0) hx hb dL_law_630 (by decide) ?_
      refine va_lald hx hb hK hP 6 4 rfl rfl vp01 dL_law_631 ?_
      have e_18 : (vp_updL go 0 ((nI (hd b9)).toInt64) (0 : Int32).toNatClampNeg : Int64) = ((nI (hd b9)).toInt64) := pk_uLs
      rw [e_18]
      refine lv_iload hx hb dL_law_632 (lv_at hl 0 rfl) ?_
      refine lv_i2l hx hb dL_law_634 rfl ?_
      refine W.lcmp hx hb dL_law_635 ?_
      refine lv_if_eq (tgt := 641) hx hb dL_law_636 (by decide) (fun c_19 => ?_) (fun c_19 => ?_)
      · skip
        have c_19 := (lg_cmp_eq ((nI (hd b9)).toInt64) ((nI (phL (pk2 (xs (4 * t + 2)) (xs (4 * t + 3))))).toInt64)).mp c_19
        refine lv_goto (tgt := 644) hx hb dL_law_641 (by decide) ?_
        have hP : va_P (dC, dI) vwCl (w0 h a b0 cB cJ (apR (apR (apR f n (nI b9).toInt64 1) (n + 1) (nO 2 (xs (4 * t + 2)) (xs (4 * t + 3))) (wd b9)) (n + 1 + wd b9) (xs (4 * t + 3)).toInt64 (tW b9)) g (nI (n + hd b9)) (nI c) zg (nI k) ++ (w1 h1 a1 b1 cI cK (phF fb n (pk2 (xs (4 * t + 2)) (xs (4 * t + 3)))) g 0 (nI (n + hd b9)) (nI c) so nu ty hh pa ch9 zk zl zh zp zq (nI k) ++ wo o cO (vp_updL go 0 ((nI (hd b9)).toInt64)))) H := hP.sub [3, 4, 5, 0, 1, 2, 6] rfl
        have hD : va_D (fun q : Nat => s.heap.size ≤ q) (w0 h a b0 cB cJ (apR (apR (apR f n (nI b9).toInt64 1) (n + 1) (nO 2 (xs (4 * t + 2)) (xs (4 * t + 3))) (wd b9)) (n + 1 + wd b9) (xs (4 * t + 3)).toInt64 (tW b9)) g (nI (n + hd b9)) (nI c) zg (nI k) ++ (w1 h1 a1 b1 cI cK (phF fb n (pk2 (xs (4 * t + 2)) (xs (4 * t + 3)))) g 0 (nI (n + hd b9)) (nI c) so nu ty hh pa ch9 zk zl zh zp zq (nI k) ++ wo o cO (vp_updL go 0 ((nI (hd b9)).toInt64)))) := hD.sub [3, 4, 5, 0, 1, 2, 6] (by decide) rfl
        refine W.widen (k := 7 + t + 1) (n := 8416 + 6 * (t + 1)) (by omega) (by omega) ?_
        exact K _ _ _ ⟨n + hd b9, c, k, apR (apR (apR f n (nI b9).toInt64 1) (n + 1) (nO 2 (xs (4 * t + 2)) (xs (4 * t + 3))) (wd b9)) (n + 1 + wd b9) (xs (4 * t + 3)).toInt64 (tW b9), phF fb n (pk2 (xs (4 * t + 2)) (xs (4 * t + 3))), g, zg, 0, so, nu, ty, hh, pa, ch9, zk, zl, zh, zp, zq, vp_updL go 0 ((nI (hd b9)).toInt64), hr9, (by omega), hk, z2, (GV_mono hG (fun j hj => by rw [apR_lo _ _ _ _ (by omega), apR_lo _ _ _ _ (by omega), apR_lo _ _ _ _ (by omega)]) (Nat.le_refl _)), hP, hD, hS, lv_sub hl [2, 3, 4, 5, 6] rfl⟩
      · skip
        have c_19 := (not_congr (lg_cmp_eq ((nI (hd b9)).toInt64) ((nI (phL (pk2 (xs (4 * t + 2)) (xs (4 * t + 3))))).toInt64))).mp c_19
        exact absurd (by rw [z1]) c_19
  · skip
    exact absurd rfl c_16
set_option maxHeartbeats 4000000 in
set_option maxRecDepth 100000 in
theorem op_pack_f2 {p : Program} {e : Env} {s : State} {m : MethodId} {below : List Frame} {meth : Method} {cd : Code} {l : Launch} {b L : Nat} {xs : Nat → Int32} {dC : Nat → ClassId} {dI : Nat → Nat → Nat} {tk tw : Nat} {sa : Nat → Nat} {cB cJ cI cK cO : ClassId} {h a b0 h1 a1 b1 o t : Nat} {H : Heap} {locs : List Loc} {ls : Array Slot} (CX : LC l p s m meth cd b L xs dC dI tk tw sa cB cJ cI cK cO) (ht4 : 4 * t + 4 ≤ L) (K : ∀ (H : Heap) (locs : List Loc) (ls : Array Slot), LI s b dC dI h a b0 cB cJ h1 a1 b1 cI cK o cO t H locs ls → W p l e room_1 s m #[Value.ref b] below meth cd H locs (7 + t + 1) (8416 + 6 * (t + 1)) (lw_Z below #[Value.ref b] s) (F0 m 644 ls [])) (n : Nat) (c : Nat) (k : Nat) (f : Nat → Int32) (fb : Nat → Int32) (g : Nat → Int64) (zg : Int32) (zt : Int32) (so : Int32) (nu : Int64) (ty : Int32) (hh : Int32) (pa : Int64) (ch9 : Int64) (zk : Int32) (zl : Int32) (zh : Int32) (zp : Int32) (zq : Int32) (go : Nat → Int64) (hn : n ≤ 4096) (hc : c ≤ n) (hk : k ≤ 100) (hRB : RB n f fb) (hG : GV f c zg zk zl zh zp zq) (hP : va_P (dC, dI) vwCl (w0 h a b0 cB cJ f g (nI n) (nI c) zg (nI k) ++ (w1 h1 a1 b1 cI cK fb g zt (nI n) (nI c) so nu ty hh pa ch9 zk zl zh zp zq (nI k) ++ wo o cO go)) H) (hD : va_D (fun q : Nat => s.heap.size ≤ q) (w0 h a b0 cB cJ f g (nI n) (nI c) zg (nI k) ++ (w1 h1 a1 b1 cI cK fb g zt (nI n) (nI c) so nu ty hh pa ch9 zk zl zh zp zq (nI k) ++ wo o cO go))) (hS : va_S (fun q : Nat => s.heap.size ≤ q) s.heap H locs) (hl : lv_has ls 8 [(0, .ref b), (1, .ref h), (2, .ref h1), (3, .ref o), (4, .int (nI (4 * t)))]) (e1 : xs (4 * t + 1) = 2) (hr8 : 4096 < n + phL (pk2 (xs (4 * t + 2)) (xs (4 * t + 3)))) : W p l e room_1 s m #[Value.ref b] below meth cd H locs (7 + t) (8416 + 6 * t) (lw_Z below #[Value.ref b] s) (F0 m 564 ls []) := by
  obtain ⟨⟨hx, hb, hr, hml, hown, hts, hXs, hbl, hlocks⟩, hst, hL, hK, hZ, hX⟩ := CX
  have hA : ∀ q : Nat, s.heap.size ≤ q → (fun q : Nat => s.heap.size ≤ q) q := fun _ h => h
  have hbA : ¬ (fun q : Nat => s.heap.size ≤ q) b := Nat.not_le.mpr hbl
  have hKx := hK.sub (tys' := t0 cB cJ) [0, 1] rfl
  have hKm := hK.sub (tys' := t1 cI cK) [2, 3] rfl
  have hKh := hK.sub (tys' := th cB cJ cO) [0, 1, 4] rfl
  obtain ⟨b9, hb9, hs9, t1, t2, t3, t4⟩ := pkE_2 (xs (4 * t + 2)) (xs (4 * t + 3))
  obtain ⟨z1, z2⟩ := RB_pack (k := 2) (lo := (xs (4 * t + 2))) (hi := (xs (4 * t + 3))) (T := (pk2 (xs (4 * t + 2)) (xs (4 * t + 3)))) hb9 hRB t1 t2 t3 t4
  have hr9 : 4096 < n + hd b9 := by rw [← z1]; exact hr8
  refine lv_aload_n hx hb dL_law_564 rfl (lv_at hl 1 rfl) ?_
  refine lv_aload_n hx hb dL_law_565 rfl (lv_at hl 0 rfl) ?_
  refine lv_iload hx hb dL_law_566 (lv_at hl 4 rfl) ?_
  refine lv_iconst (v := 1) hx hb dL_law_568 (by decide) ?_
  refine lv_iadd hx hb dL_law_569 ?_
  have e_1 : (nI (4 * t) + (1 : Int32)) = nI (4 * t + 1) := nI_add (4 * t) 1
  rw [e_1]
  refine va_sld hx hb hXs hbl hbA hS (vp_in_nI (by omega) (by omega)) dL_law_570 ?_
  rw [nI_clamp (by omega)]
  rw [e1]
  refine lv_aload_n hx hb dL_law_571 rfl (lv_at hl 0 rfl) ?_
  refine lv_iload hx hb dL_law_572 (lv_at hl 4 rfl) ?_
  refine lv_iconst (v := 2) hx hb dL_law_574 (by decide) ?_
  refine lv_iadd hx hb dL_law_575 ?_
  have e_2 : (nI (4 * t) + (2 : Int32)) = nI (4 * t + 2) := nI_add (4 * t) 2
  rw [e_2]
  refine va_sld hx hb hXs hbl hbA hS (vp_in_nI (by omega) (by omega)) dL_law_576 ?_
  rw [nI_clamp (by omega)]
  refine lv_aload_n hx hb dL_law_577 rfl (lv_at hl 0 rfl) ?_
  refine lv_iload hx hb dL_law_578 (lv_at hl 4 rfl) ?_
  refine lv_iconst (v := 3) hx hb dL_law_580 (by decide) ?_
  refine lv_iadd hx hb dL_law_581 ?_
  have e_3 : (nI (4 * t) + (3 : Int32)) = nI (4 * t + 3) := nI_add (4 * t) 3
  rw [e_3]
  refine va_sld hx hb hXs hbl hbA hS (vp_in_nI (by omega) (by omega)) dL_law_582 ?_
  rw [nI_clamp (by omega)]
  refine lv_aload_n hx hb dL_law_583 rfl (lv_at hl 3 rfl) ?_
  have hP : va_P (dC, dI) vwCl ((w0 h a b0 cB cJ f g (nI n) (nI c) zg (nI k) ++ wo o cO go) ++ w1 h1 a1 b1 cI cK fb g zt (nI n) (nI c) so nu ty hh pa ch9 zk zl zh zp zq (nI k)) H := hP.sub [0, 1, 2, 6, 3, 4, 5] rfl
  have hD : va_D (fun q : Nat => s.heap.size ≤ q) ((w0 h a b0 cB cJ f g (nI n) (nI c) zg (nI k) ++ wo o cO go) ++ w1 h1 a1 b1 cI cK fb g zt (nI n) (nI c) so nu ty hh pa ch9 zk zl zh zp zq (nI k)) := hD.sub [0, 1, 2, 6, 3, 4, 5] (by decide) rfl
  refine ghi (wc := w0 h a b0 cB cJ f g (nI n) (nI c) zg (nI k) ++ wo o cO go) (wr := w1 h1 a1 b1 cI cK fb g zt (nI n) (nI c) so nu ty hh pa ch9 zk zl zh zp zq (nI k)) (As := [.ref h, .int 2, .int (xs (4 * t + 2)), .int (xs (4 * t + 3)), .ref o]) (rest := []) ⟨hx, hb, hml, hown, hts⟩ (c_L_pack_f l hst sa dC dI tk tw h a b0 cB cJ o cO go _ f g (nI c) zg (nI k) n hn 2 (xs (4 * t + 2)) (xs (4 * t + 3)) (by decide) (by decide) (fun z => absurd (by decide) z) (fun z => absurd z (by decide)) b9 hb9 hs9 hr9) (vx_cwSW 5 hts gL_law_L_pack rfl rfl rfl (by decide +kernel) ⟨Nat.le_of_ble_eq_true rfl, Nat.le_of_ble_eq_true rfl⟩) hKh hP hD hS hA hZ hX rfl hl.1 rfl (Nat.le_of_ble_eq_true rfl) dL_law_584 ⟨by show _ ≤ 1042; omega, by show _ ≤ 16674; omega⟩ (fun r_4 u_6 H locs hw_5 hP hD hS => ?_)
  have hP : va_P (dC, dI) vwCl ((w0 h a b0 cB cJ f g (nI n) (nI c) zg (nI k) ++ wo o cO go) ++ w1 h1 a1 b1 cI cK fb g zt (nI n) (nI c) so nu ty hh pa ch9 zk zl zh zp zq (nI k)) H := hP
  have hD : va_D (fun q : Nat => s.heap.size ≤ q) ((w0 h a b0 cB cJ f g (nI n) (nI c) zg (nI k) ++ wo o cO go) ++ w1 h1 a1 b1 cI cK fb g zt (nI n) (nI c) so nu ty hh pa ch9 zk zl zh zp zq (nI k)) := hD
  obtain rfl : r_4 = 2 := hw_5
  refine lv_istore (lv' := [(5, .int 2), (0, .ref b), (1, .ref h), (2, .ref h1), (3, .ref o), (4, .int (nI (4 * t)))]) hx hb dL_law_587 hl (by decide) rfl (fun ls hl => ?_)
  refine lv_aload_n hx hb dL_law_589 rfl (lv_at hl 3 rfl) ?_
  refine lv_aload_n hx hb dL_law_590 rfl (lv_at hl 1 rfl) ?_
  refine lv_iload hx hb dL_law_591 (lv_at hl 5 rfl) ?_
  refine lv_iconst (v := 1) hx hb dL_law_593 (by decide) ?_
  refine lv_iadd hx hb dL_law_594 ?_
  have e_7 : (nI (4 * t) + (1 : Int32)) = nI (4 * t + 1) := nI_add (4 * t) 1
  rw [e_7]
  refine va_sld hx hb hXs hbl hbA hS (vp_in_nI (by omega) (by omega)) dL_law_595 ?_
  rw [nI_clamp (by omega)]
  rw [e1]
  refine lv_aload_n hx hb dL_law_596 rfl (lv_at hl 1 rfl) ?_
  refine lv_iload hx hb dL_law_597 (lv_at hl 5 rfl) ?_
  refine lv_iconst (v := 2) hx hb dL_law_599 (by decide) ?_
  refine lv_iadd hx hb dL_law_600 ?_
  have e_8 : (nI (4 * t) + (2 : Int32)) = nI (4 * t + 2) := nI_add (4 * t) 2
  rw [e_8]
  refine va_sld hx hb hXs hbl hbA hS (vp_in_nI (by omega) (by omega)) dL_law_601 ?_
  rw [nI_clamp (by omega)]
  refine lv_aload_n hx hb dL_law_602 rfl (lv_at hl 1 rfl) ?_
  refine lv_iload hx hb dL_law_603 (lv_at hl 5 rfl) ?_
  refine lv_iconst (v := 3) hx hb dL_law_605 (by decide) ?_
  refine lv_iadd hx hb dL_law_606 ?_
  have e_9 : (nI (4 * t) + (3 : Int32)) = nI (4 * t + 3) := nI_add (4 * t) 3
  rw [e_9]
  refine va_sld hx hb hXs hbl hbA hS (vp_in_nI (by omega) (by omega)) dL_law_607 ?_
  rw [nI_clamp (by omega)]
  have hP : va_P (dC, dI) vwCl (w1 h1 a1 b1 cI cK fb g zt (nI n) (nI c) so nu ty hh pa ch9 zk zl zh zp zq (nI k) ++ (w0 h a b0 cB cJ f g (nI n) (nI c) zg (nI k) ++ wo o cO go)) H := hP.sub [4, 5, 6, 0, 1, 2, 3] rfl
  have hD : va_D (fun q : Nat => s.heap.size ≤ q) (w1 h1 a1 b1 cI cK fb g zt (nI n) (nI c) so nu ty hh pa ch9 zk zl zh zp zq (nI k) ++ (w0 h a b0 cB cJ f g (nI n) (nI c) zg (nI k) ++ wo o cO go)) := hD.sub [4, 5, 6, 0, 1, 2, 3] (by decide) rfl
  refine gji (wc := w1 h1 a1 b1 cI cK fb g zt (nI n) (nI c) so nu ty hh pa ch9 zk zl zh zp zq (nI k)) (wr := w0 h a b0 cB cJ f g (nI n) (nI c) zg (nI k) ++ wo o cO go) (As := [.int 2, .int (xs (4 * t + 2)), .int (xs (4 * t + 3))]) (rest := []) ⟨hx, hb, hml, hown, hts⟩ (c_X1_pack_2f l dC dI tk tw h1 a1 b1 cI cK _ fb g zt (nI c) so nu ty hh pa ch9 zk zl zh zp zq (nI k) n hn (xs (4 * t + 2)) (xs (4 * t + 3)) hr8) (cwV 3 hts gL_law_X1_pack rfl rfl rfl (by decide +kernel) ⟨Nat.le_of_ble_eq_true rfl, Nat.le_of_ble_eq_true rfl⟩) hKm hP hD hS hA hZ (q0 := 0) (ci := 1) rfl rfl rfl rfl hl.1 rfl (Nat.le_of_ble_eq_true rfl) dL_law_608 ⟨by show _ ≤ 1042; omega, by show _ ≤ 16674; omega⟩ (fun r_10 u_12 H locs hw_11 hP hD hS => ?_)
  have hP : va_P (dC, dI) vwCl (w1 h1 a1 b1 cI cK fb g 2 (nI n) (nI c) so nu ty hh pa ch9 zk zl zh zp zq (nI k) ++ (w0 h a b0 cB cJ f g (nI n) (nI c) zg (nI k) ++ wo o cO go)) H := hP
  have hD : va_D (fun q : Nat => s.heap.size ≤ q) (w1 h1 a1 b1 cI cK fb g 2 (nI n) (nI c) so nu ty hh pa ch9 zk zl zh zp zq (nI k) ++ (w0 h a b0 cB cJ f g (nI n) (nI c) zg (nI k) ++ wo o cO go)) := hD
  refine lv_istore (lv' := [(6, .int r_10), (5, .int 2), (0, .ref b), (1, .ref h), (2, .ref h1), (3, .ref o), (4, .int (nI (4 * t)))]) hx hb dL_law_611 hl (by decide) rfl (fun ls hl => ?_)
  refine lv_aload_n hx hb dL_law_613 rfl (lv_at hl 4 rfl) ?_
  refine gji (wc := w1 h1 a1 b1 cI cK fb g 2 (nI n) (nI c) so nu ty hh pa ch9 zk zl zh zp zq (nI k)) (wr := w0 h a b0 cB cJ f g (nI n) (nI c) zg (nI k) ++ wo o cO go) (As := []) (rest := []) ⟨hx, hb, hml, hown, hts⟩ (c_X1_thrown l dC dI tk tw h1 a1 b1 cI cK _ fb g 2 (nI n) (nI c) so nu ty hh pa ch9 zk zl zh zp zq (nI k) ) (cwV 0 hts gL_law_X1_thrown rfl rfl rfl (by decide +kernel) ⟨Nat.le_of_ble_eq_true rfl, Nat.le_of_ble_eq_true rfl⟩) hKm hP hD hS hA hZ (q0 := 0) (ci := 1) rfl rfl rfl rfl hl.1 rfl (Nat.le_of_ble_eq_true rfl) dL_law_614 ⟨by show _ ≤ 1042; omega, by show _ ≤ 16674; omega⟩ (fun r_13 u_15 H locs hw_14 hP hD hS => ?_)
  have hP : va_P (dC, dI) vwCl (w1 h1 a1 b1 cI cK fb g 2 (nI n) (nI c) so nu ty hh pa ch9 zk zl zh zp zq (nI k) ++ (w0 h a b0 cB cJ f g (nI n) (nI c) zg (nI k) ++ wo o cO go)) H := hP
  have hD : va_D (fun q : Nat => s.heap.size ≤ q) (w1 h1 a1 b1 cI cK fb g 2 (nI n) (nI c) so nu ty hh pa ch9 zk zl zh zp zq (nI k) ++ (w0 h a b0 cB cJ f g (nI n) (nI c) zg (nI k) ++ wo o cO go)) := hD
  obtain rfl : r_13 = 2 := hw_14
  refine lv_iload hx hb dL_law_617 (lv_at hl 1 rfl) ?_
  refine lv_icmp_eq (tgt := 624) hx hb dL_law_619 (by decide) (fun c_16 => ?_) (fun c_16 => ?_)
  · skip
    refine lv_iload hx hb dL_law_624 (lv_at hl 1 rfl) ?_
    refine lv_if_ne (tgt := 641) hx hb dL_law_626 (by decide) (fun c_17 => ?_) (fun c_17 => ?_)
    · skip
      refine lv_goto (tgt := 644) hx hb dL_law_641 (by decide) ?_
      have hP : va_P (dC, dI) vwCl (w0 h a b0 cB cJ f g (nI n) (nI c) zg (nI k) ++ (w1 h1 a1 b1 cI cK fb g 2 (nI n) (nI c) so nu ty hh pa ch9 zk zl zh zp zq (nI k) ++ wo o cO go)) H := hP.sub [3, 4, 5, 0, 1, 2, 6] rfl
      have hD : va_D (fun q : Nat => s.heap.size ≤ q) (w0 h a b0 cB cJ f g (nI n) (nI c) zg (nI k) ++ (w1 h1 a1 b1 cI cK fb g 2 (nI n) (nI c) so nu ty hh pa ch9 zk zl zh zp zq (nI k) ++ wo o cO go)) := hD.sub [3, 4, 5, 0, 1, 2, 6] (by decide) rfl
      refine W.widen (k := 7 + t + 1) (n := 8416 + 6 * (t + 1)) (by omega) (by omega) ?_
      exact K _ _ _ ⟨n, c, k, f, fb, g, zg, 2, so, nu, ty, hh, pa, ch9, zk, zl, zh, zp, zq, go, hn, hc, hk, hRB, hG, hP, hD, hS, lv_sub hl [2, 3, 4, 5, 6] rfl⟩
    · skip
      exact absurd c_17 (by decide)
  · skip
    exact absurd rfl c_16
set_option maxHeartbeats 4000000 in
set_option maxRecDepth 100000 in
theorem op_pack_g3 {p : Program} {e : Env} {s : State} {m : MethodId} {below : List Frame} {meth : Method} {cd : Code} {l : Launch} {b L : Nat} {xs : Nat → Int32} {dC : Nat → ClassId} {dI : Nat → Nat → Nat} {tk tw : Nat} {sa : Nat → Nat} {cB cJ cI cK cO : ClassId} {h a b0 h1 a1 b1 o t : Nat} {H : Heap} {locs : List Loc} {ls : Array Slot} (CX : LC l p s m meth cd b L xs dC dI tk tw sa cB cJ cI cK cO) (ht4 : 4 * t + 4 ≤ L) (K : ∀ (H : Heap) (locs : List Loc) (ls : Array Slot), LI s b dC dI h a b0 cB cJ h1 a1 b1 cI cK o cO t H locs ls → W p l e room_1 s m #[Value.ref b] below meth cd H locs (7 + t + 1) (8416 + 6 * (t + 1)) (lw_Z below #[Value.ref b] s) (F0 m 644 ls [])) (n : Nat) (c : Nat) (k : Nat) (f : Nat → Int32) (fb : Nat → Int32) (g : Nat → Int64) (zg : Int32) (zt : Int32) (so : Int32) (nu : Int64) (ty : Int32) (hh : Int32) (pa : Int64) (ch9 : Int64) (zk : Int32) (zl : Int32) (zh : Int32) (zp : Int32) (zq : Int32) (go : Nat → Int64) (hn : n ≤ 4096) (hc : c ≤ n) (hk : k ≤ 100) (hRB : RB n f fb) (hG : GV f c zg zk zl zh zp zq) (hP : va_P (dC, dI) vwCl (w0 h a b0 cB cJ f g (nI n) (nI c) zg (nI k) ++ (w1 h1 a1 b1 cI cK fb g zt (nI n) (nI c) so nu ty hh pa ch9 zk zl zh zp zq (nI k) ++ wo o cO go)) H) (hD : va_D (fun q : Nat => s.heap.size ≤ q) (w0 h a b0 cB cJ f g (nI n) (nI c) zg (nI k) ++ (w1 h1 a1 b1 cI cK fb g zt (nI n) (nI c) so nu ty hh pa ch9 zk zl zh zp zq (nI k) ++ wo o cO go))) (hS : va_S (fun q : Nat => s.heap.size ≤ q) s.heap H locs) (hl : lv_has ls 8 [(0, .ref b), (1, .ref h), (2, .ref h1), (3, .ref o), (4, .int (nI (4 * t)))]) (e1 : xs (4 * t + 1) = 3) (hr8 : n + phL (pk3 (xs (4 * t + 2)) (xs (4 * t + 3))) ≤ 4096) : W p l e room_1 s m #[Value.ref b] below meth cd H locs (7 + t) (8416 + 6 * t) (lw_Z below #[Value.ref b] s) (F0 m 564 ls []) := by
  obtain ⟨⟨hx, hb, hr, hml, hown, hts, hXs, hbl, hlocks⟩, hst, hL, hK, hZ, hX⟩ := CX
  have hA : ∀ q : Nat, s.heap.size ≤ q → (fun q : Nat => s.heap.size ≤ q) q := fun _ h => h
  have hbA : ¬ (fun q : Nat => s.heap.size ≤ q) b := Nat.not_le.mpr hbl
  have hKx := hK.sub (tys' := t0 cB cJ) [0, 1] rfl
  have hKm := hK.sub (tys' := t1 cI cK) [2, 3] rfl
  have hKh := hK.sub (tys' := th cB cJ cO) [0, 1, 4] rfl
  obtain ⟨b9, hb9, hs9, t1, t2, t3, t4⟩ := pkE_3 (xs (4 * t + 2)) (xs (4 * t + 3))
  obtain ⟨z1, z2⟩ := RB_pack (k := 3) (lo := (xs (4 * t + 2))) (hi := (xs (4 * t + 3))) (T := (pk3 (xs (4 * t + 2)) (xs (4 * t + 3)))) hb9 hRB t1 t2 t3 t4
  have hr9 : n + hd b9 ≤ 4096 := by rw [← z1]; exact hr8
  refine lv_aload_n hx hb dL_law_564 rfl (lv_at hl 1 rfl) ?_
  refine lv_aload_n hx hb dL_law_565 rfl (lv_at hl 0 rfl) ?_
  refine lv_iload hx hb dL_law_566 (lv_at hl 4 rfl) ?_
  refine lv_iconst (v := 1) hx hb dL_law_568 (by decide) ?_
  refine lv_iadd hx hb dL_law_569 ?_
  have e_1 : (nI (4 * t) + (1 : Int32)) = nI (4 * t + 1) := nI_add (4 * t) 1
  rw [e_1]
  refine va_sld hx hb hXs hbl hbA hS (vp_in_nI (by omega) (by omega)) dL_law_570 ?_
  rw [nI_clamp (by omega)]
  rw [e1]
  refine lv_aload_n hx hb dL_law_571 rfl (lv_at hl 0 rfl) ?_
  refine lv_iload hx hb dL_law_572 (lv_at hl 4 rfl) ?_
  refine lv_iconst (v := 2) hx hb dL_law_574 (by decide) ?_
  refine lv_iadd hx hb dL_law_575 ?_
  have e_2 : (nI (4 * t) + (2 : Int32)) = nI (4 * t + 2) := nI_add (4 * t) 2
  rw [e_2]
  refine va_sld hx hb hXs hbl hbA hS (vp_in_nI (by omega) (by omega)) dL_law_576 ?_
  rw [nI_clamp (by omega)]
  refine lv_aload_n hx hb dL_law_577 rfl (lv_at hl 0 rfl) ?_
  refine lv_iload hx hb dL_law_578 (lv_at hl 4 rfl) ?_
  refine lv_iconst (v := 3) hx hb dL_law_580 (by decide) ?_
  refine lv_iadd hx hb dL_law_581 ?_
  have e_3 : (nI (4 * t) + (3 : Int32)) = nI (4 * t + 3) := nI_add (4 * t) 3
  rw [e_3]
  refine va_sld hx hb hXs hbl hbA hS (vp_in_nI (by omega) (by omega)) dL_law_582 ?_
  rw [nI_clamp (by omega)]
  refine lv_aload_n hx hb dL_law_583 rfl (lv_at hl 3 rfl) ?_
  have hP : va_P (dC, dI) vwCl ((w0 h a b0 cB cJ f g (nI n) (nI c) zg (nI k) ++ wo o cO go) ++ w1 h1 a1 b1 cI cK fb g zt (nI n) (nI c) so nu ty hh pa ch9 zk zl zh zp zq (nI k)) H := hP.sub [0, 1, 2, 6, 3, 4, 5] rfl
  have hD : va_D (fun q : Nat => s.heap.size ≤ q) ((w0 h a b0 cB cJ f g (nI n) (nI c) zg (nI k) ++ wo o cO go) ++ w1 h1 a1 b1 cI cK fb g zt (nI n) (nI c) so nu ty hh pa ch9 zk zl zh zp zq (nI k)) := hD.sub [0, 1, 2, 6, 3, 4, 5] (by decide) rfl
  refine ghi (wc := w0 h a b0 cB cJ f g (nI n) (nI c) zg (nI k) ++ wo o cO go) (wr := w1 h1 a1 b1 cI cK fb g zt (nI n) (nI c) so nu ty hh pa ch9 zk zl zh zp zq (nI k)) (As := [.ref h, .int 3, .int (xs (4 * t + 2)), .int (xs (4 * t + 3)), .ref o]) (rest := []) ⟨hx, hb, hml, hown, hts⟩ (c_L_pack l hst sa dC dI tk tw h a b0 cB cJ o cO go _ f g (nI c) zg (nI k) n 3 (xs (4 * t + 2)) (xs (4 * t + 3)) (by decide) (by decide) (fun z => absurd (by decide) z) (fun z => absurd z (by decide)) b9 hb9 hs9 hr9) (vx_cwSW 5 hts gL_law_L_pack rfl rfl rfl (by decide +kernel) ⟨Nat.le_of_ble_eq_true rfl, Nat.le_of_ble_eq_true rfl⟩) hKh hP hD hS hA hZ hX rfl hl.1 rfl (Nat.le_of_ble_eq_true rfl) dL_law_584 ⟨by show _ ≤ 1042; omega, by show _ ≤ 16674; omega⟩ (fun r_4 u_6 H locs hw_5 hP hD hS => ?_)
  have hP : va_P (dC, dI) vwCl ((w0 h a b0 cB cJ (apR (apR (apR f n (nI b9).toInt64 1) (n + 1) (nO 3 (xs (4 * t + 2)) (xs (4 * t + 3))) (wd b9)) (n + 1 + wd b9) (xs (4 * t + 3)).toInt64 (tW b9)) g (nI (n + hd b9)) (nI c) zg (nI k) ++ wo o cO (vp_updL go 0 ((nI (hd b9)).toInt64))) ++ w1 h1 a1 b1 cI cK fb g zt (nI n) (nI c) so nu ty hh pa ch9 zk zl zh zp zq (nI k)) H := hP
  have hD : va_D (fun q : Nat => s.heap.size ≤ q) ((w0 h a b0 cB cJ (apR (apR (apR f n (nI b9).toInt64 1) (n + 1) (nO 3 (xs (4 * t + 2)) (xs (4 * t + 3))) (wd b9)) (n + 1 + wd b9) (xs (4 * t + 3)).toInt64 (tW b9)) g (nI (n + hd b9)) (nI c) zg (nI k) ++ wo o cO (vp_updL go 0 ((nI (hd b9)).toInt64))) ++ w1 h1 a1 b1 cI cK fb g zt (nI n) (nI c) so nu ty hh pa ch9 zk zl zh zp zq (nI k)) := hD
  obtain rfl : r_4 = 0 := hw_5
  refine lv_istore (lv' := [(5, .int 0), (0, .ref b), (1, .ref h), (2, .ref h1), (3, .ref o), (4, .int (nI (4 * t)))]) hx hb dL_law_587 hl (by decide) rfl (fun ls hl => ?_)
  refine lv_aload_n hx hb dL_law_589 rfl (lv_at hl 3 rfl) ?_
  refine lv_aload_n hx hb dL_law_590 rfl (lv_at hl 1 rfl) ?_
  refine lv_iload hx hb dL_law_591 (lv_at hl 5 rfl) ?_
  refine lv_iconst (v := 1) hx hb dL_law_593 (by decide) ?_
  refine lv_iadd hx hb dL_law_594 ?_
  have e_7 : (nI (4 * t) + (1 : Int32)) = nI (4 * t + 1) := nI_add (4 * t) 1
  rw [e_7]
  refine va_sld hx hb hXs hbl hbA hS (vp_in_nI (by omega) (by omega)) dL_law_595 ?_
  rw [nI_clamp (by omega)]
  rw [e1]
  refine lv_aload_n hx hb dL_law_596 rfl (lv_at hl 1 rfl) ?_
  refine lv_iload hx hb dL_law_597 (lv_at hl 5 rfl) ?_
  refine lv_iconst (v := 2) hx hb dL_law_599 (by decide) ?_
  refine lv_iadd hx hb dL_law_600 ?_
  have e_8 : (nI (4 * t) + (2 : Int32)) = nI (4 * t + 2) := nI_add (4 * t) 2
  rw [e_8]
  refine va_sld hx hb hXs hbl hbA hS (vp_in_nI (by omega) (by omega)) dL_law_601 ?_
  rw [nI_clamp (by omega)]
  refine lv_aload_n hx hb dL_law_602 rfl (lv_at hl 1 rfl) ?_
  refine lv_iload hx hb dL_law_603 (lv_at hl 5 rfl) ?_
  refine lv_iconst (v := 3) hx hb dL_law_605 (by decide) ?_
  refine lv_iadd hx hb dL_law_606 ?_
  have e_9 : (nI (4 * t) + (3 : Int32)) = nI (4 * t + 3) := nI_add (4 * t) 3
  rw [e_9]
  refine va_sld hx hb hXs hbl hbA hS (vp_in_nI (by omega) (by omega)) dL_law_607 ?_
  rw [nI_clamp (by omega)]
  have hP : va_P (dC, dI) vwCl (w1 h1 a1 b1 cI cK fb g zt (nI n) (nI c) so nu ty hh pa ch9 zk zl zh zp zq (nI k) ++ (w0 h a b0 cB cJ (apR (apR (apR f n (nI b9).toInt64 1) (n + 1) (nO 3 (xs (4 * t + 2)) (xs (4 * t + 3))) (wd b9)) (n + 1 + wd b9) (xs (4 * t + 3)).toInt64 (tW b9)) g (nI (n + hd b9)) (nI c) zg (nI k) ++ wo o cO (vp_updL go 0 ((nI (hd b9)).toInt64)))) H := hP.sub [4, 5, 6, 0, 1, 2, 3] rfl
  have hD : va_D (fun q : Nat => s.heap.size ≤ q) (w1 h1 a1 b1 cI cK fb g zt (nI n) (nI c) so nu ty hh pa ch9 zk zl zh zp zq (nI k) ++ (w0 h a b0 cB cJ (apR (apR (apR f n (nI b9).toInt64 1) (n + 1) (nO 3 (xs (4 * t + 2)) (xs (4 * t + 3))) (wd b9)) (n + 1 + wd b9) (xs (4 * t + 3)).toInt64 (tW b9)) g (nI (n + hd b9)) (nI c) zg (nI k) ++ wo o cO (vp_updL go 0 ((nI (hd b9)).toInt64)))) := hD.sub [4, 5, 6, 0, 1, 2, 3] (by decide) rfl
  refine gji (wc := w1 h1 a1 b1 cI cK fb g zt (nI n) (nI c) so nu ty hh pa ch9 zk zl zh zp zq (nI k)) (wr := w0 h a b0 cB cJ (apR (apR (apR f n (nI b9).toInt64 1) (n + 1) (nO 3 (xs (4 * t + 2)) (xs (4 * t + 3))) (wd b9)) (n + 1 + wd b9) (xs (4 * t + 3)).toInt64 (tW b9)) g (nI (n + hd b9)) (nI c) zg (nI k) ++ wo o cO (vp_updL go 0 ((nI (hd b9)).toInt64))) (As := [.int 3, .int (xs (4 * t + 2)), .int (xs (4 * t + 3))]) (rest := []) ⟨hx, hb, hml, hown, hts⟩ (c_X1_pack_3 l dC dI tk tw h1 a1 b1 cI cK _ fb g zt (nI c) so nu ty hh pa ch9 zk zl zh zp zq (nI k) n (xs (4 * t + 2)) (xs (4 * t + 3)) hr8) (cwV 3 hts gL_law_X1_pack rfl rfl rfl (by decide +kernel) ⟨Nat.le_of_ble_eq_true rfl, Nat.le_of_ble_eq_true rfl⟩) hKm hP hD hS hA hZ (q0 := 0) (ci := 1) rfl rfl rfl rfl hl.1 rfl (Nat.le_of_ble_eq_true rfl) dL_law_608 ⟨by show _ ≤ 1042; omega, by show _ ≤ 16674; omega⟩ (fun r_10 u_12 H locs hw_11 hP hD hS => ?_)
  have hP : va_P (dC, dI) vwCl (w1 h1 a1 b1 cI cK (phF fb n (pk3 (xs (4 * t + 2)) (xs (4 * t + 3)))) g 0 (nI (n + phL (pk3 (xs (4 * t + 2)) (xs (4 * t + 3))))) (nI c) so nu ty hh pa ch9 zk zl zh zp zq (nI k) ++ (w0 h a b0 cB cJ (apR (apR (apR f n (nI b9).toInt64 1) (n + 1) (nO 3 (xs (4 * t + 2)) (xs (4 * t + 3))) (wd b9)) (n + 1 + wd b9) (xs (4 * t + 3)).toInt64 (tW b9)) g (nI (n + hd b9)) (nI c) zg (nI k) ++ wo o cO (vp_updL go 0 ((nI (hd b9)).toInt64)))) H := hP
  have hD : va_D (fun q : Nat => s.heap.size ≤ q) (w1 h1 a1 b1 cI cK (phF fb n (pk3 (xs (4 * t + 2)) (xs (4 * t + 3)))) g 0 (nI (n + phL (pk3 (xs (4 * t + 2)) (xs (4 * t + 3))))) (nI c) so nu ty hh pa ch9 zk zl zh zp zq (nI k) ++ (w0 h a b0 cB cJ (apR (apR (apR f n (nI b9).toInt64 1) (n + 1) (nO 3 (xs (4 * t + 2)) (xs (4 * t + 3))) (wd b9)) (n + 1 + wd b9) (xs (4 * t + 3)).toInt64 (tW b9)) g (nI (n + hd b9)) (nI c) zg (nI k) ++ wo o cO (vp_updL go 0 ((nI (hd b9)).toInt64)))) := hD
  obtain rfl : r_10 = nI (phL (pk3 (xs (4 * t + 2)) (xs (4 * t + 3)))) := hw_11
  rw [z1] at hP hD
  have hP : va_P (dC, dI) vwCl (w1 h1 a1 b1 cI cK (phF fb n (pk3 (xs (4 * t + 2)) (xs (4 * t + 3)))) g 0 (nI (n + hd b9)) (nI c) so nu ty hh pa ch9 zk zl zh zp zq (nI k) ++ (w0 h a b0 cB cJ (apR (apR (apR f n (nI b9).toInt64 1) (n + 1) (nO 3 (xs (4 * t + 2)) (xs (4 * t + 3))) (wd b9)) (n + 1 + wd b9) (xs (4 * t + 3)).toInt64 (tW b9)) g (nI (n + hd b9)) (nI c) zg (nI k) ++ wo o cO (vp_updL go 0 ((nI (hd b9)).toInt64)))) H := hP
  have hD : va_D (fun q : Nat => s.heap.size ≤ q) (w1 h1 a1 b1 cI cK (phF fb n (pk3 (xs (4 * t + 2)) (xs (4 * t + 3)))) g 0 (nI (n + hd b9)) (nI c) so nu ty hh pa ch9 zk zl zh zp zq (nI k) ++ (w0 h a b0 cB cJ (apR (apR (apR f n (nI b9).toInt64 1) (n + 1) (nO 3 (xs (4 * t + 2)) (xs (4 * t + 3))) (wd b9)) (n + 1 + wd b9) (xs (4 * t + 3)).toInt64 (tW b9)) g (nI (n + hd b9)) (nI c) zg (nI k) ++ wo o cO (vp_updL go 0 ((nI (hd b9)).toInt64)))) := hD
  refine lv_istore (lv' := [(6, .int (nI (phL (pk3 (xs (4 * t + 2)) (xs (4 * t + 3)))))), (5, .int 0), (0, .ref b), (1, .ref h), (2, .ref h1), (3, .ref o), (4, .int (nI (4 * t)))]) hx hb dL_law_611 hl (by decide) rfl (fun ls hl => ?_)
  refine lv_aload_n hx hb dL_law_613 rfl (lv_at hl 4 rfl) ?_
  refine gji (wc := w1 h1 a1 b1 cI cK (phF fb n (pk3 (xs (4 * t + 2)) (xs (4 * t + 3)))) g 0 (nI (n + hd b9)) (nI c) so nu ty hh pa ch9 zk zl zh zp zq (nI k)) (wr := w0 h a b0 cB cJ (apR (apR (apR f n (nI b9).toInt64 1) (n + 1) (nO 3 (xs (4 * t + 2)) (xs (4 * t + 3))) (wd b9)) (n + 1 + wd b9) (xs (4 * t + 3)).toInt64 (tW b9)) g (nI (n + hd b9)) (nI c) zg (nI k) ++ wo o cO (vp_updL go 0 ((nI (hd b9)).toInt64))) (As := []) (rest := []) ⟨hx, hb, hml, hown, hts⟩ (c_X1_thrown l dC dI tk tw h1 a1 b1 cI cK _ (phF fb n (pk3 (xs (4 * t + 2)) (xs (4 * t + 3)))) g 0 (nI (n + hd b9)) (nI c) so nu ty hh pa ch9 zk zl zh zp zq (nI k) ) (cwV 0 hts gL_law_X1_thrown rfl rfl rfl (by decide +kernel) ⟨Nat.le_of_ble_eq_true rfl, Nat.le_of_ble_eq_true rfl⟩) hKm hP hD hS hA hZ (q0 := 0) (ci := 1) rfl rfl rfl rfl hl.1 rfl (Nat.le_of_ble_eq_true rfl) dL_law_614 ⟨by show _ ≤ 1042; omega, by show _ ≤ 16674; omega⟩ (fun r_13 u_15 H locs hw_14 hP hD hS => ?_)
  have hP : va_P (dC, dI) vwCl (w1 h1 a1 b1 cI cK (phF fb n (pk3 (xs (4 * t + 2)) (xs (4 * t + 3)))) g 0 (nI (n + hd b9)) (nI c) so nu ty hh pa ch9 zk zl zh zp zq (nI k) ++ (w0 h a b0 cB cJ (apR (apR (apR f n (nI b9).toInt64 1) (n + 1) (nO 3 (xs (4 * t + 2)) (xs (4 * t + 3))) (wd b9)) (n + 1 + wd b9) (xs (4 * t + 3)).toInt64 (tW b9)) g (nI (n + hd b9)) (nI c) zg (nI k) ++ wo o cO (vp_updL go 0 ((nI (hd b9)).toInt64)))) H := hP
  have hD : va_D (fun q : Nat => s.heap.size ≤ q) (w1 h1 a1 b1 cI cK (phF fb n (pk3 (xs (4 * t + 2)) (xs (4 * t + 3)))) g 0 (nI (n + hd b9)) (nI c) so nu ty hh pa ch9 zk zl zh zp zq (nI k) ++ (w0 h a b0 cB cJ (apR (apR (apR f n (nI b9).toInt64 1) (n + 1) (nO 3 (xs (4 * t + 2)) (xs (4 * t + 3))) (wd b9)) (n + 1 + wd b9) (xs (4 * t + 3)).toInt64 (tW b9)) g (nI (n + hd b9)) (nI c) zg (nI k) ++ wo o cO (vp_updL go 0 ((nI (hd b9)).toInt64)))) := hD
  obtain rfl : r_13 = 0 := hw_14
  refine lv_iload hx hb dL_law_617 (lv_at hl 1 rfl) ?_
  refine lv_icmp_eq (tgt := 624) hx hb dL_law_619 (by decide) (fun c_16 => ?_) (fun c_16 => ?_)
  · skip
    refine lv_iload hx hb dL_law_624 (lv_at hl 1 rfl) ?_
    refine lv_if_ne (tgt := 641) hx hb dL_law_626 (by decide) (fun c_17 => ?_) (fun c_17 => ?_)
    · skip
      exact absurd (by decide) c_17
    · skip
      refine lv_aload_n hx hb dL_law_629 rfl (lv_at hl 5 rfl) ?_
      refine lv_iconst (v := 0) hx hb dL_law_630 (by decide) ?_
      refine va_lald hx hb hK hP 6 4 rfl rfl vp01 dL_law_631 ?_
      have e_18 : (vp_updL go 0 ((nI (hd b9)).toInt64) (0 : Int32).toNatClampNeg : Int64) = ((nI (hd b9)).toInt64) := pk_uLs
      rw [e_18]
      refine lv_iload hx hb dL_law_632 (lv_at hl 0 rfl) ?_
      refine lv_i2l hx hb dL_law_634 rfl ?_
      refine W.lcmp hx hb dL_law_635 ?_
      refine lv_if_eq (tgt := 641) hx hb dL_law_636 (by decide) (fun c_19 => ?_) (fun c_19 => ?_)
      · skip
        have c_19 := (lg_cmp_eq ((nI (hd b9)).toInt64) ((nI (phL (pk3 (xs (4 * t + 2)) (xs (4 * t + 3))))).toInt64)).mp c_19
        refine lv_goto (tgt := 644) hx hb dL_law_641 (by decide) ?_
        have hP : va_P (dC, dI) vwCl (w0 h a b0 cB cJ (apR (apR (apR f n (nI b9).toInt64 1) (n + 1) (nO 3 (xs (4 * t + 2)) (xs (4 * t + 3))) (wd b9)) (n + 1 + wd b9) (xs (4 * t + 3)).toInt64 (tW b9)) g (nI (n + hd b9)) (nI c) zg (nI k) ++ (w1 h1 a1 b1 cI cK (phF fb n (pk3 (xs (4 * t + 2)) (xs (4 * t + 3)))) g 0 (nI (n + hd b9)) (nI c) so nu ty hh pa ch9 zk zl zh zp zq (nI k) ++ wo o cO (vp_updL go 0 ((nI (hd b9)).toInt64)))) H := hP.sub [3, 4, 5, 0, 1, 2, 6] rfl
        have hD : va_D (fun q : Nat => s.heap.size ≤ q) (w0 h a b0 cB cJ (apR (apR (apR f n (nI b9).toInt64 1) (n + 1) (nO 3 (xs (4 * t + 2)) (xs (4 * t + 3))) (wd b9)) (n + 1 + wd b9) (xs (4 * t + 3)).toInt64 (tW b9)) g (nI (n + hd b9)) (nI c) zg (nI k) ++ (w1 h1 a1 b1 cI cK (phF fb n (pk3 (xs (4 * t + 2)) (xs (4 * t + 3)))) g 0 (nI (n + hd b9)) (nI c) so nu ty hh pa ch9 zk zl zh zp zq (nI k) ++ wo o cO (vp_updL go 0 ((nI (hd b9)).toInt64)))) := hD.sub [3, 4, 5, 0, 1, 2, 6] (by decide) rfl
        refine W.widen (k := 7 + t + 1) (n := 8416 + 6 * (t + 1)) (by omega) (by omega) ?_
        exact K _ _ _ ⟨n + hd b9, c, k, apR (apR (apR f n (nI b9).toInt64 1) (n + 1) (nO 3 (xs (4 * t + 2)) (xs (4 * t + 3))) (wd b9)) (n + 1 + wd b9) (xs (4 * t + 3)).toInt64 (tW b9), phF fb n (pk3 (xs (4 * t + 2)) (xs (4 * t + 3))), g, zg, 0, so, nu, ty, hh, pa, ch9, zk, zl, zh, zp, zq, vp_updL go 0 ((nI (hd b9)).toInt64), hr9, (by omega), hk, z2, (GV_mono hG (fun j hj => by rw [apR_lo _ _ _ _ (by omega), apR_lo _ _ _ _ (by omega), apR_lo _ _ _ _ (by omega)]) (Nat.le_refl _)), hP, hD, hS, lv_sub hl [2, 3, 4, 5, 6] rfl⟩
      · skip
        have c_19 := (not_congr (lg_cmp_eq ((nI (hd b9)).toInt64) ((nI (phL (pk3 (xs (4 * t + 2)) (xs (4 * t + 3))))).toInt64))).mp c_19
        exact absurd (by rw [z1]) c_19
  · skip
    exact absurd rfl c_16
set_option maxHeartbeats 4000000 in
set_option maxRecDepth 100000 in
theorem op_pack_f3 {p : Program} {e : Env} {s : State} {m : MethodId} {below : List Frame} {meth : Method} {cd : Code} {l : Launch} {b L : Nat} {xs : Nat → Int32} {dC : Nat → ClassId} {dI : Nat → Nat → Nat} {tk tw : Nat} {sa : Nat → Nat} {cB cJ cI cK cO : ClassId} {h a b0 h1 a1 b1 o t : Nat} {H : Heap} {locs : List Loc} {ls : Array Slot} (CX : LC l p s m meth cd b L xs dC dI tk tw sa cB cJ cI cK cO) (ht4 : 4 * t + 4 ≤ L) (K : ∀ (H : Heap) (locs : List Loc) (ls : Array Slot), LI s b dC dI h a b0 cB cJ h1 a1 b1 cI cK o cO t H locs ls → W p l e room_1 s m #[Value.ref b] below meth cd H locs (7 + t + 1) (8416 + 6 * (t + 1)) (lw_Z below #[Value.ref b] s) (F0 m 644 ls [])) (n : Nat) (c : Nat) (k : Nat) (f : Nat → Int32) (fb : Nat → Int32) (g : Nat → Int64) (zg : Int32) (zt : Int32) (so : Int32) (nu : Int64) (ty : Int32) (hh : Int32) (pa : Int64) (ch9 : Int64) (zk : Int32) (zl : Int32) (zh : Int32) (zp : Int32) (zq : Int32) (go : Nat → Int64) (hn : n ≤ 4096) (hc : c ≤ n) (hk : k ≤ 100) (hRB : RB n f fb) (hG : GV f c zg zk zl zh zp zq) (hP : va_P (dC, dI) vwCl (w0 h a b0 cB cJ f g (nI n) (nI c) zg (nI k) ++ (w1 h1 a1 b1 cI cK fb g zt (nI n) (nI c) so nu ty hh pa ch9 zk zl zh zp zq (nI k) ++ wo o cO go)) H) (hD : va_D (fun q : Nat => s.heap.size ≤ q) (w0 h a b0 cB cJ f g (nI n) (nI c) zg (nI k) ++ (w1 h1 a1 b1 cI cK fb g zt (nI n) (nI c) so nu ty hh pa ch9 zk zl zh zp zq (nI k) ++ wo o cO go))) (hS : va_S (fun q : Nat => s.heap.size ≤ q) s.heap H locs) (hl : lv_has ls 8 [(0, .ref b), (1, .ref h), (2, .ref h1), (3, .ref o), (4, .int (nI (4 * t)))]) (e1 : xs (4 * t + 1) = 3) (hr8 : 4096 < n + phL (pk3 (xs (4 * t + 2)) (xs (4 * t + 3)))) : W p l e room_1 s m #[Value.ref b] below meth cd H locs (7 + t) (8416 + 6 * t) (lw_Z below #[Value.ref b] s) (F0 m 564 ls []) := by
  obtain ⟨⟨hx, hb, hr, hml, hown, hts, hXs, hbl, hlocks⟩, hst, hL, hK, hZ, hX⟩ := CX
  have hA : ∀ q : Nat, s.heap.size ≤ q → (fun q : Nat => s.heap.size ≤ q) q := fun _ h => h
  have hbA : ¬ (fun q : Nat => s.heap.size ≤ q) b := Nat.not_le.mpr hbl
  have hKx := hK.sub (tys' := t0 cB cJ) [0, 1] rfl
  have hKm := hK.sub (tys' := t1 cI cK) [2, 3] rfl
  have hKh := hK.sub (tys' := th cB cJ cO) [0, 1, 4] rfl
  obtain ⟨b9, hb9, hs9, t1, t2, t3, t4⟩ := pkE_3 (xs (4 * t + 2)) (xs (4 * t + 3))
  obtain ⟨z1, z2⟩ := RB_pack (k := 3) (lo := (xs (4 * t + 2))) (hi := (xs (4 * t + 3))) (T := (pk3 (xs (4 * t + 2)) (xs (4 * t + 3)))) hb9 hRB t1 t2 t3 t4
  have hr9 : 4096 < n + hd b9 := by rw [← z1]; exact hr8
  refine lv_aload_n hx hb dL_law_564 rfl (lv_at hl 1 rfl) ?_
  refine lv_aload_n hx hb dL_law_565 rfl (lv_at hl 0 rfl) ?_
  refine lv_iload hx hb dL_law_566 (lv_at hl 4 rfl) ?_
  refine lv_iconst (v := 1) hx hb dL_law_568 (by decide) ?_
  refine lv_iadd hx hb dL_law_569 ?_
  have e_1 : (nI (4 * t) + (1 : Int32)) = nI (4 * t + 1) := nI_add (4 * t) 1
  rw [e_1]
  refine va_sld hx hb hXs hbl hbA hS (vp_in_nI (by omega) (by omega)) dL_law_570 ?_
  rw [nI_clamp (by omega)]
  rw [e1]
  refine lv_aload_n hx hb dL_law_571 rfl (lv_at hl 0 rfl) ?_
  refine lv_iload hx hb dL_law_572 (lv_at hl 4 rfl) ?_
  refine lv_iconst (v := 2) hx hb dL_law_574 (by decide) ?_
  refine lv_iadd hx hb dL_law_575 ?_
  have e_2 : (nI (4 * t) + (2 : Int32)) = nI (4 * t + 2) := nI_add (4 * t) 2
  rw [e_2]
  refine va_sld hx hb hXs hbl hbA hS (vp_in_nI (by omega) (by omega)) dL_law_576 ?_
  rw [nI_clamp (by omega)]
  refine lv_aload_n hx hb dL_law_577 rfl (lv_at hl 0 rfl) ?_
  refine lv_iload hx hb dL_law_578 (lv_at hl 4 rfl) ?_
  refine lv_iconst (v := 3) hx hb dL_law_580 (by decide) ?_
  refine lv_iadd hx hb dL_law_581 ?_
  have e_3 : (nI (4 * t) + (3 : Int32)) = nI (4 * t + 3) := nI_add (4 * t) 3
  rw [e_3]
  refine va_sld hx hb hXs hbl hbA hS (vp_in_nI (by omega) (by omega)) dL_law_582 ?_
  rw [nI_clamp (by omega)]
  refine lv_aload_n hx hb dL_law_583 rfl (lv_at hl 3 rfl) ?_
  have hP : va_P (dC, dI) vwCl ((w0 h a b0 cB cJ f g (nI n) (nI c) zg (nI k) ++ wo o cO go) ++ w1 h1 a1 b1 cI cK fb g zt (nI n) (nI c) so nu ty hh pa ch9 zk zl zh zp zq (nI k)) H := hP.sub [0, 1, 2, 6, 3, 4, 5] rfl
  have hD : va_D (fun q : Nat => s.heap.size ≤ q) ((w0 h a b0 cB cJ f g (nI n) (nI c) zg (nI k) ++ wo o cO go) ++ w1 h1 a1 b1 cI cK fb g zt (nI n) (nI c) so nu ty hh pa ch9 zk zl zh zp zq (nI k)) := hD.sub [0, 1, 2, 6, 3, 4, 5] (by decide) rfl
  refine ghi (wc := w0 h a b0 cB cJ f g (nI n) (nI c) zg (nI k) ++ wo o cO go) (wr := w1 h1 a1 b1 cI cK fb g zt (nI n) (nI c) so nu ty hh pa ch9 zk zl zh zp zq (nI k)) (As := [.ref h, .int 3, .int (xs (4 * t + 2)), .int (xs (4 * t + 3)), .ref o]) (rest := []) ⟨hx, hb, hml, hown, hts⟩ (c_L_pack_f l hst sa dC dI tk tw h a b0 cB cJ o cO go _ f g (nI c) zg (nI k) n hn 3 (xs (4 * t + 2)) (xs (4 * t + 3)) (by decide) (by decide) (fun z => absurd (by decide) z) (fun z => absurd z (by decide)) b9 hb9 hs9 hr9) (vx_cwSW 5 hts gL_law_L_pack rfl rfl rfl (by decide +kernel) ⟨Nat.le_of_ble_eq_true rfl, Nat.le_of_ble_eq_true rfl⟩) hKh hP hD hS hA hZ hX rfl hl.1 rfl (Nat.le_of_ble_eq_true rfl) dL_law_584 ⟨by show _ ≤ 1042; omega, by show _ ≤ 16674; omega⟩ (fun r_4 u_6 H locs hw_5 hP hD hS => ?_)
  have hP : va_P (dC, dI) vwCl ((w0 h a b0 cB cJ f g (nI n) (nI c) zg (nI k) ++ wo o cO go) ++ w1 h1 a1 b1 cI cK fb g zt (nI n) (nI c) so nu ty hh pa ch9 zk zl zh zp zq (nI k)) H := hP
  have hD : va_D (fun q : Nat => s.heap.size ≤ q) ((w0 h a b0 cB cJ f g (nI n) (nI c) zg (nI k) ++ wo o cO go) ++ w1 h1 a1 b1 cI cK fb g zt (nI n) (nI c) so nu ty hh pa ch9 zk zl zh zp zq (nI k)) := hD
  obtain rfl : r_4 = 2 := hw_5
  refine lv_istore (lv' := [(5, .int 2), (0, .ref b), (1, .ref h), (2, .ref h1), (3, .ref o), (4, .int (nI (4 * t)))]) hx hb dL_law_587 hl (by decide) rfl (fun ls hl => ?_)
  refine lv_aload_n hx hb dL_law_589 rfl (lv_at hl 3 rfl) ?_
  refine lv_aload_n hx hb dL_law_590 rfl (lv_at hl 1 rfl) ?_
  refine lv_iload hx hb dL_law_591 (lv_at hl 5 rfl) ?_
  refine lv_iconst (v := 1) hx hb dL_law_593 (by decide) ?_
  refine lv_iadd hx hb dL_law_594 ?_
  have e_7 : (nI (4 * t) + (1 : Int32)) = nI (4 * t + 1) := nI_add (4 * t) 1
  rw [e_7]
  refine va_sld hx hb hXs hbl hbA hS (vp_in_nI (by omega) (by omega)) dL_law_595 ?_
  rw [nI_clamp (by omega)]
  rw [e1]
  refine lv_aload_n hx hb dL_law_596 rfl (lv_at hl 1 rfl) ?_
  refine lv_iload hx hb dL_law_597 (lv_at hl 5 rfl) ?_
  refine lv_iconst (v := 2) hx hb dL_law_599 (by decide) ?_
  refine lv_iadd hx hb dL_law_600 ?_
  have e_8 : (nI (4 * t) + (2 : Int32)) = nI (4 * t + 2) := nI_add (4 * t) 2
  rw [e_8]
  refine va_sld hx hb hXs hbl hbA hS (vp_in_nI (by omega) (by omega)) dL_law_601 ?_
  rw [nI_clamp (by omega)]
  refine lv_aload_n hx hb dL_law_602 rfl (lv_at hl 1 rfl) ?_
  refine lv_iload hx hb dL_law_603 (lv_at hl 5 rfl) ?_
  refine lv_iconst (v := 3) hx hb dL_law_605 (by decide) ?_
  refine lv_iadd hx hb dL_law_606 ?_
  have e_9 : (nI (4 * t) + (3 : Int32)) = nI (4 * t + 3) := nI_add (4 * t) 3
  rw [e_9]
  refine va_sld hx hb hXs hbl hbA hS (vp_in_nI (by omega) (by omega)) dL_law_607 ?_
  rw [nI_clamp (by omega)]
  have hP : va_P (dC, dI) vwCl (w1 h1 a1 b1 cI cK fb g zt (nI n) (nI c) so nu ty hh pa ch9 zk zl zh zp zq (nI k) ++ (w0 h a b0 cB cJ f g (nI n) (nI c) zg (nI k) ++ wo o cO go)) H := hP.sub [4, 5, 6, 0, 1, 2, 3] rfl
  have hD : va_D (fun q : Nat => s.heap.size ≤ q) (w1 h1 a1 b1 cI cK fb g zt (nI n) (nI c) so nu ty hh pa ch9 zk zl zh zp zq (nI k) ++ (w0 h a b0 cB cJ f g (nI n) (nI c) zg (nI k) ++ wo o cO go)) := hD.sub [4, 5, 6, 0, 1, 2, 3] (by decide) rfl
  refine gji (wc := w1 h1 a1 b1 cI cK fb g zt (nI n) (nI c) so nu ty hh pa ch9 zk zl zh zp zq (nI k)) (wr := w0 h a b0 cB cJ f g (nI n) (nI c) zg (nI k) ++ wo o cO go) (As := [.int 3, .int (xs (4 * t + 2)), .int (xs (4 * t + 3))]) (rest := []) ⟨hx, hb, hml, hown, hts⟩ (c_X1_pack_3f l dC dI tk tw h1 a1 b1 cI cK _ fb g zt (nI c) so nu ty hh pa ch9 zk zl zh zp zq (nI k) n hn (xs (4 * t + 2)) (xs (4 * t + 3)) hr8) (cwV 3 hts gL_law_X1_pack rfl rfl rfl (by decide +kernel) ⟨Nat.le_of_ble_eq_true rfl, Nat.le_of_ble_eq_true rfl⟩) hKm hP hD hS hA hZ (q0 := 0) (ci := 1) rfl rfl rfl rfl hl.1 rfl (Nat.le_of_ble_eq_true rfl) dL_law_608 ⟨by show _ ≤ 1042; omega, by show _ ≤ 16674; omega⟩ (fun r_10 u_12 H locs hw_11 hP hD hS => ?_)
  have hP : va_P (dC, dI) vwCl (w1 h1 a1 b1 cI cK fb g 2 (nI n) (nI c) so nu ty hh pa ch9 zk zl zh zp zq (nI k) ++ (w0 h a b0 cB cJ f g (nI n) (nI c) zg (nI k) ++ wo o cO go)) H := hP
  have hD : va_D (fun q : Nat => s.heap.size ≤ q) (w1 h1 a1 b1 cI cK fb g 2 (nI n) (nI c) so nu ty hh pa ch9 zk zl zh zp zq (nI k) ++ (w0 h a b0 cB cJ f g (nI n) (nI c) zg (nI k) ++ wo o cO go)) := hD
  refine lv_istore (lv' := [(6, .int r_10), (5, .int 2), (0, .ref b), (1, .ref h), (2, .ref h1), (3, .ref o), (4, .int (nI (4 * t)))]) hx hb dL_law_611 hl (by decide) rfl (fun ls hl => ?_)
  refine lv_aload_n hx hb dL_law_613 rfl (lv_at hl 4 rfl) ?_
  refine gji (wc := w1 h1 a1 b1 cI cK fb g 2 (nI n) (nI c) so nu ty hh pa ch9 zk zl zh zp zq (nI k)) (wr := w0 h a b0 cB cJ f g (nI n) (nI c) zg (nI k) ++ wo o cO go) (As := []) (rest := []) ⟨hx, hb, hml, hown, hts⟩ (c_X1_thrown l dC dI tk tw h1 a1 b1 cI cK _ fb g 2 (nI n) (nI c) so nu ty hh pa ch9 zk zl zh zp zq (nI k) ) (cwV 0 hts gL_law_X1_thrown rfl rfl rfl (by decide +kernel) ⟨Nat.le_of_ble_eq_true rfl, Nat.le_of_ble_eq_true rfl⟩) hKm hP hD hS hA hZ (q0 := 0) (ci := 1) rfl rfl rfl rfl hl.1 rfl (Nat.le_of_ble_eq_true rfl) dL_law_614 ⟨by show _ ≤ 1042; omega, by show _ ≤ 16674; omega⟩ (fun r_13 u_15 H locs hw_14 hP hD hS => ?_)
  have hP : va_P (dC, dI) vwCl (w1 h1 a1 b1 cI cK fb g 2 (nI n) (nI c) so nu ty hh pa ch9 zk zl zh zp zq (nI k) ++ (w0 h a b0 cB cJ f g (nI n) (nI c) zg (nI k) ++ wo o cO go)) H := hP
  have hD : va_D (fun q : Nat => s.heap.size ≤ q) (w1 h1 a1 b1 cI cK fb g 2 (nI n) (nI c) so nu ty hh pa ch9 zk zl zh zp zq (nI k) ++ (w0 h a b0 cB cJ f g (nI n) (nI c) zg (nI k) ++ wo o cO go)) := hD
  obtain rfl : r_13 = 2 := hw_14
  refine lv_iload hx hb dL_law_617 (lv_at hl 1 rfl) ?_
  refine lv_icmp_eq (tgt := 624) hx hb dL_law_619 (by decide) (fun c_16 => ?_) (fun c_16 => ?_)
  · skip
    refine lv_iload hx hb dL_law_624 (lv_at hl 1 rfl) ?_
    refine lv_if_ne (tgt := 641) hx hb dL_law_626 (by decide) (fun c_17 => ?_) (fun c_17 => ?_)
    · skip
      refine lv_goto (tgt := 644) hx hb dL_law_641 (by decide) ?_
      have hP : va_P (dC, dI) vwCl (w0 h a b0 cB cJ f g (nI n) (nI c) zg (nI k) ++ (w1 h1 a1 b1 cI cK fb g 2 (nI n) (nI c) so nu ty hh pa ch9 zk zl zh zp zq (nI k) ++ wo o cO go)) H := hP.sub [3, 4, 5, 0, 1, 2, 6] rfl
      have hD : va_D (fun q : Nat => s.heap.size ≤ q) (w0 h a b0 cB cJ f g (nI n) (nI c) zg (nI k) ++ (w1 h1 a1 b1 cI cK fb g 2 (nI n) (nI c) so nu ty hh pa ch9 zk zl zh zp zq (nI k) ++ wo o cO go)) := hD.sub [3, 4, 5, 0, 1, 2, 6] (by decide) rfl
      refine W.widen (k := 7 + t + 1) (n := 8416 + 6 * (t + 1)) (by omega) (by omega) ?_
      exact K _ _ _ ⟨n, c, k, f, fb, g, zg, 2, so, nu, ty, hh, pa, ch9, zk, zl, zh, zp, zq, go, hn, hc, hk, hRB, hG, hP, hD, hS, lv_sub hl [2, 3, 4, 5, 6] rfl⟩
    · skip
      exact absurd c_17 (by decide)
  · skip
    exact absurd rfl c_16
set_option maxHeartbeats 4000000 in
set_option maxRecDepth 100000 in
theorem op_pack_g4 {p : Program} {e : Env} {s : State} {m : MethodId} {below : List Frame} {meth : Method} {cd : Code} {l : Launch} {b L : Nat} {xs : Nat → Int32} {dC : Nat → ClassId} {dI : Nat → Nat → Nat} {tk tw : Nat} {sa : Nat → Nat} {cB cJ cI cK cO : ClassId} {h a b0 h1 a1 b1 o t : Nat} {H : Heap} {locs : List Loc} {ls : Array Slot} (CX : LC l p s m meth cd b L xs dC dI tk tw sa cB cJ cI cK cO) (ht4 : 4 * t + 4 ≤ L) (K : ∀ (H : Heap) (locs : List Loc) (ls : Array Slot), LI s b dC dI h a b0 cB cJ h1 a1 b1 cI cK o cO t H locs ls → W p l e room_1 s m #[Value.ref b] below meth cd H locs (7 + t + 1) (8416 + 6 * (t + 1)) (lw_Z below #[Value.ref b] s) (F0 m 644 ls [])) (n : Nat) (c : Nat) (k : Nat) (f : Nat → Int32) (fb : Nat → Int32) (g : Nat → Int64) (zg : Int32) (zt : Int32) (so : Int32) (nu : Int64) (ty : Int32) (hh : Int32) (pa : Int64) (ch9 : Int64) (zk : Int32) (zl : Int32) (zh : Int32) (zp : Int32) (zq : Int32) (go : Nat → Int64) (hn : n ≤ 4096) (hc : c ≤ n) (hk : k ≤ 100) (hRB : RB n f fb) (hG : GV f c zg zk zl zh zp zq) (hP : va_P (dC, dI) vwCl (w0 h a b0 cB cJ f g (nI n) (nI c) zg (nI k) ++ (w1 h1 a1 b1 cI cK fb g zt (nI n) (nI c) so nu ty hh pa ch9 zk zl zh zp zq (nI k) ++ wo o cO go)) H) (hD : va_D (fun q : Nat => s.heap.size ≤ q) (w0 h a b0 cB cJ f g (nI n) (nI c) zg (nI k) ++ (w1 h1 a1 b1 cI cK fb g zt (nI n) (nI c) so nu ty hh pa ch9 zk zl zh zp zq (nI k) ++ wo o cO go))) (hS : va_S (fun q : Nat => s.heap.size ≤ q) s.heap H locs) (hl : lv_has ls 8 [(0, .ref b), (1, .ref h), (2, .ref h1), (3, .ref o), (4, .int (nI (4 * t)))]) (e1 : xs (4 * t + 1) = 4) (hr8 : n + phL (pk4 (xs (4 * t + 2)) (xs (4 * t + 3))) ≤ 4096) : W p l e room_1 s m #[Value.ref b] below meth cd H locs (7 + t) (8416 + 6 * t) (lw_Z below #[Value.ref b] s) (F0 m 564 ls []) := by
  obtain ⟨⟨hx, hb, hr, hml, hown, hts, hXs, hbl, hlocks⟩, hst, hL, hK, hZ, hX⟩ := CX
  have hA : ∀ q : Nat, s.heap.size ≤ q → (fun q : Nat => s.heap.size ≤ q) q := fun _ h => h
  have hbA : ¬ (fun q : Nat => s.heap.size ≤ q) b := Nat.not_le.mpr hbl
  have hKx := hK.sub (tys' := t0 cB cJ) [0, 1] rfl
  have hKm := hK.sub (tys' := t1 cI cK) [2, 3] rfl
  have hKh := hK.sub (tys' := th cB cJ cO) [0, 1, 4] rfl
  obtain ⟨b9, hb9, hs9, t1, t2, t3, t4⟩ := pkE_4 (xs (4 * t + 2)) (xs (4 * t + 3))
  obtain ⟨z1, z2⟩ := RB_pack (k := 4) (lo := (xs (4 * t + 2))) (hi := (xs (4 * t + 3))) (T := (pk4 (xs (4 * t + 2)) (xs (4 * t + 3)))) hb9 hRB t1 t2 t3 t4
  have hr9 : n + hd b9 ≤ 4096 := by rw [← z1]; exact hr8
  refine lv_aload_n hx hb dL_law_564 rfl (lv_at hl 1 rfl) ?_
  refine lv_aload_n hx hb dL_law_565 rfl (lv_at hl 0 rfl) ?_
  refine lv_iload hx hb dL_law_566 (lv_at hl 4 rfl) ?_
  refine lv_iconst (v := 1) hx hb dL_law_568 (by decide) ?_
  refine lv_iadd hx hb dL_law_569 ?_
  have e_1 : (nI (4 * t) + (1 : Int32)) = nI (4 * t + 1) := nI_add (4 * t) 1
  rw [e_1]
  refine va_sld hx hb hXs hbl hbA hS (vp_in_nI (by omega) (by omega)) dL_law_570 ?_
  rw [nI_clamp (by omega)]
  rw [e1]
  refine lv_aload_n hx hb dL_law_571 rfl (lv_at hl 0 rfl) ?_
  refine lv_iload hx hb dL_law_572 (lv_at hl 4 rfl) ?_
  refine lv_iconst (v := 2) hx hb dL_law_574 (by decide) ?_
  refine lv_iadd hx hb dL_law_575 ?_
  have e_2 : (nI (4 * t) + (2 : Int32)) = nI (4 * t + 2) := nI_add (4 * t) 2
  rw [e_2]
  refine va_sld hx hb hXs hbl hbA hS (vp_in_nI (by omega) (by omega)) dL_law_576 ?_
  rw [nI_clamp (by omega)]
  refine lv_aload_n hx hb dL_law_577 rfl (lv_at hl 0 rfl) ?_
  refine lv_iload hx hb dL_law_578 (lv_at hl 4 rfl) ?_
  refine lv_iconst (v := 3) hx hb dL_law_580 (by decide) ?_
  refine lv_iadd hx hb dL_law_581 ?_
  have e_3 : (nI (4 * t) + (3 : Int32)) = nI (4 * t + 3) := nI_add (4 * t) 3
  rw [e_3]
  refine va_sld hx hb hXs hbl hbA hS (vp_in_nI (by omega) (by omega)) dL_law_582 ?_
  rw [nI_clamp (by omega)]
  refine lv_aload_n hx hb dL_law_583 rfl (lv_at hl 3 rfl) ?_
  have hP : va_P (dC, dI) vwCl ((w0 h a b0 cB cJ f g (nI n) (nI c) zg (nI k) ++ wo o cO go) ++ w1 h1 a1 b1 cI cK fb g zt (nI n) (nI c) so nu ty hh pa ch9 zk zl zh zp zq (nI k)) H := hP.sub [0, 1, 2, 6, 3, 4, 5] rfl
  have hD : va_D (fun q : Nat => s.heap.size ≤ q) ((w0 h a b0 cB cJ f g (nI n) (nI c) zg (nI k) ++ wo o cO go) ++ w1 h1 a1 b1 cI cK fb g zt (nI n) (nI c) so nu ty hh pa ch9 zk zl zh zp zq (nI k)) := hD.sub [0, 1, 2, 6, 3, 4, 5] (by decide) rfl
  refine ghi (wc := w0 h a b0 cB cJ f g (nI n) (nI c) zg (nI k) ++ wo o cO go) (wr := w1 h1 a1 b1 cI cK fb g zt (nI n) (nI c) so nu ty hh pa ch9 zk zl zh zp zq (nI k)) (As := [.ref h, .int 4, .int (xs (4 * t + 2)), .int (xs (4 * t + 3)), .ref o]) (rest := []) ⟨hx, hb, hml, hown, hts⟩ (c_L_pack l hst sa dC dI tk tw h a b0 cB cJ o cO go _ f g (nI c) zg (nI k) n 4 (xs (4 * t + 2)) (xs (4 * t + 3)) (by decide) (by decide) (fun z => absurd (by decide) z) (fun z => absurd z (by decide)) b9 hb9 hs9 hr9) (vx_cwSW 5 hts gL_law_L_pack rfl rfl rfl (by decide +kernel) ⟨Nat.le_of_ble_eq_true rfl, Nat.le_of_ble_eq_true rfl⟩) hKh hP hD hS hA hZ hX rfl hl.1 rfl (Nat.le_of_ble_eq_true rfl) dL_law_584 ⟨by show _ ≤ 1042; omega, by show _ ≤ 16674; omega⟩ (fun r_4 u_6 H locs hw_5 hP hD hS => ?_)
  have hP : va_P (dC, dI) vwCl ((w0 h a b0 cB cJ (apR (apR (apR f n (nI b9).toInt64 1) (n + 1) (nO 4 (xs (4 * t + 2)) (xs (4 * t + 3))) (wd b9)) (n + 1 + wd b9) (xs (4 * t + 3)).toInt64 (tW b9)) g (nI (n + hd b9)) (nI c) zg (nI k) ++ wo o cO (vp_updL go 0 ((nI (hd b9)).toInt64))) ++ w1 h1 a1 b1 cI cK fb g zt (nI n) (nI c) so nu ty hh pa ch9 zk zl zh zp zq (nI k)) H := hP
  have hD : va_D (fun q : Nat => s.heap.size ≤ q) ((w0 h a b0 cB cJ (apR (apR (apR f n (nI b9).toInt64 1) (n + 1) (nO 4 (xs (4 * t + 2)) (xs (4 * t + 3))) (wd b9)) (n + 1 + wd b9) (xs (4 * t + 3)).toInt64 (tW b9)) g (nI (n + hd b9)) (nI c) zg (nI k) ++ wo o cO (vp_updL go 0 ((nI (hd b9)).toInt64))) ++ w1 h1 a1 b1 cI cK fb g zt (nI n) (nI c) so nu ty hh pa ch9 zk zl zh zp zq (nI k)) := hD
  obtain rfl : r_4 = 0 := hw_5
  refine lv_istore (lv' := [(5, .int 0), (0, .ref b), (1, .ref h), (2, .ref h1), (3, .ref o), (4, .int (nI (4 * t)))]) hx hb dL_law_587 hl (by decide) rfl (fun ls hl => ?_)
  refine lv_aload_n hx hb dL_law_589 rfl (lv_at hl 3 rfl) ?_
  refine lv_aload_n hx hb dL_law_590 rfl (lv_at hl 1 rfl) ?_
  refine lv_iload hx hb dL_law_591 (lv_at hl 5 rfl) ?_
  refine lv_iconst (v := 1) hx hb dL_law_593 (by decide) ?_
  refine lv_iadd hx hb dL_law_594 ?_
  have e_7 : (nI (4 * t) + (1 : Int32)) = nI (4 * t + 1) := nI_add (4 * t) 1
  rw [e_7]
  refine va_sld hx hb hXs hbl hbA hS (vp_in_nI (by omega) (by omega)) dL_law_595 ?_
  rw [nI_clamp (by omega)]
  rw [e1]
  refine lv_aload_n hx hb dL_law_596 rfl (lv_at hl 1 rfl) ?_
  refine lv_iload hx hb dL_law_597 (lv_at hl 5 rfl) ?_
  refine lv_iconst (v := 2) hx hb dL_law_599 (by decide) ?_
  refine lv_iadd hx hb dL_law_600 ?_
  have e_8 : (nI (4 * t) + (2 : Int32)) = nI (4 * t + 2) := nI_add (4 * t) 2
  rw [e_8]
  refine va_sld hx hb hXs hbl hbA hS (vp_in_nI (by omega) (by omega)) dL_law_601 ?_
  rw [nI_clamp (by omega)]
  refine lv_aload_n hx hb dL_law_602 rfl (lv_at hl 1 rfl) ?_
  refine lv_iload hx hb dL_law_603 (lv_at hl 5 rfl) ?_
  refine lv_iconst (v := 3) hx hb dL_law_605 (by decide) ?_
  refine lv_iadd hx hb dL_law_606 ?_
  have e_9 : (nI (4 * t) + (3 : Int32)) = nI (4 * t + 3) := nI_add (4 * t) 3
  rw [e_9]
  refine va_sld hx hb hXs hbl hbA hS (vp_in_nI (by omega) (by omega)) dL_law_607 ?_
  rw [nI_clamp (by omega)]
  have hP : va_P (dC, dI) vwCl (w1 h1 a1 b1 cI cK fb g zt (nI n) (nI c) so nu ty hh pa ch9 zk zl zh zp zq (nI k) ++ (w0 h a b0 cB cJ (apR (apR (apR f n (nI b9).toInt64 1) (n + 1) (nO 4 (xs (4 * t + 2)) (xs (4 * t + 3))) (wd b9)) (n + 1 + wd b9) (xs (4 * t + 3)).toInt64 (tW b9)) g (nI (n + hd b9)) (nI c) zg (nI k) ++ wo o cO (vp_updL go 0 ((nI (hd b9)).toInt64)))) H := hP.sub [4, 5, 6, 0, 1, 2, 3] rfl
  have hD : va_D (fun q : Nat => s.heap.size ≤ q) (w1 h1 a1 b1 cI cK fb g zt (nI n) (nI c) so nu ty hh pa ch9 zk zl zh zp zq (nI k) ++ (w0 h a b0 cB cJ (apR (apR (apR f n (nI b9).toInt64 1) (n + 1) (nO 4 (xs (4 * t + 2)) (xs (4 * t + 3))) (wd b9)) (n + 1 + wd b9) (xs (4 * t + 3)).toInt64 (tW b9)) g (nI (n + hd b9)) (nI c) zg (nI k) ++ wo o cO (vp_updL go 0 ((nI (hd b9)).toInt64)))) := hD.sub [4, 5, 6, 0, 1, 2, 3] (by decide) rfl
  refine gji (wc := w1 h1 a1 b1 cI cK fb g zt (nI n) (nI c) so nu ty hh pa ch9 zk zl zh zp zq (nI k)) (wr := w0 h a b0 cB cJ (apR (apR (apR f n (nI b9).toInt64 1) (n + 1) (nO 4 (xs (4 * t + 2)) (xs (4 * t + 3))) (wd b9)) (n + 1 + wd b9) (xs (4 * t + 3)).toInt64 (tW b9)) g (nI (n + hd b9)) (nI c) zg (nI k) ++ wo o cO (vp_updL go 0 ((nI (hd b9)).toInt64))) (As := [.int 4, .int (xs (4 * t + 2)), .int (xs (4 * t + 3))]) (rest := []) ⟨hx, hb, hml, hown, hts⟩ (c_X1_pack_4 l dC dI tk tw h1 a1 b1 cI cK _ fb g zt (nI c) so nu ty hh pa ch9 zk zl zh zp zq (nI k) n (xs (4 * t + 2)) (xs (4 * t + 3)) hr8) (cwV 3 hts gL_law_X1_pack rfl rfl rfl (by decide +kernel) ⟨Nat.le_of_ble_eq_true rfl, Nat.le_of_ble_eq_true rfl⟩) hKm hP hD hS hA hZ (q0 := 0) (ci := 1) rfl rfl rfl rfl hl.1 rfl (Nat.le_of_ble_eq_true rfl) dL_law_608 ⟨by show _ ≤ 1042; omega, by show _ ≤ 16674; omega⟩ (fun r_10 u_12 H locs hw_11 hP hD hS => ?_)
  have hP : va_P (dC, dI) vwCl (w1 h1 a1 b1 cI cK (phF fb n (pk4 (xs (4 * t + 2)) (xs (4 * t + 3)))) g 0 (nI (n + phL (pk4 (xs (4 * t + 2)) (xs (4 * t + 3))))) (nI c) so nu ty hh pa ch9 zk zl zh zp zq (nI k) ++ (w0 h a b0 cB cJ (apR (apR (apR f n (nI b9).toInt64 1) (n + 1) (nO 4 (xs (4 * t + 2)) (xs (4 * t + 3))) (wd b9)) (n + 1 + wd b9) (xs (4 * t + 3)).toInt64 (tW b9)) g (nI (n + hd b9)) (nI c) zg (nI k) ++ wo o cO (vp_updL go 0 ((nI (hd b9)).toInt64)))) H := hP
  have hD : va_D (fun q : Nat => s.heap.size ≤ q) (w1 h1 a1 b1 cI cK (phF fb n (pk4 (xs (4 * t + 2)) (xs (4 * t + 3)))) g 0 (nI (n + phL (pk4 (xs (4 * t + 2)) (xs (4 * t + 3))))) (nI c) so nu ty hh pa ch9 zk zl zh zp zq (nI k) ++ (w0 h a b0 cB cJ (apR (apR (apR f n (nI b9).toInt64 1) (n + 1) (nO 4 (xs (4 * t + 2)) (xs (4 * t + 3))) (wd b9)) (n + 1 + wd b9) (xs (4 * t + 3)).toInt64 (tW b9)) g (nI (n + hd b9)) (nI c) zg (nI k) ++ wo o cO (vp_updL go 0 ((nI (hd b9)).toInt64)))) := hD
  obtain rfl : r_10 = nI (phL (pk4 (xs (4 * t + 2)) (xs (4 * t + 3)))) := hw_11
  rw [z1] at hP hD
  have hP : va_P (dC, dI) vwCl (w1 h1 a1 b1 cI cK (phF fb n (pk4 (xs (4 * t + 2)) (xs (4 * t + 3)))) g 0 (nI (n + hd b9)) (nI c) so nu ty hh pa ch9 zk zl zh zp zq (nI k) ++ (w0 h a b0 cB cJ (apR (apR (apR f n (nI b9).toInt64 1) (n + 1) (nO 4 (xs (4 * t + 2)) (xs (4 * t + 3))) (wd b9)) (n + 1 + wd b9) (xs (4 * t + 3)).toInt64 (tW b9)) g (nI (n + hd b9)) (nI c) zg (nI k) ++ wo o cO (vp_updL go 0 ((nI (hd b9)).toInt64)))) H := hP
  have hD : va_D (fun q : Nat => s.heap.size ≤ q) (w1 h1 a1 b1 cI cK (phF fb n (pk4 (xs (4 * t + 2)) (xs (4 * t + 3)))) g 0 (nI (n + hd b9)) (nI c) so nu ty hh pa ch9 zk zl zh zp zq (nI k) ++ (w0 h a b0 cB cJ (apR (apR (apR f n (nI b9).toInt64 1) (n + 1) (nO 4 (xs (4 * t + 2)) (xs (4 * t + 3))) (wd b9)) (n + 1 + wd b9) (xs (4 * t + 3)).toInt64 (tW b9)) g (nI (n + hd b9)) (nI c) zg (nI k) ++ wo o cO (vp_updL go 0 ((nI (hd b9)).toInt64)))) := hD
  refine lv_istore (lv' := [(6, .int (nI (phL (pk4 (xs (4 * t + 2)) (xs (4 * t + 3)))))), (5, .int 0), (0, .ref b), (1, .ref h), (2, .ref h1), (3, .ref o), (4, .int (nI (4 * t)))]) hx hb dL_law_611 hl (by decide) rfl (fun ls hl => ?_)
  refine lv_aload_n hx hb dL_law_613 rfl (lv_at hl 4 rfl) ?_
  refine gji (wc := w1 h1 a1 b1 cI cK (phF fb n (pk4 (xs (4 * t + 2)) (xs (4 * t + 3)))) g 0 (nI (n + hd b9)) (nI c) so nu ty hh pa ch9 zk zl zh zp zq (nI k)) (wr := w0 h a b0 cB cJ (apR (apR (apR f n (nI b9).toInt64 1) (n + 1) (nO 4 (xs (4 * t + 2)) (xs (4 * t + 3))) (wd b9)) (n + 1 + wd b9) (xs (4 * t + 3)).toInt64 (tW b9)) g (nI (n + hd b9)) (nI c) zg (nI k) ++ wo o cO (vp_updL go 0 ((nI (hd b9)).toInt64))) (As := []) (rest := []) ⟨hx, hb, hml, hown, hts⟩ (c_X1_thrown l dC dI tk tw h1 a1 b1 cI cK _ (phF fb n (pk4 (xs (4 * t + 2)) (xs (4 * t + 3)))) g 0 (nI (n + hd b9)) (nI c) so nu ty hh pa ch9 zk zl zh zp zq (nI k) ) (cwV 0 hts gL_law_X1_thrown rfl rfl rfl (by decide +kernel) ⟨Nat.le_of_ble_eq_true rfl, Nat.le_of_ble_eq_true rfl⟩) hKm hP hD hS hA hZ (q0 := 0) (ci := 1) rfl rfl rfl rfl hl.1 rfl (Nat.le_of_ble_eq_true rfl) dL_law_614 ⟨by show _ ≤ 1042; omega, by show _ ≤ 16674; omega⟩ (fun r_13 u_15 H locs hw_14 hP hD hS => ?_)
  have hP : va_P (dC, dI) vwCl (w1 h1 a1 b1 cI cK (phF fb n (pk4 (xs (4 * t + 2)) (xs (4 * t + 3)))) g 0 (nI (n + hd b9)) (nI c) so nu ty hh pa ch9 zk zl zh zp zq (nI k) ++ (w0 h a b0 cB cJ (apR (apR (apR f n (nI b9).toInt64 1) (n + 1) (nO 4 (xs (4 * t + 2)) (xs (4 * t + 3))) (wd b9)) (n + 1 + wd b9) (xs (4 * t + 3)).toInt64 (tW b9)) g (nI (n + hd b9)) (nI c) zg (nI k) ++ wo o cO (vp_updL go 0 ((nI (hd b9)).toInt64)))) H := hP
  have hD : va_D (fun q : Nat => s.heap.size ≤ q) (w1 h1 a1 b1 cI cK (phF fb n (pk4 (xs (4 * t + 2)) (xs (4 * t + 3)))) g 0 (nI (n + hd b9)) (nI c) so nu ty hh pa ch9 zk zl zh zp zq (nI k) ++ (w0 h a b0 cB cJ (apR (apR (apR f n (nI b9).toInt64 1) (n + 1) (nO 4 (xs (4 * t + 2)) (xs (4 * t + 3))) (wd b9)) (n + 1 + wd b9) (xs (4 * t + 3)).toInt64 (tW b9)) g (nI (n + hd b9)) (nI c) zg (nI k) ++ wo o cO (vp_updL go 0 ((nI (hd b9)).toInt64)))) := hD
  obtain rfl : r_13 = 0 := hw_14
  refine lv_iload hx hb dL_law_617 (lv_at hl 1 rfl) ?_
  refine lv_icmp_eq (tgt := 624) hx hb dL_law_619 (by decide) (fun c_16 => ?_) (fun c_16 => ?_)
  · skip
    refine lv_iload hx hb dL_law_624 (lv_at hl 1 rfl) ?_
    refine lv_if_ne (tgt := 641) hx hb dL_law_626 (by decide) (fun c_17 => ?_) (fun c_17 => ?_)
    · skip
      exact absurd (by decide) c_17
    · skip
      refine lv_aload_n hx hb dL_law_629 rfl (lv_at hl 5 rfl) ?_
      refine lv_iconst (v := 0) hx hb dL_law_630 (by decide) ?_
      refine va_lald hx hb hK hP 6 4 rfl rfl vp01 dL_law_631 ?_
      have e_18 : (vp_updL go 0 ((nI (hd b9)).toInt64) (0 : Int32).toNatClampNeg : Int64) = ((nI (hd b9)).toInt64) := pk_uLs
      rw [e_18]
      refine lv_iload hx hb dL_law_632 (lv_at hl 0 rfl) ?_
      refine lv_i2l hx hb dL_law_634 rfl ?_
      refine W.lcmp hx hb dL_law_635 ?_
      refine lv_if_eq (tgt := 641) hx hb dL_law_636 (by decide) (fun c_19 => ?_) (fun c_19 => ?_)
      · skip
        have c_19 := (lg_cmp_eq ((nI (hd b9)).toInt64) ((nI (phL (pk4 (xs (4 * t + 2)) (xs (4 * t + 3))))).toInt64)).mp c_19
        refine lv_goto (tgt := 644) hx hb dL_law_641 (by decide) ?_
        have hP : va_P (dC, dI) vwCl (w0 h a b0 cB cJ (apR (apR (apR f n (nI b9).toInt64 1) (n + 1) (nO 4 (xs (4 * t + 2)) (xs (4 * t + 3))) (wd b9)) (n + 1 + wd b9) (xs (4 * t + 3)).toInt64 (tW b9)) g (nI (n + hd b9)) (nI c) zg (nI k) ++ (w1 h1 a1 b1 cI cK (phF fb n (pk4 (xs (4 * t + 2)) (xs (4 * t + 3)))) g 0 (nI (n + hd b9)) (nI c) so nu ty hh pa ch9 zk zl zh zp zq (nI k) ++ wo o cO (vp_updL go 0 ((nI (hd b9)).toInt64)))) H := hP.sub [3, 4, 5, 0, 1, 2, 6] rfl
        have hD : va_D (fun q : Nat => s.heap.size ≤ q) (w0 h a b0 cB cJ (apR (apR (apR f n (nI b9).toInt64 1) (n + 1) (nO 4 (xs (4 * t + 2)) (xs (4 * t + 3))) (wd b9)) (n + 1 + wd b9) (xs (4 * t + 3)).toInt64 (tW b9)) g (nI (n + hd b9)) (nI c) zg (nI k) ++ (w1 h1 a1 b1 cI cK (phF fb n (pk4 (xs (4 * t + 2)) (xs (4 * t + 3)))) g 0 (nI (n + hd b9)) (nI c) so nu ty hh pa ch9 zk zl zh zp zq (nI k) ++ wo o cO (vp_updL go 0 ((nI (hd b9)).toInt64)))) := hD.sub [3, 4, 5, 0, 1, 2, 6] (by decide) rfl
        refine W.widen (k := 7 + t + 1) (n := 8416 + 6 * (t + 1)) (by omega) (by omega) ?_
        exact K _ _ _ ⟨n + hd b9, c, k, apR (apR (apR f n (nI b9).toInt64 1) (n + 1) (nO 4 (xs (4 * t + 2)) (xs (4 * t + 3))) (wd b9)) (n + 1 + wd b9) (xs (4 * t + 3)).toInt64 (tW b9), phF fb n (pk4 (xs (4 * t + 2)) (xs (4 * t + 3))), g, zg, 0, so, nu, ty, hh, pa, ch9, zk, zl, zh, zp, zq, vp_updL go 0 ((nI (hd b9)).toInt64), hr9, (by omega), hk, z2, (GV_mono hG (fun j hj => by rw [apR_lo _ _ _ _ (by omega), apR_lo _ _ _ _ (by omega), apR_lo _ _ _ _ (by omega)]) (Nat.le_refl _)), hP, hD, hS, lv_sub hl [2, 3, 4, 5, 6] rfl⟩
      · skip
        have c_19 := (not_congr (lg_cmp_eq ((nI (hd b9)).toInt64) ((nI (phL (pk4 (xs (4 * t + 2)) (xs (4 * t + 3))))).toInt64))).mp c_19
        exact absurd (by rw [z1]) c_19
  · skip
    exact absurd rfl c_16
set_option maxHeartbeats 4000000 in
set_option maxRecDepth 100000 in
theorem op_pack_f4 {p : Program} {e : Env} {s : State} {m : MethodId} {below : List Frame} {meth : Method} {cd : Code} {l : Launch} {b L : Nat} {xs : Nat → Int32} {dC : Nat → ClassId} {dI : Nat → Nat → Nat} {tk tw : Nat} {sa : Nat → Nat} {cB cJ cI cK cO : ClassId} {h a b0 h1 a1 b1 o t : Nat} {H : Heap} {locs : List Loc} {ls : Array Slot} (CX : LC l p s m meth cd b L xs dC dI tk tw sa cB cJ cI cK cO) (ht4 : 4 * t + 4 ≤ L) (K : ∀ (H : Heap) (locs : List Loc) (ls : Array Slot), LI s b dC dI h a b0 cB cJ h1 a1 b1 cI cK o cO t H locs ls → W p l e room_1 s m #[Value.ref b] below meth cd H locs (7 + t + 1) (8416 + 6 * (t + 1)) (lw_Z below #[Value.ref b] s) (F0 m 644 ls [])) (n : Nat) (c : Nat) (k : Nat) (f : Nat → Int32) (fb : Nat → Int32) (g : Nat → Int64) (zg : Int32) (zt : Int32) (so : Int32) (nu : Int64) (ty : Int32) (hh : Int32) (pa : Int64) (ch9 : Int64) (zk : Int32) (zl : Int32) (zh : Int32) (zp : Int32) (zq : Int32) (go : Nat → Int64) (hn : n ≤ 4096) (hc : c ≤ n) (hk : k ≤ 100) (hRB : RB n f fb) (hG : GV f c zg zk zl zh zp zq) (hP : va_P (dC, dI) vwCl (w0 h a b0 cB cJ f g (nI n) (nI c) zg (nI k) ++ (w1 h1 a1 b1 cI cK fb g zt (nI n) (nI c) so nu ty hh pa ch9 zk zl zh zp zq (nI k) ++ wo o cO go)) H) (hD : va_D (fun q : Nat => s.heap.size ≤ q) (w0 h a b0 cB cJ f g (nI n) (nI c) zg (nI k) ++ (w1 h1 a1 b1 cI cK fb g zt (nI n) (nI c) so nu ty hh pa ch9 zk zl zh zp zq (nI k) ++ wo o cO go))) (hS : va_S (fun q : Nat => s.heap.size ≤ q) s.heap H locs) (hl : lv_has ls 8 [(0, .ref b), (1, .ref h), (2, .ref h1), (3, .ref o), (4, .int (nI (4 * t)))]) (e1 : xs (4 * t + 1) = 4) (hr8 : 4096 < n + phL (pk4 (xs (4 * t + 2)) (xs (4 * t + 3)))) : W p l e room_1 s m #[Value.ref b] below meth cd H locs (7 + t) (8416 + 6 * t) (lw_Z below #[Value.ref b] s) (F0 m 564 ls []) := by
  obtain ⟨⟨hx, hb, hr, hml, hown, hts, hXs, hbl, hlocks⟩, hst, hL, hK, hZ, hX⟩ := CX
  have hA : ∀ q : Nat, s.heap.size ≤ q → (fun q : Nat => s.heap.size ≤ q) q := fun _ h => h
  have hbA : ¬ (fun q : Nat => s.heap.size ≤ q) b := Nat.not_le.mpr hbl
  have hKx := hK.sub (tys' := t0 cB cJ) [0, 1] rfl
  have hKm := hK.sub (tys' := t1 cI cK) [2, 3] rfl
  have hKh := hK.sub (tys' := th cB cJ cO) [0, 1, 4] rfl
  obtain ⟨b9, hb9, hs9, t1, t2, t3, t4⟩ := pkE_4 (xs (4 * t + 2)) (xs (4 * t + 3))
  obtain ⟨z1, z2⟩ := RB_pack (k := 4) (lo := (xs (4 * t + 2))) (hi := (xs (4 * t + 3))) (T := (pk4 (xs (4 * t + 2)) (xs (4 * t + 3)))) hb9 hRB t1 t2 t3 t4
  have hr9 : 4096 < n + hd b9 := by rw [← z1]; exact hr8
  refine lv_aload_n hx hb dL_law_564 rfl (lv_at hl 1 rfl) ?_
  refine lv_aload_n hx hb dL_law_565 rfl (lv_at hl 0 rfl) ?_
  refine lv_iload hx hb dL_law_566 (lv_at hl 4 rfl) ?_
  refine lv_iconst (v := 1) hx hb dL_law_568 (by decide) ?_
  refine lv_iadd hx hb dL_law_569 ?_
  have e_1 : (nI (4 * t) + (1 : Int32)) = nI (4 * t + 1) := nI_add (4 * t) 1
  rw [e_1]
  refine va_sld hx hb hXs hbl hbA hS (vp_in_nI (by omega) (by omega)) dL_law_570 ?_
  rw [nI_clamp (by omega)]
  rw [e1]
  refine lv_aload_n hx hb dL_law_571 rfl (lv_at hl 0 rfl) ?_
  refine lv_iload hx hb dL_law_572 (lv_at hl 4 rfl) ?_
  refine lv_iconst (v := 2) hx hb dL_law_574 (by decide) ?_
  refine lv_iadd hx hb dL_law_575 ?_
  have e_2 : (nI (4 * t) + (2 : Int32)) = nI (4 * t + 2) := nI_add (4 * t) 2
  rw [e_2]
  refine va_sld hx hb hXs hbl hbA hS (vp_in_nI (by omega) (by omega)) dL_law_576 ?_
  rw [nI_clamp (by omega)]
  refine lv_aload_n hx hb dL_law_577 rfl (lv_at hl 0 rfl) ?_
  refine lv_iload hx hb dL_law_578 (lv_at hl 4 rfl) ?_
  refine lv_iconst (v := 3) hx hb dL_law_580 (by decide) ?_
  refine lv_iadd hx hb dL_law_581 ?_
  have e_3 : (nI (4 * t) + (3 : Int32)) = nI (4 * t + 3) := nI_add (4 * t) 3
  rw [e_3]
  refine va_sld hx hb hXs hbl hbA hS (vp_in_nI (by omega) (by omega)) dL_law_582 ?_
  rw [nI_clamp (by omega)]
  refine lv_aload_n hx hb dL_law_583 rfl (lv_at hl 3 rfl) ?_
  have hP : va_P (dC, dI) vwCl ((w0 h a b0 cB cJ f g (nI n) (nI c) zg (nI k) ++ wo o cO go) ++ w1 h1 a1 b1 cI cK fb g zt (nI n) (nI c) so nu ty hh pa ch9 zk zl zh zp zq (nI k)) H := hP.sub [0, 1, 2, 6, 3, 4, 5] rfl
  have hD : va_D (fun q : Nat => s.heap.size ≤ q) ((w0 h a b0 cB cJ f g (nI n) (nI c) zg (nI k) ++ wo o cO go) ++ w1 h1 a1 b1 cI cK fb g zt (nI n) (nI c) so nu ty hh pa ch9 zk zl zh zp zq (nI k)) := hD.sub [0, 1, 2, 6, 3, 4, 5] (by decide) rfl
  refine ghi (wc := w0 h a b0 cB cJ f g (nI n) (nI c) zg (nI k) ++ wo o cO go) (wr := w1 h1 a1 b1 cI cK fb g zt (nI n) (nI c) so nu ty hh pa ch9 zk zl zh zp zq (nI k)) (As := [.ref h, .int 4, .int (xs (4 * t + 2)), .int (xs (4 * t + 3)), .ref o]) (rest := []) ⟨hx, hb, hml, hown, hts⟩ (c_L_pack_f l hst sa dC dI tk tw h a b0 cB cJ o cO go _ f g (nI c) zg (nI k) n hn 4 (xs (4 * t + 2)) (xs (4 * t + 3)) (by decide) (by decide) (fun z => absurd (by decide) z) (fun z => absurd z (by decide)) b9 hb9 hs9 hr9) (vx_cwSW 5 hts gL_law_L_pack rfl rfl rfl (by decide +kernel) ⟨Nat.le_of_ble_eq_true rfl, Nat.le_of_ble_eq_true rfl⟩) hKh hP hD hS hA hZ hX rfl hl.1 rfl (Nat.le_of_ble_eq_true rfl) dL_law_584 ⟨by show _ ≤ 1042; omega, by show _ ≤ 16674; omega⟩ (fun r_4 u_6 H locs hw_5 hP hD hS => ?_)
  have hP : va_P (dC, dI) vwCl ((w0 h a b0 cB cJ f g (nI n) (nI c) zg (nI k) ++ wo o cO go) ++ w1 h1 a1 b1 cI cK fb g zt (nI n) (nI c) so nu ty hh pa ch9 zk zl zh zp zq (nI k)) H := hP
  have hD : va_D (fun q : Nat => s.heap.size ≤ q) ((w0 h a b0 cB cJ f g (nI n) (nI c) zg (nI k) ++ wo o cO go) ++ w1 h1 a1 b1 cI cK fb g zt (nI n) (nI c) so nu ty hh pa ch9 zk zl zh zp zq (nI k)) := hD
  obtain rfl : r_4 = 2 := hw_5
  refine lv_istore (lv' := [(5, .int 2), (0, .ref b), (1, .ref h), (2, .ref h1), (3, .ref o), (4, .int (nI (4 * t)))]) hx hb dL_law_587 hl (by decide) rfl (fun ls hl => ?_)
  refine lv_aload_n hx hb dL_law_589 rfl (lv_at hl 3 rfl) ?_
  refine lv_aload_n hx hb dL_law_590 rfl (lv_at hl 1 rfl) ?_
  refine lv_iload hx hb dL_law_591 (lv_at hl 5 rfl) ?_
  refine lv_iconst (v := 1) hx hb dL_law_593 (by decide) ?_
  refine lv_iadd hx hb dL_law_594 ?_
  have e_7 : (nI (4 * t) + (1 : Int32)) = nI (4 * t + 1) := nI_add (4 * t) 1
  rw [e_7]
  refine va_sld hx hb hXs hbl hbA hS (vp_in_nI (by omega) (by omega)) dL_law_595 ?_
  rw [nI_clamp (by omega)]
  rw [e1]
  refine lv_aload_n hx hb dL_law_596 rfl (lv_at hl 1 rfl) ?_
  refine lv_iload hx hb dL_law_597 (lv_at hl 5 rfl) ?_
  refine lv_iconst (v := 2) hx hb dL_law_599 (by decide) ?_
  refine lv_iadd hx hb dL_law_600 ?_
  have e_8 : (nI (4 * t) + (2 : Int32)) = nI (4 * t + 2) := nI_add (4 * t) 2
  rw [e_8]
  refine va_sld hx hb hXs hbl hbA hS (vp_in_nI (by omega) (by omega)) dL_law_601 ?_
  rw [nI_clamp (by omega)]
  refine lv_aload_n hx hb dL_law_602 rfl (lv_at hl 1 rfl) ?_
  refine lv_iload hx hb dL_law_603 (lv_at hl 5 rfl) ?_
  refine lv_iconst (v := 3) hx hb dL_law_605 (by decide) ?_
  refine lv_iadd hx hb dL_law_606 ?_
  have e_9 : (nI (4 * t) + (3 : Int32)) = nI (4 * t + 3) := nI_add (4 * t) 3
  rw [e_9]
  refine va_sld hx hb hXs hbl hbA hS (vp_in_nI (by omega) (by omega)) dL_law_607 ?_
  rw [nI_clamp (by omega)]
  have hP : va_P (dC, dI) vwCl (w1 h1 a1 b1 cI cK fb g zt (nI n) (nI c) so nu ty hh pa ch9 zk zl zh zp zq (nI k) ++ (w0 h a b0 cB cJ f g (nI n) (nI c) zg (nI k) ++ wo o cO go)) H := hP.sub [4, 5, 6, 0, 1, 2, 3] rfl
  have hD : va_D (fun q : Nat => s.heap.size ≤ q) (w1 h1 a1 b1 cI cK fb g zt (nI n) (nI c) so nu ty hh pa ch9 zk zl zh zp zq (nI k) ++ (w0 h a b0 cB cJ f g (nI n) (nI c) zg (nI k) ++ wo o cO go)) := hD.sub [4, 5, 6, 0, 1, 2, 3] (by decide) rfl
  refine gji (wc := w1 h1 a1 b1 cI cK fb g zt (nI n) (nI c) so nu ty hh pa ch9 zk zl zh zp zq (nI k)) (wr := w0 h a b0 cB cJ f g (nI n) (nI c) zg (nI k) ++ wo o cO go) (As := [.int 4, .int (xs (4 * t + 2)), .int (xs (4 * t + 3))]) (rest := []) ⟨hx, hb, hml, hown, hts⟩ (c_X1_pack_4f l dC dI tk tw h1 a1 b1 cI cK _ fb g zt (nI c) so nu ty hh pa ch9 zk zl zh zp zq (nI k) n hn (xs (4 * t + 2)) (xs (4 * t + 3)) hr8) (cwV 3 hts gL_law_X1_pack rfl rfl rfl (by decide +kernel) ⟨Nat.le_of_ble_eq_true rfl, Nat.le_of_ble_eq_true rfl⟩) hKm hP hD hS hA hZ (q0 := 0) (ci := 1) rfl rfl rfl rfl hl.1 rfl (Nat.le_of_ble_eq_true rfl) dL_law_608 ⟨by show _ ≤ 1042; omega, by show _ ≤ 16674; omega⟩ (fun r_10 u_12 H locs hw_11 hP hD hS => ?_)
  have hP : va_P (dC, dI) vwCl (w1 h1 a1 b1 cI cK fb g 2 (nI n) (nI c) so nu ty hh pa ch9 zk zl zh zp zq (nI k) ++ (w0 h a b0 cB cJ f g (nI n) (nI c) zg (nI k) ++ wo o cO go)) H := hP
  have hD : va_D (fun q : Nat => s.heap.size ≤ q) (w1 h1 a1 b1 cI cK fb g 2 (nI n) (nI c) so nu ty hh pa ch9 zk zl zh zp zq (nI k) ++ (w0 h a b0 cB cJ f g (nI n) (nI c) zg (nI k) ++ wo o cO go)) := hD
  refine lv_istore (lv' := [(6, .int r_10), (5, .int 2), (0, .ref b), (1, .ref h), (2, .ref h1), (3, .ref o), (4, .int (nI (4 * t)))]) hx hb dL_law_611 hl (by decide) rfl (fun ls hl => ?_)
  refine lv_aload_n hx hb dL_law_613 rfl (lv_at hl 4 rfl) ?_
  refine gji (wc := w1 h1 a1 b1 cI cK fb g 2 (nI n) (nI c) so nu ty hh pa ch9 zk zl zh zp zq (nI k)) (wr := w0 h a b0 cB cJ f g (nI n) (nI c) zg (nI k) ++ wo o cO go) (As := []) (rest := []) ⟨hx, hb, hml, hown, hts⟩ (c_X1_thrown l dC dI tk tw h1 a1 b1 cI cK _ fb g 2 (nI n) (nI c) so nu ty hh pa ch9 zk zl zh zp zq (nI k) ) (cwV 0 hts gL_law_X1_thrown rfl rfl rfl (by decide +kernel) ⟨Nat.le_of_ble_eq_true rfl, Nat.le_of_ble_eq_true rfl⟩) hKm hP hD hS hA hZ (q0 := 0) (ci := 1) rfl rfl rfl rfl hl.1 rfl (Nat.le_of_ble_eq_true rfl) dL_law_614 ⟨by show _ ≤ 1042; omega, by show _ ≤ 16674; omega⟩ (fun r_13 u_15 H locs hw_14 hP hD hS => ?_)
  have hP : va_P (dC, dI) vwCl (w1 h1 a1 b1 cI cK fb g 2 (nI n) (nI c) so nu ty hh pa ch9 zk zl zh zp zq (nI k) ++ (w0 h a b0 cB cJ f g (nI n) (nI c) zg (nI k) ++ wo o cO go)) H := hP
  have hD : va_D (fun q : Nat => s.heap.size ≤ q) (w1 h1 a1 b1 cI cK fb g 2 (nI n) (nI c) so nu ty hh pa ch9 zk zl zh zp zq (nI k) ++ (w0 h a b0 cB cJ f g (nI n) (nI c) zg (nI k) ++ wo o cO go)) := hD
  obtain rfl : r_13 = 2 := hw_14
  refine lv_iload hx hb dL_law_617 (lv_at hl 1 rfl) ?_
  refine lv_icmp_eq (tgt := 624) hx hb dL_law_619 (by decide) (fun c_16 => ?_) (fun c_16 => ?_)
  · skip
    refine lv_iload hx hb dL_law_624 (lv_at hl 1 rfl) ?_
    refine lv_if_ne (tgt := 641) hx hb dL_law_626 (by decide) (fun c_17 => ?_) (fun c_17 => ?_)
    · skip
      refine lv_goto (tgt := 644) hx hb dL_law_641 (by decide) ?_
      have hP : va_P (dC, dI) vwCl (w0 h a b0 cB cJ f g (nI n) (nI c) zg (nI k) ++ (w1 h1 a1 b1 cI cK fb g 2 (nI n) (nI c) so nu ty hh pa ch9 zk zl zh zp zq (nI k) ++ wo o cO go)) H := hP.sub [3, 4, 5, 0, 1, 2, 6] rfl
      have hD : va_D (fun q : Nat => s.heap.size ≤ q) (w0 h a b0 cB cJ f g (nI n) (nI c) zg (nI k) ++ (w1 h1 a1 b1 cI cK fb g 2 (nI n) (nI c) so nu ty hh pa ch9 zk zl zh zp zq (nI k) ++ wo o cO go)) := hD.sub [3, 4, 5, 0, 1, 2, 6] (by decide) rfl
      refine W.widen (k := 7 + t + 1) (n := 8416 + 6 * (t + 1)) (by omega) (by omega) ?_
      exact K _ _ _ ⟨n, c, k, f, fb, g, zg, 2, so, nu, ty, hh, pa, ch9, zk, zl, zh, zp, zq, go, hn, hc, hk, hRB, hG, hP, hD, hS, lv_sub hl [2, 3, 4, 5, 6] rfl⟩
    · skip
      exact absurd c_17 (by decide)
  · skip
    exact absurd rfl c_16
set_option maxHeartbeats 4000000 in
set_option maxRecDepth 100000 in
theorem op_pack_g5 {p : Program} {e : Env} {s : State} {m : MethodId} {below : List Frame} {meth : Method} {cd : Code} {l : Launch} {b L : Nat} {xs : Nat → Int32} {dC : Nat → ClassId} {dI : Nat → Nat → Nat} {tk tw : Nat} {sa : Nat → Nat} {cB cJ cI cK cO : ClassId} {h a b0 h1 a1 b1 o t : Nat} {H : Heap} {locs : List Loc} {ls : Array Slot} (CX : LC l p s m meth cd b L xs dC dI tk tw sa cB cJ cI cK cO) (ht4 : 4 * t + 4 ≤ L) (K : ∀ (H : Heap) (locs : List Loc) (ls : Array Slot), LI s b dC dI h a b0 cB cJ h1 a1 b1 cI cK o cO t H locs ls → W p l e room_1 s m #[Value.ref b] below meth cd H locs (7 + t + 1) (8416 + 6 * (t + 1)) (lw_Z below #[Value.ref b] s) (F0 m 644 ls [])) (n : Nat) (c : Nat) (k : Nat) (f : Nat → Int32) (fb : Nat → Int32) (g : Nat → Int64) (zg : Int32) (zt : Int32) (so : Int32) (nu : Int64) (ty : Int32) (hh : Int32) (pa : Int64) (ch9 : Int64) (zk : Int32) (zl : Int32) (zh : Int32) (zp : Int32) (zq : Int32) (go : Nat → Int64) (hn : n ≤ 4096) (hc : c ≤ n) (hk : k ≤ 100) (hRB : RB n f fb) (hG : GV f c zg zk zl zh zp zq) (hP : va_P (dC, dI) vwCl (w0 h a b0 cB cJ f g (nI n) (nI c) zg (nI k) ++ (w1 h1 a1 b1 cI cK fb g zt (nI n) (nI c) so nu ty hh pa ch9 zk zl zh zp zq (nI k) ++ wo o cO go)) H) (hD : va_D (fun q : Nat => s.heap.size ≤ q) (w0 h a b0 cB cJ f g (nI n) (nI c) zg (nI k) ++ (w1 h1 a1 b1 cI cK fb g zt (nI n) (nI c) so nu ty hh pa ch9 zk zl zh zp zq (nI k) ++ wo o cO go))) (hS : va_S (fun q : Nat => s.heap.size ≤ q) s.heap H locs) (hl : lv_has ls 8 [(0, .ref b), (1, .ref h), (2, .ref h1), (3, .ref o), (4, .int (nI (4 * t)))]) (e1 : xs (4 * t + 1) = 5) (hr8 : n + phL (pk5 (xs (4 * t + 2)) (xs (4 * t + 3))) ≤ 4096) : W p l e room_1 s m #[Value.ref b] below meth cd H locs (7 + t) (8416 + 6 * t) (lw_Z below #[Value.ref b] s) (F0 m 564 ls []) := by
  obtain ⟨⟨hx, hb, hr, hml, hown, hts, hXs, hbl, hlocks⟩, hst, hL, hK, hZ, hX⟩ := CX
  have hA : ∀ q : Nat, s.heap.size ≤ q → (fun q : Nat => s.heap.size ≤ q) q := fun _ h => h
  have hbA : ¬ (fun q : Nat => s.heap.size ≤ q) b := Nat.not_le.mpr hbl
  have hKx := hK.sub (tys' := t0 cB cJ) [0, 1] rfl
  have hKm := hK.sub (tys' := t1 cI cK) [2, 3] rfl
  have hKh := hK.sub (tys' := th cB cJ cO) [0, 1, 4] rfl
  obtain ⟨b9, hb9, hs9, t1, t2, t3, t4⟩ := pkE_5 (xs (4 * t + 2)) (xs (4 * t + 3))
  obtain ⟨z1, z2⟩ := RB_pack (k := 5) (lo := (xs (4 * t + 2))) (hi := (xs (4 * t + 3))) (T := (pk5 (xs (4 * t + 2)) (xs (4 * t + 3)))) hb9 hRB t1 t2 t3 t4
  have hr9 : n + hd b9 ≤ 4096 := by rw [← z1]; exact hr8
  refine lv_aload_n hx hb dL_law_564 rfl (lv_at hl 1 rfl) ?_
  refine lv_aload_n hx hb dL_law_565 rfl (lv_at hl 0 rfl) ?_
  refine lv_iload hx hb dL_law_566 (lv_at hl 4 rfl) ?_
  refine lv_iconst (v := 1) hx hb dL_law_568 (by decide) ?_
  refine lv_iadd hx hb dL_law_569 ?_
  have e_1 : (nI (4 * t) + (1 : Int32)) = nI (4 * t + 1) := nI_add (4 * t) 1
  rw [e_1]
  refine va_sld hx hb hXs hbl hbA hS (vp_in_nI (by omega) (by omega)) dL_law_570 ?_
  rw [nI_clamp (by omega)]
  rw [e1]
  refine lv_aload_n hx hb dL_law_571 rfl (lv_at hl 0 rfl) ?_
  refine lv_iload hx hb dL_law_572 (lv_at hl 4 rfl) ?_
  refine lv_iconst (v := 2) hx hb dL_law_574 (by decide) ?_
  refine lv_iadd hx hb dL_law_575 ?_
  have e_2 : (nI (4 * t) + (2 : Int32)) = nI (4 * t + 2) := nI_add (4 * t) 2
  rw [e_2]
  refine va_sld hx hb hXs hbl hbA hS (vp_in_nI (by omega) (by omega)) dL_law_576 ?_
  rw [nI_clamp (by omega)]
  refine lv_aload_n hx hb dL_law_577 rfl (lv_at hl 0 rfl) ?_
  refine lv_iload hx hb dL_law_578 (lv_at hl 4 rfl) ?_
  refine lv_iconst (v := 3) hx hb dL_law_580 (by decide) ?_
  refine lv_iadd hx hb dL_law_581 ?_
  have e_3 : (nI (4 * t) + (3 : Int32)) = nI (4 * t + 3) := nI_add (4 * t) 3
  rw [e_3]
  refine va_sld hx hb hXs hbl hbA hS (vp_in_nI (by omega) (by omega)) dL_law_582 ?_
  rw [nI_clamp (by omega)]
  refine lv_aload_n hx hb dL_law_583 rfl (lv_at hl 3 rfl) ?_
  have hP : va_P (dC, dI) vwCl ((w0 h a b0 cB cJ f g (nI n) (nI c) zg (nI k) ++ wo o cO go) ++ w1 h1 a1 b1 cI cK fb g zt (nI n) (nI c) so nu ty hh pa ch9 zk zl zh zp zq (nI k)) H := hP.sub [0, 1, 2, 6, 3, 4, 5] rfl
  have hD : va_D (fun q : Nat => s.heap.size ≤ q) ((w0 h a b0 cB cJ f g (nI n) (nI c) zg (nI k) ++ wo o cO go) ++ w1 h1 a1 b1 cI cK fb g zt (nI n) (nI c) so nu ty hh pa ch9 zk zl zh zp zq (nI k)) := hD.sub [0, 1, 2, 6, 3, 4, 5] (by decide) rfl
  refine ghi (wc := w0 h a b0 cB cJ f g (nI n) (nI c) zg (nI k) ++ wo o cO go) (wr := w1 h1 a1 b1 cI cK fb g zt (nI n) (nI c) so nu ty hh pa ch9 zk zl zh zp zq (nI k)) (As := [.ref h, .int 5, .int (xs (4 * t + 2)), .int (xs (4 * t + 3)), .ref o]) (rest := []) ⟨hx, hb, hml, hown, hts⟩ (c_L_pack l hst sa dC dI tk tw h a b0 cB cJ o cO go _ f g (nI c) zg (nI k) n 5 (xs (4 * t + 2)) (xs (4 * t + 3)) (by decide) (by decide) (fun z => absurd (by decide) z) (fun z => absurd z (by decide)) b9 hb9 hs9 hr9) (vx_cwSW 5 hts gL_law_L_pack rfl rfl rfl (by decide +kernel) ⟨Nat.le_of_ble_eq_true rfl, Nat.le_of_ble_eq_true rfl⟩) hKh hP hD hS hA hZ hX rfl hl.1 rfl (Nat.le_of_ble_eq_true rfl) dL_law_584 ⟨by show _ ≤ 1042; omega, by show _ ≤ 16674; omega⟩ (fun r_4 u_6 H locs hw_5 hP hD hS => ?_)
  have hP : va_P (dC, dI) vwCl ((w0 h a b0 cB cJ (apR (apR (apR f n (nI b9).toInt64 1) (n + 1) (nO 5 (xs (4 * t + 2)) (xs (4 * t + 3))) (wd b9)) (n + 1 + wd b9) (xs (4 * t + 3)).toInt64 (tW b9)) g (nI (n + hd b9)) (nI c) zg (nI k) ++ wo o cO (vp_updL go 0 ((nI (hd b9)).toInt64))) ++ w1 h1 a1 b1 cI cK fb g zt (nI n) (nI c) so nu ty hh pa ch9 zk zl zh zp zq (nI k)) H := hP
  have hD : va_D (fun q : Nat => s.heap.size ≤ q) ((w0 h a b0 cB cJ (apR (apR (apR f n (nI b9).toInt64 1) (n + 1) (nO 5 (xs (4 * t + 2)) (xs (4 * t + 3))) (wd b9)) (n + 1 + wd b9) (xs (4 * t + 3)).toInt64 (tW b9)) g (nI (n + hd b9)) (nI c) zg (nI k) ++ wo o cO (vp_updL go 0 ((nI (hd b9)).toInt64))) ++ w1 h1 a1 b1 cI cK fb g zt (nI n) (nI c) so nu ty hh pa ch9 zk zl zh zp zq (nI k)) := hD
  obtain rfl : r_4 = 0 := hw_5
  refine lv_istore (lv' := [(5, .int 0), (0, .ref b), (1, .ref h), (2, .ref h1), (3, .ref o), (4, .int (nI (4 * t)))]) hx hb dL_law_587 hl (by decide) rfl (fun ls hl => ?_)
  refine lv_aload_n hx hb dL_law_589 rfl (lv_at hl 3 rfl) ?_
  refine lv_aload_n hx hb dL_law_590 rfl (lv_at hl 1 rfl) ?_
  refine lv_iload hx hb dL_law_591 (lv_at hl 5 rfl) ?_
  refine lv_iconst (v := 1) hx hb dL_law_593 (by decide) ?_
  refine lv_iadd hx hb dL_law_594 ?_
  have e_7 : (nI (4 * t) + (1 : Int32)) = nI (4 * t + 1) := nI_add (4 * t) 1
  rw [e_7]
  refine va_sld hx hb hXs hbl hbA hS (vp_in_nI (by omega) (by omega)) dL_law_595 ?_
  rw [nI_clamp (by omega)]
  rw [e1]
  refine lv_aload_n hx hb dL_law_596 rfl (lv_at hl 1 rfl) ?_
  refine lv_iload hx hb dL_law_597 (lv_at hl 5 rfl) ?_
  refine lv_iconst (v := 2) hx hb dL_law_599 (by decide) ?_
  refine lv_iadd hx hb dL_law_600 ?_
  have e_8 : (nI (4 * t) + (2 : Int32)) = nI (4 * t + 2) := nI_add (4 * t) 2
  rw [e_8]
  refine va_sld hx hb hXs hbl hbA hS (vp_in_nI (by omega) (by omega)) dL_law_601 ?_
  rw [nI_clamp (by omega)]
  refine lv_aload_n hx hb dL_law_602 rfl (lv_at hl 1 rfl) ?_
  refine lv_iload hx hb dL_law_603 (lv_at hl 5 rfl) ?_
  refine lv_iconst (v := 3) hx hb dL_law_605 (by decide) ?_
  refine lv_iadd hx hb dL_law_606 ?_
  have e_9 : (nI (4 * t) + (3 : Int32)) = nI (4 * t + 3) := nI_add (4 * t) 3
  rw [e_9]
  refine va_sld hx hb hXs hbl hbA hS (vp_in_nI (by omega) (by omega)) dL_law_607 ?_
  rw [nI_clamp (by omega)]
  have hP : va_P (dC, dI) vwCl (w1 h1 a1 b1 cI cK fb g zt (nI n) (nI c) so nu ty hh pa ch9 zk zl zh zp zq (nI k) ++ (w0 h a b0 cB cJ (apR (apR (apR f n (nI b9).toInt64 1) (n + 1) (nO 5 (xs (4 * t + 2)) (xs (4 * t + 3))) (wd b9)) (n + 1 + wd b9) (xs (4 * t + 3)).toInt64 (tW b9)) g (nI (n + hd b9)) (nI c) zg (nI k) ++ wo o cO (vp_updL go 0 ((nI (hd b9)).toInt64)))) H := hP.sub [4, 5, 6, 0, 1, 2, 3] rfl
  have hD : va_D (fun q : Nat => s.heap.size ≤ q) (w1 h1 a1 b1 cI cK fb g zt (nI n) (nI c) so nu ty hh pa ch9 zk zl zh zp zq (nI k) ++ (w0 h a b0 cB cJ (apR (apR (apR f n (nI b9).toInt64 1) (n + 1) (nO 5 (xs (4 * t + 2)) (xs (4 * t + 3))) (wd b9)) (n + 1 + wd b9) (xs (4 * t + 3)).toInt64 (tW b9)) g (nI (n + hd b9)) (nI c) zg (nI k) ++ wo o cO (vp_updL go 0 ((nI (hd b9)).toInt64)))) := hD.sub [4, 5, 6, 0, 1, 2, 3] (by decide) rfl
  refine gji (wc := w1 h1 a1 b1 cI cK fb g zt (nI n) (nI c) so nu ty hh pa ch9 zk zl zh zp zq (nI k)) (wr := w0 h a b0 cB cJ (apR (apR (apR f n (nI b9).toInt64 1) (n + 1) (nO 5 (xs (4 * t + 2)) (xs (4 * t + 3))) (wd b9)) (n + 1 + wd b9) (xs (4 * t + 3)).toInt64 (tW b9)) g (nI (n + hd b9)) (nI c) zg (nI k) ++ wo o cO (vp_updL go 0 ((nI (hd b9)).toInt64))) (As := [.int 5, .int (xs (4 * t + 2)), .int (xs (4 * t + 3))]) (rest := []) ⟨hx, hb, hml, hown, hts⟩ (c_X1_pack_5 l dC dI tk tw h1 a1 b1 cI cK _ fb g zt (nI c) so nu ty hh pa ch9 zk zl zh zp zq (nI k) n (xs (4 * t + 2)) (xs (4 * t + 3)) hr8) (cwV 3 hts gL_law_X1_pack rfl rfl rfl (by decide +kernel) ⟨Nat.le_of_ble_eq_true rfl, Nat.le_of_ble_eq_true rfl⟩) hKm hP hD hS hA hZ (q0 := 0) (ci := 1) rfl rfl rfl rfl hl.1 rfl (Nat.le_of_ble_eq_true rfl) dL_law_608 ⟨by show _ ≤ 1042; omega, by show _ ≤ 16674; omega⟩ (fun r_10 u_12 H locs hw_11 hP hD hS => ?_)
  have hP : va_P (dC, dI) vwCl (w1 h1 a1 b1 cI cK (phF fb n (pk5 (xs (4 * t + 2)) (xs (4 * t + 3)))) g 0 (nI (n + phL (pk5 (xs (4 * t + 2)) (xs (4 * t + 3))))) (nI c) so nu ty hh pa ch9 zk zl zh zp zq (nI k) ++ (w0 h a b0 cB cJ (apR (apR (apR f n (nI b9).toInt64 1) (n + 1) (nO 5 (xs (4 * t + 2)) (xs (4 * t + 3))) (wd b9)) (n + 1 + wd b9) (xs (4 * t + 3)).toInt64 (tW b9)) g (nI (n + hd b9)) (nI c) zg (nI k) ++ wo o cO (vp_updL go 0 ((nI (hd b9)).toInt64)))) H := hP
  have hD : va_D (fun q : Nat => s.heap.size ≤ q) (w1 h1 a1 b1 cI cK (phF fb n (pk5 (xs (4 * t + 2)) (xs (4 * t + 3)))) g 0 (nI (n + phL (pk5 (xs (4 * t + 2)) (xs (4 * t + 3))))) (nI c) so nu ty hh pa ch9 zk zl zh zp zq (nI k) ++ (w0 h a b0 cB cJ (apR (apR (apR f n (nI b9).toInt64 1) (n + 1) (nO 5 (xs (4 * t + 2)) (xs (4 * t + 3))) (wd b9)) (n + 1 + wd b9) (xs (4 * t + 3)).toInt64 (tW b9)) g (nI (n + hd b9)) (nI c) zg (nI k) ++ wo o cO (vp_updL go 0 ((nI (hd b9)).toInt64)))) := hD
  obtain rfl : r_10 = nI (phL (pk5 (xs (4 * t + 2)) (xs (4 * t + 3)))) := hw_11
  rw [z1] at hP hD
  have hP : va_P (dC, dI) vwCl (w1 h1 a1 b1 cI cK (phF fb n (pk5 (xs (4 * t + 2)) (xs (4 * t + 3)))) g 0 (nI (n + hd b9)) (nI c) so nu ty hh pa ch9 zk zl zh zp zq (nI k) ++ (w0 h a b0 cB cJ (apR (apR (apR f n (nI b9).toInt64 1) (n + 1) (nO 5 (xs (4 * t + 2)) (xs (4 * t + 3))) (wd b9)) (n + 1 + wd b9) (xs (4 * t + 3)).toInt64 (tW b9)) g (nI (n + hd b9)) (nI c) zg (nI k) ++ wo o cO (vp_updL go 0 ((nI (hd b9)).toInt64)))) H := hP
  have hD : va_D (fun q : Nat => s.heap.size ≤ q) (w1 h1 a1 b1 cI cK (phF fb n (pk5 (xs (4 * t + 2)) (xs (4 * t + 3)))) g 0 (nI (n + hd b9)) (nI c) so nu ty hh pa ch9 zk zl zh zp zq (nI k) ++ (w0 h a b0 cB cJ (apR (apR (apR f n (nI b9).toInt64 1) (n + 1) (nO 5 (xs (4 * t + 2)) (xs (4 * t + 3))) (wd b9)) (n + 1 + wd b9) (xs (4 * t + 3)).toInt64 (tW b9)) g (nI (n + hd b9)) (nI c) zg (nI k) ++ wo o cO (vp_updL go 0 ((nI (hd b9)).toInt64)))) := hD
  refine lv_istore (lv' := [(6, .int (nI (phL (pk5 (xs (4 * t + 2)) (xs (4 * t + 3)))))), (5, .int 0), (0, .ref b), (1, .ref h), (2, .ref h1), (3, .ref o), (4, .int (nI (4 * t)))]) hx hb dL_law_611 hl (by decide) rfl (fun ls hl => ?_)
  refine lv_aload_n hx hb dL_law_613 rfl (lv_at hl 4 rfl) ?_
  refine gji (wc := w1 h1 a1 b1 cI cK (phF fb n (pk5 (xs (4 * t + 2)) (xs (4 * t + 3)))) g 0 (nI (n + hd b9)) (nI c) so nu ty hh pa ch9 zk zl zh zp zq (nI k)) (wr := w0 h a b0 cB cJ (apR (apR (apR f n (nI b9).toInt64 1) (n + 1) (nO 5 (xs (4 * t + 2)) (xs (4 * t + 3))) (wd b9)) (n + 1 + wd b9) (xs (4 * t + 3)).toInt64 (tW b9)) g (nI (n + hd b9)) (nI c) zg (nI k) ++ wo o cO (vp_updL go 0 ((nI (hd b9)).toInt64))) (As := []) (rest := []) ⟨hx, hb, hml, hown, hts⟩ (c_X1_thrown l dC dI tk tw h1 a1 b1 cI cK _ (phF fb n (pk5 (xs (4 * t + 2)) (xs (4 * t + 3)))) g 0 (nI (n + hd b9)) (nI c) so nu ty hh pa ch9 zk zl zh zp zq (nI k) ) (cwV 0 hts gL_law_X1_thrown rfl rfl rfl (by decide +kernel) ⟨Nat.le_of_ble_eq_true rfl, Nat.le_of_ble_eq_true rfl⟩) hKm hP hD hS hA hZ (q0 := 0) (ci := 1) rfl rfl rfl rfl hl.1 rfl (Nat.le_of_ble_eq_true rfl) dL_law_614 ⟨by show _ ≤ 1042; omega, by show _ ≤ 16674; omega⟩ (fun r_13 u_15 H locs hw_14 hP hD hS => ?_)
  have hP : va_P (dC, dI) vwCl (w1 h1 a1 b1 cI cK (phF fb n (pk5 (xs (4 * t + 2)) (xs (4 * t + 3)))) g 0 (nI (n + hd b9)) (nI c) so nu ty hh pa ch9 zk zl zh zp zq (nI k) ++ (w0 h a b0 cB cJ (apR (apR (apR f n (nI b9).toInt64 1) (n + 1) (nO 5 (xs (4 * t + 2)) (xs (4 * t + 3))) (wd b9)) (n + 1 + wd b9) (xs (4 * t + 3)).toInt64 (tW b9)) g (nI (n + hd b9)) (nI c) zg (nI k) ++ wo o cO (vp_updL go 0 ((nI (hd b9)).toInt64)))) H := hP
  have hD : va_D (fun q : Nat => s.heap.size ≤ q) (w1 h1 a1 b1 cI cK (phF fb n (pk5 (xs (4 * t + 2)) (xs (4 * t + 3)))) g 0 (nI (n + hd b9)) (nI c) so nu ty hh pa ch9 zk zl zh zp zq (nI k) ++ (w0 h a b0 cB cJ (apR (apR (apR f n (nI b9).toInt64 1) (n + 1) (nO 5 (xs (4 * t + 2)) (xs (4 * t + 3))) (wd b9)) (n + 1 + wd b9) (xs (4 * t + 3)).toInt64 (tW b9)) g (nI (n + hd b9)) (nI c) zg (nI k) ++ wo o cO (vp_updL go 0 ((nI (hd b9)).toInt64)))) := hD
  obtain rfl : r_13 = 0 := hw_14
  refine lv_iload hx hb dL_law_617 (lv_at hl 1 rfl) ?_
  refine lv_icmp_eq (tgt := 624) hx hb dL_law_619 (by decide) (fun c_16 => ?_) (fun c_16 => ?_)
  · skip
    refine lv_iload hx hb dL_law_624 (lv_at hl 1 rfl) ?_
    refine lv_if_ne (tgt := 641) hx hb dL_law_626 (by decide) (fun c_17 => ?_) (fun c_17 => ?_)
    · skip
      exact absurd (by decide) c_17
    · skip
      refine lv_aload_n hx hb dL_law_629 rfl (lv_at hl 5 rfl) ?_
      refine lv_iconst (v := 0) hx hb dL_law_630 (by decide) ?_
      refine va_lald hx hb hK hP 6 4 rfl rfl vp01 dL_law_631 ?_
      have e_18 : (vp_updL go 0 ((nI (hd b9)).toInt64) (0 : Int32).toNatClampNeg : Int64) = ((nI (hd b9)).toInt64) := pk_uLs
      rw [e_18]
      refine lv_iload hx hb dL_law_632 (lv_at hl 0 rfl) ?_
      refine lv_i2l hx hb dL_law_634 rfl ?_
      refine W.lcmp hx hb dL_law_635 ?_
      refine lv_if_eq (tgt := 641) hx hb dL_law_636 (by decide) (fun c_19 => ?_) (fun c_19 => ?_)
      · skip
        have c_19 := (lg_cmp_eq ((nI (hd b9)).toInt64) ((nI (phL (pk5 (xs (4 * t + 2)) (xs (4 * t + 3))))).toInt64)).mp c_19
        refine lv_goto (tgt := 644) hx hb dL_law_641 (by decide) ?_
        have hP : va_P (dC, dI) vwCl (w0 h a b0 cB cJ (apR (apR (apR f n (nI b9).toInt64 1) (n + 1) (nO 5 (xs (4 * t + 2)) (xs (4 * t + 3))) (wd b9)) (n + 1 + wd b9) (xs (4 * t + 3)).toInt64 (tW b9)) g (nI (n + hd b9)) (nI c) zg (nI k) ++ (w1 h1 a1 b1 cI cK (phF fb n (pk5 (xs (4 * t + 2)) (xs (4 * t + 3)))) g 0 (nI (n + hd b9)) (nI c) so nu ty hh pa ch9 zk zl zh zp zq (nI k) ++ wo o cO (vp_updL go 0 ((nI (hd b9)).toInt64)))) H := hP.sub [3, 4, 5, 0, 1, 2, 6] rfl
        have hD : va_D (fun q : Nat => s.heap.size ≤ q) (w0 h a b0 cB cJ (apR (apR (apR f n (nI b9).toInt64 1) (n + 1) (nO 5 (xs (4 * t + 2)) (xs (4 * t + 3))) (wd b9)) (n + 1 + wd b9) (xs (4 * t + 3)).toInt64 (tW b9)) g (nI (n + hd b9)) (nI c) zg (nI k) ++ (w1 h1 a1 b1 cI cK (phF fb n (pk5 (xs (4 * t + 2)) (xs (4 * t + 3)))) g 0 (nI (n + hd b9)) (nI c) so nu ty hh pa ch9 zk zl zh zp zq (nI k) ++ wo o cO (vp_updL go 0 ((nI (hd b9)).toInt64)))) := hD.sub [3, 4, 5, 0, 1, 2, 6] (by decide) rfl
        refine W.widen (k := 7 + t + 1) (n := 8416 + 6 * (t + 1)) (by omega) (by omega) ?_
        exact K _ _ _ ⟨n + hd b9, c, k, apR (apR (apR f n (nI b9).toInt64 1) (n + 1) (nO 5 (xs (4 * t + 2)) (xs (4 * t + 3))) (wd b9)) (n + 1 + wd b9) (xs (4 * t + 3)).toInt64 (tW b9), phF fb n (pk5 (xs (4 * t + 2)) (xs (4 * t + 3))), g, zg, 0, so, nu, ty, hh, pa, ch9, zk, zl, zh, zp, zq, vp_updL go 0 ((nI (hd b9)).toInt64), hr9, (by omega), hk, z2, (GV_mono hG (fun j hj => by rw [apR_lo _ _ _ _ (by omega), apR_lo _ _ _ _ (by omega), apR_lo _ _ _ _ (by omega)]) (Nat.le_refl _)), hP, hD, hS, lv_sub hl [2, 3, 4, 5, 6] rfl⟩
      · skip
        have c_19 := (not_congr (lg_cmp_eq ((nI (hd b9)).toInt64) ((nI (phL (pk5 (xs (4 * t + 2)) (xs (4 * t + 3))))).toInt64))).mp c_19
        exact absurd (by rw [z1]) c_19
  · skip
    exact absurd rfl c_16
set_option maxHeartbeats 4000000 in
set_option maxRecDepth 100000 in
theorem op_pack_f5 {p : Program} {e : Env} {s : State} {m : MethodId} {below : List Frame} {meth : Method} {cd : Code} {l : Launch} {b L : Nat} {xs : Nat → Int32} {dC : Nat → ClassId} {dI : Nat → Nat → Nat} {tk tw : Nat} {sa : Nat → Nat} {cB cJ cI cK cO : ClassId} {h a b0 h1 a1 b1 o t : Nat} {H : Heap} {locs : List Loc} {ls : Array Slot} (CX : LC l p s m meth cd b L xs dC dI tk tw sa cB cJ cI cK cO) (ht4 : 4 * t + 4 ≤ L) (K : ∀ (H : Heap) (locs : List Loc) (ls : Array Slot), LI s b dC dI h a b0 cB cJ h1 a1 b1 cI cK o cO t H locs ls → W p l e room_1 s m #[Value.ref b] below meth cd H locs (7 + t + 1) (8416 + 6 * (t + 1)) (lw_Z below #[Value.ref b] s) (F0 m 644 ls [])) (n : Nat) (c : Nat) (k : Nat) (f : Nat → Int32) (fb : Nat → Int32) (g : Nat → Int64) (zg : Int32) (zt : Int32) (so : Int32) (nu : Int64) (ty : Int32) (hh : Int32) (pa : Int64) (ch9 : Int64) (zk : Int32) (zl : Int32) (zh : Int32) (zp : Int32) (zq : Int32) (go : Nat → Int64) (hn : n ≤ 4096) (hc : c ≤ n) (hk : k ≤ 100) (hRB : RB n f fb) (hG : GV f c zg zk zl zh zp zq) (hP : va_P (dC, dI) vwCl (w0 h a b0 cB cJ f g (nI n) (nI c) zg (nI k) ++ (w1 h1 a1 b1 cI cK fb g zt (nI n) (nI c) so nu ty hh pa ch9 zk zl zh zp zq (nI k) ++ wo o cO go)) H) (hD : va_D (fun q : Nat => s.heap.size ≤ q) (w0 h a b0 cB cJ f g (nI n) (nI c) zg (nI k) ++ (w1 h1 a1 b1 cI cK fb g zt (nI n) (nI c) so nu ty hh pa ch9 zk zl zh zp zq (nI k) ++ wo o cO go))) (hS : va_S (fun q : Nat => s.heap.size ≤ q) s.heap H locs) (hl : lv_has ls 8 [(0, .ref b), (1, .ref h), (2, .ref h1), (3, .ref o), (4, .int (nI (4 * t)))]) (e1 : xs (4 * t + 1) = 5) (hr8 : 4096 < n + phL (pk5 (xs (4 * t + 2)) (xs (4 * t + 3)))) : W p l e room_1 s m #[Value.ref b] below meth cd H locs (7 + t) (8416 + 6 * t) (lw_Z below #[Value.ref b] s) (F0 m 564 ls []) := by
  obtain ⟨⟨hx, hb, hr, hml, hown, hts, hXs, hbl, hlocks⟩, hst, hL, hK, hZ, hX⟩ := CX
  have hA : ∀ q : Nat, s.heap.size ≤ q → (fun q : Nat => s.heap.size ≤ q) q := fun _ h => h
  have hbA : ¬ (fun q : Nat => s.heap.size ≤ q) b := Nat.not_le.mpr hbl
  have hKx := hK.sub (tys' := t0 cB cJ) [0, 1] rfl
  have hKm := hK.sub (tys' := t1 cI cK) [2, 3] rfl
  have hKh := hK.sub (tys' := th cB cJ cO) [0, 1, 4] rfl
  obtain ⟨b9, hb9, hs9, t1, t2, t3, t4⟩ := pkE_5 (xs (4 * t + 2)) (xs (4 * t + 3))
  obtain ⟨z1, z2⟩ := RB_pack (k := 5) (lo := (xs (4 * t + 2))) (hi := (xs (4 * t + 3))) (T := (pk5 (xs (4 * t + 2)) (xs (4 * t + 3)))) hb9 hRB t1 t2 t3 t4
  have hr9 : 4096 < n + hd b9 := by rw [← z1]; exact hr8
  refine lv_aload_n hx hb dL_law_564 rfl (lv_at hl 1 rfl) ?_
  refine lv_aload_n hx hb dL_law_565 rfl (lv_at hl 0 rfl) ?_
  refine lv_iload hx hb dL_law_566 (lv_at hl 4 rfl) ?_
  refine lv_iconst (v := 1) hx hb dL_law_568 (by decide) ?_
  refine lv_iadd hx hb dL_law_569 ?_
  have e_1 : (nI (4 * t) + (1 : Int32)) = nI (4 * t + 1) := nI_add (4 * t) 1
  rw [e_1]
  refine va_sld hx hb hXs hbl hbA hS (vp_in_nI (by omega) (by omega)) dL_law_570 ?_
  rw [nI_clamp (by omega)]
  rw [e1]
  refine lv_aload_n hx hb dL_law_571 rfl (lv_at hl 0 rfl) ?_
  refine lv_iload hx hb dL_law_572 (lv_at hl 4 rfl) ?_
  refine lv_iconst (v := 2) hx hb dL_law_574 (by decide) ?_
  refine lv_iadd hx hb dL_law_575 ?_
  have e_2 : (nI (4 * t) + (2 : Int32)) = nI (4 * t + 2) := nI_add (4 * t) 2
  rw [e_2]
  refine va_sld hx hb hXs hbl hbA hS (vp_in_nI (by omega) (by omega)) dL_law_576 ?_
  rw [nI_clamp (by omega)]
  refine lv_aload_n hx hb dL_law_577 rfl (lv_at hl 0 rfl) ?_
  refine lv_iload hx hb dL_law_578 (lv_at hl 4 rfl) ?_
  refine lv_iconst (v := 3) hx hb dL_law_580 (by decide) ?_
  refine lv_iadd hx hb dL_law_581 ?_
  have e_3 : (nI (4 * t) + (3 : Int32)) = nI (4 * t + 3) := nI_add (4 * t) 3
  rw [e_3]
  refine va_sld hx hb hXs hbl hbA hS (vp_in_nI (by omega) (by omega)) dL_law_582 ?_
  rw [nI_clamp (by omega)]
  refine lv_aload_n hx hb dL_law_583 rfl (lv_at hl 3 rfl) ?_
  have hP : va_P (dC, dI) vwCl ((w0 h a b0 cB cJ f g (nI n) (nI c) zg (nI k) ++ wo o cO go) ++ w1 h1 a1 b1 cI cK fb g zt (nI n) (nI c) so nu ty hh pa ch9 zk zl zh zp zq (nI k)) H := hP.sub [0, 1, 2, 6, 3, 4, 5] rfl
  have hD : va_D (fun q : Nat => s.heap.size ≤ q) ((w0 h a b0 cB cJ f g (nI n) (nI c) zg (nI k) ++ wo o cO go) ++ w1 h1 a1 b1 cI cK fb g zt (nI n) (nI c) so nu ty hh pa ch9 zk zl zh zp zq (nI k)) := hD.sub [0, 1, 2, 6, 3, 4, 5] (by decide) rfl
  refine ghi (wc := w0 h a b0 cB cJ f g (nI n) (nI c) zg (nI k) ++ wo o cO go) (wr := w1 h1 a1 b1 cI cK fb g zt (nI n) (nI c) so nu ty hh pa ch9 zk zl zh zp zq (nI k)) (As := [.ref h, .int 5, .int (xs (4 * t + 2)), .int (xs (4 * t + 3)), .ref o]) (rest := []) ⟨hx, hb, hml, hown, hts⟩ (c_L_pack_f l hst sa dC dI tk tw h a b0 cB cJ o cO go _ f g (nI c) zg (nI k) n hn 5 (xs (4 * t + 2)) (xs (4 * t + 3)) (by decide) (by decide) (fun z => absurd (by decide) z) (fun z => absurd z (by decide)) b9 hb9 hs9 hr9) (vx_cwSW 5 hts gL_law_L_pack rfl rfl rfl (by decide +kernel) ⟨Nat.le_of_ble_eq_true rfl, Nat.le_of_ble_eq_true rfl⟩) hKh hP hD hS hA hZ hX rfl hl.1 rfl (Nat.le_of_ble_eq_true rfl) dL_law_584 ⟨by show _ ≤ 1042; omega, by show _ ≤ 16674; omega⟩ (fun r_4 u_6 H locs hw_5 hP hD hS => ?_)
  have hP : va_P (dC, dI) vwCl ((w0 h a b0 cB cJ f g (nI n) (nI c) zg (nI k) ++ wo o cO go) ++ w1 h1 a1 b1 cI cK fb g zt (nI n) (nI c) so nu ty hh pa ch9 zk zl zh zp zq (nI k)) H := hP
  have hD : va_D (fun q : Nat => s.heap.size ≤ q) ((w0 h a b0 cB cJ f g (nI n) (nI c) zg (nI k) ++ wo o cO go) ++ w1 h1 a1 b1 cI cK fb g zt (nI n) (nI c) so nu ty hh pa ch9 zk zl zh zp zq (nI k)) := hD
  obtain rfl : r_4 = 2 := hw_5
  refine lv_istore (lv' := [(5, .int 2), (0, .ref b), (1, .ref h), (2, .ref h1), (3, .ref o), (4, .int (nI (4 * t)))]) hx hb dL_law_587 hl (by decide) rfl (fun ls hl => ?_)
  refine lv_aload_n hx hb dL_law_589 rfl (lv_at hl 3 rfl) ?_
  refine lv_aload_n hx hb dL_law_590 rfl (lv_at hl 1 rfl) ?_
  refine lv_iload hx hb dL_law_591 (lv_at hl 5 rfl) ?_
  refine lv_iconst (v := 1) hx hb dL_law_593 (by decide) ?_
  refine lv_iadd hx hb dL_law_594 ?_
  have e_7 : (nI (4 * t) + (1 : Int32)) = nI (4 * t + 1) := nI_add (4 * t) 1
  rw [e_7]
  refine va_sld hx hb hXs hbl hbA hS (vp_in_nI (by omega) (by omega)) dL_law_595 ?_
  rw [nI_clamp (by omega)]
  rw [e1]
  refine lv_aload_n hx hb dL_law_596 rfl (lv_at hl 1 rfl) ?_
  refine lv_iload hx hb dL_law_597 (lv_at hl 5 rfl) ?_
  refine lv_iconst (v := 2) hx hb dL_law_599 (by decide) ?_
  refine lv_iadd hx hb dL_law_600 ?_
  have e_8 : (nI (4 * t) + (2 : Int32)) = nI (4 * t + 2) := nI_add (4 * t) 2
  rw [e_8]
  refine va_sld hx hb hXs hbl hbA hS (vp_in_nI (by omega) (by omega)) dL_law_601 ?_
  rw [nI_clamp (by omega)]
  refine lv_aload_n hx hb dL_law_602 rfl (lv_at hl 1 rfl) ?_
  refine lv_iload hx hb dL_law_603 (lv_at hl 5 rfl) ?_
  refine lv_iconst (v := 3) hx hb dL_law_605 (by decide) ?_
  refine lv_iadd hx hb dL_law_606 ?_
  have e_9 : (nI (4 * t) + (3 : Int32)) = nI (4 * t + 3) := nI_add (4 * t) 3
  rw [e_9]
  refine va_sld hx hb hXs hbl hbA hS (vp_in_nI (by omega) (by omega)) dL_law_607 ?_
  rw [nI_clamp (by omega)]
  have hP : va_P (dC, dI) vwCl (w1 h1 a1 b1 cI cK fb g zt (nI n) (nI c) so nu ty hh pa ch9 zk zl zh zp zq (nI k) ++ (w0 h a b0 cB cJ f g (nI n) (nI c) zg (nI k) ++ wo o cO go)) H := hP.sub [4, 5, 6, 0, 1, 2, 3] rfl
  have hD : va_D (fun q : Nat => s.heap.size ≤ q) (w1 h1 a1 b1 cI cK fb g zt (nI n) (nI c) so nu ty hh pa ch9 zk zl zh zp zq (nI k) ++ (w0 h a b0 cB cJ f g (nI n) (nI c) zg (nI k) ++ wo o cO go)) := hD.sub [4, 5, 6, 0, 1, 2, 3] (by decide) rfl
  refine gji (wc := w1 h1 a1 b1 cI cK fb g zt (nI n) (nI c) so nu ty hh pa ch9 zk zl zh zp zq (nI k)) (wr := w0 h a b0 cB cJ f g (nI n) (nI c) zg (nI k) ++ wo o cO go) (As := [.int 5, .int (xs (4 * t + 2)), .int (xs (4 * t + 3))]) (rest := []) ⟨hx, hb, hml, hown, hts⟩ (c_X1_pack_5f l dC dI tk tw h1 a1 b1 cI cK _ fb g zt (nI c) so nu ty hh pa ch9 zk zl zh zp zq (nI k) n hn (xs (4 * t + 2)) (xs (4 * t + 3)) hr8) (cwV 3 hts gL_law_X1_pack rfl rfl rfl (by decide +kernel) ⟨Nat.le_of_ble_eq_true rfl, Nat.le_of_ble_eq_true rfl⟩) hKm hP hD hS hA hZ (q0 := 0) (ci := 1) rfl rfl rfl rfl hl.1 rfl (Nat.le_of_ble_eq_true rfl) dL_law_608 ⟨by show _ ≤ 1042; omega, by show _ ≤ 16674; omega⟩ (fun r_10 u_12 H locs hw_11 hP hD hS => ?_)
  have hP : va_P (dC, dI) vwCl (w1 h1 a1 b1 cI cK fb g 2 (nI n) (nI c) so nu ty hh pa ch9 zk zl zh zp zq (nI k) ++ (w0 h a b0 cB cJ f g (nI n) (nI c) zg (nI k) ++ wo o cO go)) H := hP
  have hD : va_D (fun q : Nat => s.heap.size ≤ q) (w1 h1 a1 b1 cI cK fb g 2 (nI n) (nI c) so nu ty hh pa ch9 zk zl zh zp zq (nI k) ++ (w0 h a b0 cB cJ f g (nI n) (nI c) zg (nI k) ++ wo o cO go)) := hD
  refine lv_istore (lv' := [(6, .int r_10), (5, .int 2), (0, .ref b), (1, .ref h), (2, .ref h1), (3, .ref o), (4, .int (nI (4 * t)))]) hx hb dL_law_611 hl (by decide) rfl (fun ls hl => ?_)
  refine lv_aload_n hx hb dL_law_613 rfl (lv_at hl 4 rfl) ?_
  refine gji (wc := w1 h1 a1 b1 cI cK fb g 2 (nI n) (nI c) so nu ty hh pa ch9 zk zl zh zp zq (nI k)) (wr := w0 h a b0 cB cJ f g (nI n) (nI c) zg (nI k) ++ wo o cO go) (As := []) (rest := []) ⟨hx, hb, hml, hown, hts⟩ (c_X1_thrown l dC dI tk tw h1 a1 b1 cI cK _ fb g 2 (nI n) (nI c) so nu ty hh pa ch9 zk zl zh zp zq (nI k) ) (cwV 0 hts gL_law_X1_thrown rfl rfl rfl (by decide +kernel) ⟨Nat.le_of_ble_eq_true rfl, Nat.le_of_ble_eq_true rfl⟩) hKm hP hD hS hA hZ (q0 := 0) (ci := 1) rfl rfl rfl rfl hl.1 rfl (Nat.le_of_ble_eq_true rfl) dL_law_614 ⟨by show _ ≤ 1042; omega, by show _ ≤ 16674; omega⟩ (fun r_13 u_15 H locs hw_14 hP hD hS => ?_)
  have hP : va_P (dC, dI) vwCl (w1 h1 a1 b1 cI cK fb g 2 (nI n) (nI c) so nu ty hh pa ch9 zk zl zh zp zq (nI k) ++ (w0 h a b0 cB cJ f g (nI n) (nI c) zg (nI k) ++ wo o cO go)) H := hP
  have hD : va_D (fun q : Nat => s.heap.size ≤ q) (w1 h1 a1 b1 cI cK fb g 2 (nI n) (nI c) so nu ty hh pa ch9 zk zl zh zp zq (nI k) ++ (w0 h a b0 cB cJ f g (nI n) (nI c) zg (nI k) ++ wo o cO go)) := hD
  obtain rfl : r_13 = 2 := hw_14
  refine lv_iload hx hb dL_law_617 (lv_at hl 1 rfl) ?_
  refine lv_icmp_eq (tgt := 624) hx hb dL_law_619 (by decide) (fun c_16 => ?_) (fun c_16 => ?_)
  · skip
    refine lv_iload hx hb dL_law_624 (lv_at hl 1 rfl) ?_
    refine lv_if_ne (tgt := 641) hx hb dL_law_626 (by decide) (fun c_17 => ?_) (fun c_17 => ?_)
    · skip
      refine lv_goto (tgt := 644) hx hb dL_law_641 (by decide) ?_
      have hP : va_P (dC, dI) vwCl (w0 h a b0 cB cJ f g (nI n) (nI c) zg (nI k) ++ (w1 h1 a1 b1 cI cK fb g 2 (nI n) (nI c) so nu ty hh pa ch9 zk zl zh zp zq (nI k) ++ wo o cO go)) H := hP.sub [3, 4, 5, 0, 1, 2, 6] rfl
      have hD : va_D (fun q : Nat => s.heap.size ≤ q) (w0 h a b0 cB cJ f g (nI n) (nI c) zg (nI k) ++ (w1 h1 a1 b1 cI cK fb g 2 (nI n) (nI c) so nu ty hh pa ch9 zk zl zh zp zq (nI k) ++ wo o cO go)) := hD.sub [3, 4, 5, 0, 1, 2, 6] (by decide) rfl
      refine W.widen (k := 7 + t + 1) (n := 8416 + 6 * (t + 1)) (by omega) (by omega) ?_
      exact K _ _ _ ⟨n, c, k, f, fb, g, zg, 2, so, nu, ty, hh, pa, ch9, zk, zl, zh, zp, zq, go, hn, hc, hk, hRB, hG, hP, hD, hS, lv_sub hl [2, 3, 4, 5, 6] rfl⟩
    · skip
      exact absurd c_17 (by decide)
  · skip
    exact absurd rfl c_16
set_option maxHeartbeats 4000000 in
set_option maxRecDepth 100000 in
theorem op_pack_g6 {p : Program} {e : Env} {s : State} {m : MethodId} {below : List Frame} {meth : Method} {cd : Code} {l : Launch} {b L : Nat} {xs : Nat → Int32} {dC : Nat → ClassId} {dI : Nat → Nat → Nat} {tk tw : Nat} {sa : Nat → Nat} {cB cJ cI cK cO : ClassId} {h a b0 h1 a1 b1 o t : Nat} {H : Heap} {locs : List Loc} {ls : Array Slot} (CX : LC l p s m meth cd b L xs dC dI tk tw sa cB cJ cI cK cO) (ht4 : 4 * t + 4 ≤ L) (K : ∀ (H : Heap) (locs : List Loc) (ls : Array Slot), LI s b dC dI h a b0 cB cJ h1 a1 b1 cI cK o cO t H locs ls → W p l e room_1 s m #[Value.ref b] below meth cd H locs (7 + t + 1) (8416 + 6 * (t + 1)) (lw_Z below #[Value.ref b] s) (F0 m 644 ls [])) (n : Nat) (c : Nat) (k : Nat) (f : Nat → Int32) (fb : Nat → Int32) (g : Nat → Int64) (zg : Int32) (zt : Int32) (so : Int32) (nu : Int64) (ty : Int32) (hh : Int32) (pa : Int64) (ch9 : Int64) (zk : Int32) (zl : Int32) (zh : Int32) (zp : Int32) (zq : Int32) (go : Nat → Int64) (hn : n ≤ 4096) (hc : c ≤ n) (hk : k ≤ 100) (hRB : RB n f fb) (hG : GV f c zg zk zl zh zp zq) (hP : va_P (dC, dI) vwCl (w0 h a b0 cB cJ f g (nI n) (nI c) zg (nI k) ++ (w1 h1 a1 b1 cI cK fb g zt (nI n) (nI c) so nu ty hh pa ch9 zk zl zh zp zq (nI k) ++ wo o cO go)) H) (hD : va_D (fun q : Nat => s.heap.size ≤ q) (w0 h a b0 cB cJ f g (nI n) (nI c) zg (nI k) ++ (w1 h1 a1 b1 cI cK fb g zt (nI n) (nI c) so nu ty hh pa ch9 zk zl zh zp zq (nI k) ++ wo o cO go))) (hS : va_S (fun q : Nat => s.heap.size ≤ q) s.heap H locs) (hl : lv_has ls 8 [(0, .ref b), (1, .ref h), (2, .ref h1), (3, .ref o), (4, .int (nI (4 * t)))]) (e1 : xs (4 * t + 1) = 6) (hr8 : n + phL (pk6 (xs (4 * t + 2)) (xs (4 * t + 3))) ≤ 4096) : W p l e room_1 s m #[Value.ref b] below meth cd H locs (7 + t) (8416 + 6 * t) (lw_Z below #[Value.ref b] s) (F0 m 564 ls []) := by
  obtain ⟨⟨hx, hb, hr, hml, hown, hts, hXs, hbl, hlocks⟩, hst, hL, hK, hZ, hX⟩ := CX
  have hA : ∀ q : Nat, s.heap.size ≤ q → (fun q : Nat => s.heap.size ≤ q) q := fun _ h => h
  have hbA : ¬ (fun q : Nat => s.heap.size ≤ q) b := Nat.not_le.mpr hbl
  have hKx := hK.sub (tys' := t0 cB cJ) [0, 1] rfl
  have hKm := hK.sub (tys' := t1 cI cK) [2, 3] rfl
  have hKh := hK.sub (tys' := th cB cJ cO) [0, 1, 4] rfl
  obtain ⟨b9, hb9, hs9, t1, t2, t3, t4⟩ := pkE_6 (xs (4 * t + 2)) (xs (4 * t + 3))
  obtain ⟨z1, z2⟩ := RB_pack (k := 6) (lo := (xs (4 * t + 2))) (hi := (xs (4 * t + 3))) (T := (pk6 (xs (4 * t + 2)) (xs (4 * t + 3)))) hb9 hRB t1 t2 t3 t4
  have hr9 : n + hd b9 ≤ 4096 := by rw [← z1]; exact hr8
  refine lv_aload_n hx hb dL_law_564 rfl (lv_at hl 1 rfl) ?_
  refine lv_aload_n hx hb dL_law_565 rfl (lv_at hl 0 rfl) ?_
  refine lv_iload hx hb dL_law_566 (lv_at hl 4 rfl) ?_
  refine lv_iconst (v := 1) hx hb dL_law_568 (by decide) ?_
  refine lv_iadd hx hb dL_law_569 ?_
  have e_1 : (nI (4 * t) + (1 : Int32)) = nI (4 * t + 1) := nI_add (4 * t) 1
  rw [e_1]
  refine va_sld hx hb hXs hbl hbA hS (vp_in_nI (by omega) (by omega)) dL_law_570 ?_
  rw [nI_clamp (by omega)]
  rw [e1]
  refine lv_aload_n hx hb dL_law_571 rfl (lv_at hl 0 rfl) ?_
  refine lv_iload hx hb dL_law_572 (lv_at hl 4 rfl) ?_
  refine lv_iconst (v := 2) hx hb dL_law_574 (by decide) ?_
  refine lv_iadd hx hb dL_law_575 ?_
  have e_2 : (nI (4 * t) + (2 : Int32)) = nI (4 * t + 2) := nI_add (4 * t) 2
  rw [e_2]
  refine va_sld hx hb hXs hbl hbA hS (vp_in_nI (by omega) (by omega)) dL_law_576 ?_
  rw [nI_clamp (by omega)]
  refine lv_aload_n hx hb dL_law_577 rfl (lv_at hl 0 rfl) ?_
  refine lv_iload hx hb dL_law_578 (lv_at hl 4 rfl) ?_
  refine lv_iconst (v := 3) hx hb dL_law_580 (by decide) ?_
  refine lv_iadd hx hb dL_law_581 ?_
  have e_3 : (nI (4 * t) + (3 : Int32)) = nI (4 * t + 3) := nI_add (4 * t) 3
  rw [e_3]
  refine va_sld hx hb hXs hbl hbA hS (vp_in_nI (by omega) (by omega)) dL_law_582 ?_
  rw [nI_clamp (by omega)]
  refine lv_aload_n hx hb dL_law_583 rfl (lv_at hl 3 rfl) ?_
  have hP : va_P (dC, dI) vwCl ((w0 h a b0 cB cJ f g (nI n) (nI c) zg (nI k) ++ wo o cO go) ++ w1 h1 a1 b1 cI cK fb g zt (nI n) (nI c) so nu ty hh pa ch9 zk zl zh zp zq (nI k)) H := hP.sub [0, 1, 2, 6, 3, 4, 5] rfl
  have hD : va_D (fun q : Nat => s.heap.size ≤ q) ((w0 h a b0 cB cJ f g (nI n) (nI c) zg (nI k) ++ wo o cO go) ++ w1 h1 a1 b1 cI cK fb g zt (nI n) (nI c) so nu ty hh pa ch9 zk zl zh zp zq (nI k)) := hD.sub [0, 1, 2, 6, 3, 4, 5] (by decide) rfl
  refine ghi (wc := w0 h a b0 cB cJ f g (nI n) (nI c) zg (nI k) ++ wo o cO go) (wr := w1 h1 a1 b1 cI cK fb g zt (nI n) (nI c) so nu ty hh pa ch9 zk zl zh zp zq (nI k)) (As := [.ref h, .int 6, .int (xs (4 * t + 2)), .int (xs (4 * t + 3)), .ref o]) (rest := []) ⟨hx, hb, hml, hown, hts⟩ (c_L_pack l hst sa dC dI tk tw h a b0 cB cJ o cO go _ f g (nI c) zg (nI k) n 6 (xs (4 * t + 2)) (xs (4 * t + 3)) (by decide) (by decide) (fun z => absurd (by decide) z) (fun z => absurd z (by decide)) b9 hb9 hs9 hr9) (vx_cwSW 5 hts gL_law_L_pack rfl rfl rfl (by decide +kernel) ⟨Nat.le_of_ble_eq_true rfl, Nat.le_of_ble_eq_true rfl⟩) hKh hP hD hS hA hZ hX rfl hl.1 rfl (Nat.le_of_ble_eq_true rfl) dL_law_584 ⟨by show _ ≤ 1042; omega, by show _ ≤ 16674; omega⟩ (fun r_4 u_6 H locs hw_5 hP hD hS => ?_)
  have hP : va_P (dC, dI) vwCl ((w0 h a b0 cB cJ (apR (apR (apR f n (nI b9).toInt64 1) (n + 1) (nO 6 (xs (4 * t + 2)) (xs (4 * t + 3))) (wd b9)) (n + 1 + wd b9) (xs (4 * t + 3)).toInt64 (tW b9)) g (nI (n + hd b9)) (nI c) zg (nI k) ++ wo o cO (vp_updL go 0 ((nI (hd b9)).toInt64))) ++ w1 h1 a1 b1 cI cK fb g zt (nI n) (nI c) so nu ty hh pa ch9 zk zl zh zp zq (nI k)) H := hP
  have hD : va_D (fun q : Nat => s.heap.size ≤ q) ((w0 h a b0 cB cJ (apR (apR (apR f n (nI b9).toInt64 1) (n + 1) (nO 6 (xs (4 * t + 2)) (xs (4 * t + 3))) (wd b9)) (n + 1 + wd b9) (xs (4 * t + 3)).toInt64 (tW b9)) g (nI (n + hd b9)) (nI c) zg (nI k) ++ wo o cO (vp_updL go 0 ((nI (hd b9)).toInt64))) ++ w1 h1 a1 b1 cI cK fb g zt (nI n) (nI c) so nu ty hh pa ch9 zk zl zh zp zq (nI k)) := hD
  obtain rfl : r_4 = 0 := hw_5
  refine lv_istore (lv' := [(5, .int 0), (0, .ref b), (1, .ref h), (2, .ref h1), (3, .ref o), (4, .int (nI (4 * t)))]) hx hb dL_law_587 hl (by decide) rfl (fun ls hl => ?_)
  refine lv_aload_n hx hb dL_law_589 rfl (lv_at hl 3 rfl) ?_
  refine lv_aload_n hx hb dL_law_590 rfl (lv_at hl 1 rfl) ?_
  refine lv_iload hx hb dL_law_591 (lv_at hl 5 rfl) ?_
  refine lv_iconst (v := 1) hx hb dL_law_593 (by decide) ?_
  refine lv_iadd hx hb dL_law_594 ?_
  have e_7 : (nI (4 * t) + (1 : Int32)) = nI (4 * t + 1) := nI_add (4 * t) 1
  rw [e_7]
  refine va_sld hx hb hXs hbl hbA hS (vp_in_nI (by omega) (by omega)) dL_law_595 ?_
  rw [nI_clamp (by omega)]
  rw [e1]
  refine lv_aload_n hx hb dL_law_596 rfl (lv_at hl 1 rfl) ?_
  refine lv_iload hx hb dL_law_597 (lv_at hl 5 rfl) ?_
  refine lv_iconst (v := 2) hx hb dL_law_599 (by decide) ?_
  refine lv_iadd hx hb dL_law_600 ?_
  have e_8 : (nI (4 * t) + (2 : Int32)) = nI (4 * t + 2) := nI_add (4 * t) 2
  rw [e_8]
  refine va_sld hx hb hXs hbl hbA hS (vp_in_nI (by omega) (by omega)) dL_law_601 ?_
  rw [nI_clamp (by omega)]
  refine lv_aload_n hx hb dL_law_602 rfl (lv_at hl 1 rfl) ?_
  refine lv_iload hx hb dL_law_603 (lv_at hl 5 rfl) ?_
  refine lv_iconst (v := 3) hx hb dL_law_605 (by decide) ?_
  refine lv_iadd hx hb dL_law_606 ?_
  have e_9 : (nI (4 * t) + (3 : Int32)) = nI (4 * t + 3) := nI_add (4 * t) 3
  rw [e_9]
  refine va_sld hx hb hXs hbl hbA hS (vp_in_nI (by omega) (by omega)) dL_law_607 ?_
  rw [nI_clamp (by omega)]
  have hP : va_P (dC, dI) vwCl (w1 h1 a1 b1 cI cK fb g zt (nI n) (nI c) so nu ty hh pa ch9 zk zl zh zp zq (nI k) ++ (w0 h a b0 cB cJ (apR (apR (apR f n (nI b9).toInt64 1) (n + 1) (nO 6 (xs (4 * t + 2)) (xs (4 * t + 3))) (wd b9)) (n + 1 + wd b9) (xs (4 * t + 3)).toInt64 (tW b9)) g (nI (n + hd b9)) (nI c) zg (nI k) ++ wo o cO (vp_updL go 0 ((nI (hd b9)).toInt64)))) H := hP.sub [4, 5, 6, 0, 1, 2, 3] rfl
  have hD : va_D (fun q : Nat => s.heap.size ≤ q) (w1 h1 a1 b1 cI cK fb g zt (nI n) (nI c) so nu ty hh pa ch9 zk zl zh zp zq (nI k) ++ (w0 h a b0 cB cJ (apR (apR (apR f n (nI b9).toInt64 1) (n + 1) (nO 6 (xs (4 * t + 2)) (xs (4 * t + 3))) (wd b9)) (n + 1 + wd b9) (xs (4 * t + 3)).toInt64 (tW b9)) g (nI (n + hd b9)) (nI c) zg (nI k) ++ wo o cO (vp_updL go 0 ((nI (hd b9)).toInt64)))) := hD.sub [4, 5, 6, 0, 1, 2, 3] (by decide) rfl
  refine gji (wc := w1 h1 a1 b1 cI cK fb g zt (nI n) (nI c) so nu ty hh pa ch9 zk zl zh zp zq (nI k)) (wr := w0 h a b0 cB cJ (apR (apR (apR f n (nI b9).toInt64 1) (n + 1) (nO 6 (xs (4 * t + 2)) (xs (4 * t + 3))) (wd b9)) (n + 1 + wd b9) (xs (4 * t + 3)).toInt64 (tW b9)) g (nI (n + hd b9)) (nI c) zg (nI k) ++ wo o cO (vp_updL go 0 ((nI (hd b9)).toInt64))) (As := [.int 6, .int (xs (4 * t + 2)), .int (xs (4 * t + 3))]) (rest := []) ⟨hx, hb, hml, hown, hts⟩ (c_X1_pack_6 l dC dI tk tw h1 a1 b1 cI cK _ fb g zt (nI c) so nu ty hh pa ch9 zk zl zh zp zq (nI k) n (xs (4 * t + 2)) (xs (4 * t + 3)) hr8) (cwV 3 hts gL_law_X1_pack rfl rfl rfl (by decide +kernel) ⟨Nat.le_of_ble_eq_true rfl, Nat.le_of_ble_eq_true rfl⟩) hKm hP hD hS hA hZ (q0 := 0) (ci := 1) rfl rfl rfl rfl hl.1 rfl (Nat.le_of_ble_eq_true rfl) dL_law_608 ⟨by show _ ≤ 1042; omega, by show _ ≤ 16674; omega⟩ (fun r_10 u_12 H locs hw_11 hP hD hS => ?_)
  have hP : va_P (dC, dI) vwCl (w1 h1 a1 b1 cI cK (phF fb n (pk6 (xs (4 * t + 2)) (xs (4 * t + 3)))) g 0 (nI (n + phL (pk6 (xs (4 * t + 2)) (xs (4 * t + 3))))) (nI c) so nu ty hh pa ch9 zk zl zh zp zq (nI k) ++ (w0 h a b0 cB cJ (apR (apR (apR f n (nI b9).toInt64 1) (n + 1) (nO 6 (xs (4 * t + 2)) (xs (4 * t + 3))) (wd b9)) (n + 1 + wd b9) (xs (4 * t + 3)).toInt64 (tW b9)) g (nI (n + hd b9)) (nI c) zg (nI k) ++ wo o cO (vp_updL go 0 ((nI (hd b9)).toInt64)))) H := hP
  have hD : va_D (fun q : Nat => s.heap.size ≤ q) (w1 h1 a1 b1 cI cK (phF fb n (pk6 (xs (4 * t + 2)) (xs (4 * t + 3)))) g 0 (nI (n + phL (pk6 (xs (4 * t + 2)) (xs (4 * t + 3))))) (nI c) so nu ty hh pa ch9 zk zl zh zp zq (nI k) ++ (w0 h a b0 cB cJ (apR (apR (apR f n (nI b9).toInt64 1) (n + 1) (nO 6 (xs (4 * t + 2)) (xs (4 * t + 3))) (wd b9)) (n + 1 + wd b9) (xs (4 * t + 3)).toInt64 (tW b9)) g (nI (n + hd b9)) (nI c) zg (nI k) ++ wo o cO (vp_updL go 0 ((nI (hd b9)).toInt64)))) := hD
  obtain rfl : r_10 = nI (phL (pk6 (xs (4 * t + 2)) (xs (4 * t + 3)))) := hw_11
  rw [z1] at hP hD
  have hP : va_P (dC, dI) vwCl (w1 h1 a1 b1 cI cK (phF fb n (pk6 (xs (4 * t + 2)) (xs (4 * t + 3)))) g 0 (nI (n + hd b9)) (nI c) so nu ty hh pa ch9 zk zl zh zp zq (nI k) ++ (w0 h a b0 cB cJ (apR (apR (apR f n (nI b9).toInt64 1) (n + 1) (nO 6 (xs (4 * t + 2)) (xs (4 * t + 3))) (wd b9)) (n + 1 + wd b9) (xs (4 * t + 3)).toInt64 (tW b9)) g (nI (n + hd b9)) (nI c) zg (nI k) ++ wo o cO (vp_updL go 0 ((nI (hd b9)).toInt64)))) H := hP
  have hD : va_D (fun q : Nat => s.heap.size ≤ q) (w1 h1 a1 b1 cI cK (phF fb n (pk6 (xs (4 * t + 2)) (xs (4 * t + 3)))) g 0 (nI (n + hd b9)) (nI c) so nu ty hh pa ch9 zk zl zh zp zq (nI k) ++ (w0 h a b0 cB cJ (apR (apR (apR f n (nI b9).toInt64 1) (n + 1) (nO 6 (xs (4 * t + 2)) (xs (4 * t + 3))) (wd b9)) (n + 1 + wd b9) (xs (4 * t + 3)).toInt64 (tW b9)) g (nI (n + hd b9)) (nI c) zg (nI k) ++ wo o cO (vp_updL go 0 ((nI (hd b9)).toInt64)))) := hD
  refine lv_istore (lv' := [(6, .int (nI (phL (pk6 (xs (4 * t + 2)) (xs (4 * t + 3)))))), (5, .int 0), (0, .ref b), (1, .ref h), (2, .ref h1), (3, .ref o), (4, .int (nI (4 * t)))]) hx hb dL_law_611 hl (by decide) rfl (fun ls hl => ?_)
  refine lv_aload_n hx hb dL_law_613 rfl (lv_at hl 4 rfl) ?_
  refine gji (wc := w1 h1 a1 b1 cI cK (phF fb n (pk6 (xs (4 * t + 2)) (xs (4 * t + 3)))) g 0 (nI (n + hd b9)) (nI c) so nu ty hh pa ch9 zk zl zh zp zq (nI k)) (wr := w0 h a b0 cB cJ (apR (apR (apR f n (nI b9).toInt64 1) (n + 1) (nO 6 (xs (4 * t + 2)) (xs (4 * t + 3))) (wd b9)) (n + 1 + wd b9) (xs (4 * t + 3)).toInt64 (tW b9)) g (nI (n + hd b9)) (nI c) zg (nI k) ++ wo o cO (vp_updL go 0 ((nI (hd b9)).toInt64))) (As := []) (rest := []) ⟨hx, hb, hml, hown, hts⟩ (c_X1_thrown l dC dI tk tw h1 a1 b1 cI cK _ (phF fb n (pk6 (xs (4 * t + 2)) (xs (4 * t + 3)))) g 0 (nI (n + hd b9)) (nI c) so nu ty hh pa ch9 zk zl zh zp zq (nI k) ) (cwV 0 hts gL_law_X1_thrown rfl rfl rfl (by decide +kernel) ⟨Nat.le_of_ble_eq_true rfl, Nat.le_of_ble_eq_true rfl⟩) hKm hP hD hS hA hZ (q0 := 0) (ci := 1) rfl rfl rfl rfl hl.1 rfl (Nat.le_of_ble_eq_true rfl) dL_law_614 ⟨by show _ ≤ 1042; omega, by show _ ≤ 16674; omega⟩ (fun r_13 u_15 H locs hw_14 hP hD hS => ?_)
  have hP : va_P (dC, dI) vwCl (w1 h1 a1 b1 cI cK (phF fb n (pk6 (xs (4 * t + 2)) (xs (4 * t + 3)))) g 0 (nI (n + hd b9)) (nI c) so nu ty hh pa ch9 zk zl zh zp zq (nI k) ++ (w0 h a b0 cB cJ (apR (apR (apR f n (nI b9).toInt64 1) (n + 1) (nO 6 (xs (4 * t + 2)) (xs (4 * t + 3))) (wd b9)) (n + 1 + wd b9) (xs (4 * t + 3)).toInt64 (tW b9)) g (nI (n + hd b9)) (nI c) zg (nI k) ++ wo o cO (vp_updL go 0 ((nI (hd b9)).toInt64)))) H := hP
  have hD : va_D (fun q : Nat => s.heap.size ≤ q) (w1 h1 a1 b1 cI cK (phF fb n (pk6 (xs (4 * t + 2)) (xs (4 * t + 3)))) g 0 (nI (n + hd b9)) (nI c) so nu ty hh pa ch9 zk zl zh zp zq (nI k) ++ (w0 h a b0 cB cJ (apR (apR (apR f n (nI b9).toInt64 1) (n + 1) (nO 6 (xs (4 * t + 2)) (xs (4 * t + 3))) (wd b9)) (n + 1 + wd b9) (xs (4 * t + 3)).toInt64 (tW b9)) g (nI (n + hd b9)) (nI c) zg (nI k) ++ wo o cO (vp_updL go 0 ((nI (hd b9)).toInt64)))) := hD
  obtain rfl : r_13 = 0 := hw_14
  refine lv_iload hx hb dL_law_617 (lv_at hl 1 rfl) ?_
  refine lv_icmp_eq (tgt := 624) hx hb dL_law_619 (by decide) (fun c_16 => ?_) (fun c_16 => ?_)
  · skip
    refine lv_iload hx hb dL_law_624 (lv_at hl 1 rfl) ?_
    refine lv_if_ne (tgt := 641) hx hb dL_law_626 (by decide) (fun c_17 => ?_) (fun c_17 => ?_)
    · skip
      exact absurd (by decide) c_17
    · skip
      refine lv_aload_n hx hb dL_law_629 rfl (lv_at hl 5 rfl) ?_
      refine lv_iconst (v := 0) hx hb dL_law_630 (by decide) ?_
      refine va_lald hx hb hK hP 6 4 rfl rfl vp01 dL_law_631 ?_
      have e_18 : (vp_updL go 0 ((nI (hd b9)).toInt64) (0 : Int32).toNatClampNeg : Int64) = ((nI (hd b9)).toInt64) := pk_uLs
      rw [e_18]
      refine lv_iload hx hb dL_law_632 (lv_at hl 0 rfl) ?_
      refine lv_i2l hx hb dL_law_634 rfl ?_
      refine W.lcmp hx hb dL_law_635 ?_
      refine lv_if_eq (tgt := 641) hx hb dL_law_636 (by decide) (fun c_19 => ?_) (fun c_19 => ?_)
      · skip
        have c_19 := (lg_cmp_eq ((nI (hd b9)).toInt64) ((nI (phL (pk6 (xs (4 * t + 2)) (xs (4 * t + 3))))).toInt64)).mp c_19
        refine lv_goto (tgt := 644) hx hb dL_law_641 (by decide) ?_
        have hP : va_P (dC, dI) vwCl (w0 h a b0 cB cJ (apR (apR (apR f n (nI b9).toInt64 1) (n + 1) (nO 6 (xs (4 * t + 2)) (xs (4 * t + 3))) (wd b9)) (n + 1 + wd b9) (xs (4 * t + 3)).toInt64 (tW b9)) g (nI (n + hd b9)) (nI c) zg (nI k) ++ (w1 h1 a1 b1 cI cK (phF fb n (pk6 (xs (4 * t + 2)) (xs (4 * t + 3)))) g 0 (nI (n + hd b9)) (nI c) so nu ty hh pa ch9 zk zl zh zp zq (nI k) ++ wo o cO (vp_updL go 0 ((nI (hd b9)).toInt64)))) H := hP.sub [3, 4, 5, 0, 1, 2, 6] rfl
        have hD : va_D (fun q : Nat => s.heap.size ≤ q) (w0 h a b0 cB cJ (apR (apR (apR f n (nI b9).toInt64 1) (n + 1) (nO 6 (xs (4 * t + 2)) (xs (4 * t + 3))) (wd b9)) (n + 1 + wd b9) (xs (4 * t + 3)).toInt64 (tW b9)) g (nI (n + hd b9)) (nI c) zg (nI k) ++ (w1 h1 a1 b1 cI cK (phF fb n (pk6 (xs (4 * t + 2)) (xs (4 * t + 3)))) g 0 (nI (n + hd b9)) (nI c) so nu ty hh pa ch9 zk zl zh zp zq (nI k) ++ wo o cO (vp_updL go 0 ((nI (hd b9)).toInt64)))) := hD.sub [3, 4, 5, 0, 1, 2, 6] (by decide) rfl
        refine W.widen (k := 7 + t + 1) (n := 8416 + 6 * (t + 1)) (by omega) (by omega) ?_
        exact K _ _ _ ⟨n + hd b9, c, k, apR (apR (apR f n (nI b9).toInt64 1) (n + 1) (nO 6 (xs (4 * t + 2)) (xs (4 * t + 3))) (wd b9)) (n + 1 + wd b9) (xs (4 * t + 3)).toInt64 (tW b9), phF fb n (pk6 (xs (4 * t + 2)) (xs (4 * t + 3))), g, zg, 0, so, nu, ty, hh, pa, ch9, zk, zl, zh, zp, zq, vp_updL go 0 ((nI (hd b9)).toInt64), hr9, (by omega), hk, z2, (GV_mono hG (fun j hj => by rw [apR_lo _ _ _ _ (by omega), apR_lo _ _ _ _ (by omega), apR_lo _ _ _ _ (by omega)]) (Nat.le_refl _)), hP, hD, hS, lv_sub hl [2, 3, 4, 5, 6] rfl⟩
      · skip
        have c_19 := (not_congr (lg_cmp_eq ((nI (hd b9)).toInt64) ((nI (phL (pk6 (xs (4 * t + 2)) (xs (4 * t + 3))))).toInt64))).mp c_19
        exact absurd (by rw [z1]) c_19
  · skip
    exact absurd rfl c_16
set_option maxHeartbeats 4000000 in
set_option maxRecDepth 100000 in
theorem op_pack_f6 {p : Program} {e : Env} {s : State} {m : MethodId} {below : List Frame} {meth : Method} {cd : Code} {l : Launch} {b L : Nat} {xs : Nat → Int32} {dC : Nat → ClassId} {dI : Nat → Nat → Nat} {tk tw : Nat} {sa : Nat → Nat} {cB cJ cI cK cO : ClassId} {h a b0 h1 a1 b1 o t : Nat} {H : Heap} {locs : List Loc} {ls : Array Slot} (CX : LC l p s m meth cd b L xs dC dI tk tw sa cB cJ cI cK cO) (ht4 : 4 * t + 4 ≤ L) (K : ∀ (H : Heap) (locs : List Loc) (ls : Array Slot), LI s b dC dI h a b0 cB cJ h1 a1 b1 cI cK o cO t H locs ls → W p l e room_1 s m #[Value.ref b] below meth cd H locs (7 + t + 1) (8416 + 6 * (t + 1)) (lw_Z below #[Value.ref b] s) (F0 m 644 ls [])) (n : Nat) (c : Nat) (k : Nat) (f : Nat → Int32) (fb : Nat → Int32) (g : Nat → Int64) (zg : Int32) (zt : Int32) (so : Int32) (nu : Int64) (ty : Int32) (hh : Int32) (pa : Int64) (ch9 : Int64) (zk : Int32) (zl : Int32) (zh : Int32) (zp : Int32) (zq : Int32) (go : Nat → Int64) (hn : n ≤ 4096) (hc : c ≤ n) (hk : k ≤ 100) (hRB : RB n f fb) (hG : GV f c zg zk zl zh zp zq) (hP : va_P (dC, dI) vwCl (w0 h a b0 cB cJ f g (nI n) (nI c) zg (nI k) ++ (w1 h1 a1 b1 cI cK fb g zt (nI n) (nI c) so nu ty hh pa ch9 zk zl zh zp zq (nI k) ++ wo o cO go)) H) (hD : va_D (fun q : Nat => s.heap.size ≤ q) (w0 h a b0 cB cJ f g (nI n) (nI c) zg (nI k) ++ (w1 h1 a1 b1 cI cK fb g zt (nI n) (nI c) so nu ty hh pa ch9 zk zl zh zp zq (nI k) ++ wo o cO go))) (hS : va_S (fun q : Nat => s.heap.size ≤ q) s.heap H locs) (hl : lv_has ls 8 [(0, .ref b), (1, .ref h), (2, .ref h1), (3, .ref o), (4, .int (nI (4 * t)))]) (e1 : xs (4 * t + 1) = 6) (hr8 : 4096 < n + phL (pk6 (xs (4 * t + 2)) (xs (4 * t + 3)))) : W p l e room_1 s m #[Value.ref b] below meth cd H locs (7 + t) (8416 + 6 * t) (lw_Z below #[Value.ref b] s) (F0 m 564 ls []) := by
  obtain ⟨⟨hx, hb, hr, hml, hown, hts, hXs, hbl, hlocks⟩, hst, hL, hK, hZ, hX⟩ := CX
  have hA : ∀ q : Nat, s.heap.size ≤ q → (fun q : Nat => s.heap.size ≤ q) q := fun _ h => h
  have hbA : ¬ (fun q : Nat => s.heap.size ≤ q) b := Nat.not_le.mpr hbl
  have hKx := hK.sub (tys' := t0 cB cJ) [0, 1] rfl
  have hKm := hK.sub (tys' := t1 cI cK) [2, 3] rfl
  have hKh := hK.sub (tys' := th cB cJ cO) [0, 1, 4] rfl
  obtain ⟨b9, hb9, hs9, t1, t2, t3, t4⟩ := pkE_6 (xs (4 * t + 2)) (xs (4 * t + 3))
  obtain ⟨z1, z2⟩ := RB_pack (k := 6) (lo := (xs (4 * t + 2))) (hi := (xs (4 * t + 3))) (T := (pk6 (xs (4 * t + 2)) (xs (4 * t + 3)))) hb9 hRB t1 t2 t3 t4
  have hr9 : 4096 < n + hd b9 := by rw [← z1]; exact hr8
  refine lv_aload_n hx hb dL_law_564 rfl (lv_at hl 1 rfl) ?_
  refine lv_aload_n hx hb dL_law_565 rfl (lv_at hl 0 rfl) ?_
  refine lv_iload hx hb dL_law_566 (lv_at hl 4 rfl) ?_
  refine lv_iconst (v := 1) hx hb dL_law_568 (by decide) ?_
  refine lv_iadd hx hb dL_law_569 ?_
  have e_1 : (nI (4 * t) + (1 : Int32)) = nI (4 * t + 1) := nI_add (4 * t) 1
  rw [e_1]
  refine va_sld hx hb hXs hbl hbA hS (vp_in_nI (by omega) (by omega)) dL_law_570 ?_
  rw [nI_clamp (by omega)]
  rw [e1]
  refine lv_aload_n hx hb dL_law_571 rfl (lv_at hl 0 rfl) ?_
  refine lv_iload hx hb dL_law_572 (lv_at hl 4 rfl) ?_
  refine lv_iconst (v := 2) hx hb dL_law_574 (by decide) ?_
  refine lv_iadd hx hb dL_law_575 ?_
  have e_2 : (nI (4 * t) + (2 : Int32)) = nI (4 * t + 2) := nI_add (4 * t) 2
  rw [e_2]
  refine va_sld hx hb hXs hbl hbA hS (vp_in_nI (by omega) (by omega)) dL_law_576 ?_
  rw [nI_clamp (by omega)]
  refine lv_aload_n hx hb dL_law_577 rfl (lv_at hl 0 rfl) ?_
  refine lv_iload hx hb dL_law_578 (lv_at hl 4 rfl) ?_
  refine lv_iconst (v := 3) hx hb dL_law_580 (by decide) ?_
  refine lv_iadd hx hb dL_law_581 ?_
  have e_3 : (nI (4 * t) + (3 : Int32)) = nI (4 * t + 3) := nI_add (4 * t) 3
  rw [e_3]
  refine va_sld hx hb hXs hbl hbA hS (vp_in_nI (by omega) (by omega)) dL_law_582 ?_
  rw [nI_clamp (by omega)]
  refine lv_aload_n hx hb dL_law_583 rfl (lv_at hl 3 rfl) ?_
  have hP : va_P (dC, dI) vwCl ((w0 h a b0 cB cJ f g (nI n) (nI c) zg (nI k) ++ wo o cO go) ++ w1 h1 a1 b1 cI cK fb g zt (nI n) (nI c) so nu ty hh pa ch9 zk zl zh zp zq (nI k)) H := hP.sub [0, 1, 2, 6, 3, 4, 5] rfl
  have hD : va_D (fun q : Nat => s.heap.size ≤ q) ((w0 h a b0 cB cJ f g (nI n) (nI c) zg (nI k) ++ wo o cO go) ++ w1 h1 a1 b1 cI cK fb g zt (nI n) (nI c) so nu ty hh pa ch9 zk zl zh zp zq (nI k)) := hD.sub [0, 1, 2, 6, 3, 4, 5] (by decide) rfl
  refine ghi (wc := w0 h a b0 cB cJ f g (nI n) (nI c) zg (nI k) ++ wo o cO go) (wr := w1 h1 a1 b1 cI cK fb g zt (nI n) (nI c) so nu ty hh pa ch9 zk zl zh zp zq (nI k)) (As := [.ref h, .int 6, .int (xs (4 * t + 2)), .int (xs (4 * t + 3)), .ref o]) (rest := []) ⟨hx, hb, hml, hown, hts⟩ (c_L_pack_f l hst sa dC dI tk tw h a b0 cB cJ o cO go _ f g (nI c) zg (nI k) n hn 6 (xs (4 * t + 2)) (xs (4 * t + 3)) (by decide) (by decide) (fun z => absurd (by decide) z) (fun z => absurd z (by decide)) b9 hb9 hs9 hr9) (vx_cwSW 5 hts gL_law_L_pack rfl rfl rfl (by decide +kernel) ⟨Nat.le_of_ble_eq_true rfl, Nat.le_of_ble_eq_true rfl⟩) hKh hP hD hS hA hZ hX rfl hl.1 rfl (Nat.le_of_ble_eq_true rfl) dL_law_584 ⟨by show _ ≤ 1042; omega, by show _ ≤ 16674; omega⟩ (fun r_4 u_6 H locs hw_5 hP hD hS => ?_)
  have hP : va_P (dC, dI) vwCl ((w0 h a b0 cB cJ f g (nI n) (nI c) zg (nI k) ++ wo o cO go) ++ w1 h1 a1 b1 cI cK fb g zt (nI n) (nI c) so nu ty hh pa ch9 zk zl zh zp zq (nI k)) H := hP
  have hD : va_D (fun q : Nat => s.heap.size ≤ q) ((w0 h a b0 cB cJ f g (nI n) (nI c) zg (nI k) ++ wo o cO go) ++ w1 h1 a1 b1 cI cK fb g zt (nI n) (nI c) so nu ty hh pa ch9 zk zl zh zp zq (nI k)) := hD
  obtain rfl : r_4 = 2 := hw_5
  refine lv_istore (lv' := [(5, .int 2), (0, .ref b), (1, .ref h), (2, .ref h1), (3, .ref o), (4, .int (nI (4 * t)))]) hx hb dL_law_587 hl (by decide) rfl (fun ls hl => ?_)
  refine lv_aload_n hx hb dL_law_589 rfl (lv_at hl 3 rfl) ?_
  refine lv_aload_n hx hb dL_law_590 rfl (lv_at hl 1 rfl) ?_
  refine lv_iload hx hb dL_law_591 (lv_at hl 5 rfl) ?_
  refine lv_iconst (v := 1) hx hb dL_law_593 (by decide) ?_
  refine lv_iadd hx hb dL_law_594 ?_
  have e_7 : (nI (4 * t) + (1 : Int32)) = nI (4 * t + 1) := nI_add (4 * t) 1
  rw [e_7]
  refine va_sld hx hb hXs hbl hbA hS (vp_in_nI (by omega) (by omega)) dL_law_595 ?_
  rw [nI_clamp (by omega)]
  rw [e1]
  refine lv_aload_n hx hb dL_law_596 rfl (lv_at hl 1 rfl) ?_
  refine lv_iload hx hb dL_law_597 (lv_at hl 5 rfl) ?_
  refine lv_iconst (v := 2) hx hb dL_law_599 (by decide) ?_
  refine lv_iadd hx hb dL_law_600 ?_
  have e_8 : (nI (4 * t) + (2 : Int32)) = nI (4 * t + 2) := nI_add (4 * t) 2
  rw [e_8]
  refine va_sld hx hb hXs hbl hbA hS (vp_in_nI (by omega) (by omega)) dL_law_601 ?_
  rw [nI_clamp (by omega)]
  refine lv_aload_n hx hb dL_law_602 rfl (lv_at hl 1 rfl) ?_
  refine lv_iload hx hb dL_law_603 (lv_at hl 5 rfl) ?_
  refine lv_iconst (v := 3) hx hb dL_law_605 (by decide) ?_
  refine lv_iadd hx hb dL_law_606 ?_
  have e_9 : (nI (4 * t) + (3 : Int32)) = nI (4 * t + 3) := nI_add (4 * t) 3
  rw [e_9]
  refine va_sld hx hb hXs hbl hbA hS (vp_in_nI (by omega) (by omega)) dL_law_607 ?_
  rw [nI_clamp (by omega)]
  have hP : va_P (dC, dI) vwCl (w1 h1 a1 b1 cI cK fb g zt (nI n) (nI c) so nu ty hh pa ch9 zk zl zh zp zq (nI k) ++ (w0 h a b0 cB cJ f g (nI n) (nI c) zg (nI k) ++ wo o cO go)) H := hP.sub [4, 5, 6, 0, 1, 2, 3] rfl
  have hD : va_D (fun q : Nat => s.heap.size ≤ q) (w1 h1 a1 b1 cI cK fb g zt (nI n) (nI c) so nu ty hh pa ch9 zk zl zh zp zq (nI k) ++ (w0 h a b0 cB cJ f g (nI n) (nI c) zg (nI k) ++ wo o cO go)) := hD.sub [4, 5, 6, 0, 1, 2, 3] (by decide) rfl
  refine gji (wc := w1 h1 a1 b1 cI cK fb g zt (nI n) (nI c) so nu ty hh pa ch9 zk zl zh zp zq (nI k)) (wr := w0 h a b0 cB cJ f g (nI n) (nI c) zg (nI k) ++ wo o cO go) (As := [.int 6, .int (xs (4 * t + 2)), .int (xs (4 * t + 3))]) (rest := []) ⟨hx, hb, hml, hown, hts⟩ (c_X1_pack_6f l dC dI tk tw h1 a1 b1 cI cK _ fb g zt (nI c) so nu ty hh pa ch9 zk zl zh zp zq (nI k) n hn (xs (4 * t + 2)) (xs (4 * t + 3)) hr8) (cwV 3 hts gL_law_X1_pack rfl rfl rfl (by decide +kernel) ⟨Nat.le_of_ble_eq_true rfl, Nat.le_of_ble_eq_true rfl⟩) hKm hP hD hS hA hZ (q0 := 0) (ci := 1) rfl rfl rfl rfl hl.1 rfl (Nat.le_of_ble_eq_true rfl) dL_law_608 ⟨by show _ ≤ 1042; omega, by show _ ≤ 16674; omega⟩ (fun r_10 u_12 H locs hw_11 hP hD hS => ?_)
  have hP : va_P (dC, dI) vwCl (w1 h1 a1 b1 cI cK fb g 2 (nI n) (nI c) so nu ty hh pa ch9 zk zl zh zp zq (nI k) ++ (w0 h a b0 cB cJ f g (nI n) (nI c) zg (nI k) ++ wo o cO go)) H := hP
  have hD : va_D (fun q : Nat => s.heap.size ≤ q) (w1 h1 a1 b1 cI cK fb g 2 (nI n) (nI c) so nu ty hh pa ch9 zk zl zh zp zq (nI k) ++ (w0 h a b0 cB cJ f g (nI n) (nI c) zg (nI k) ++ wo o cO go)) := hD
  refine lv_istore (lv' := [(6, .int r_10), (5, .int 2), (0, .ref b), (1, .ref h), (2, .ref h1), (3, .ref o), (4, .int (nI (4 * t)))]) hx hb dL_law_611 hl (by decide) rfl (fun ls hl => ?_)
  refine lv_aload_n hx hb dL_law_613 rfl (lv_at hl 4 rfl) ?_
  refine gji (wc := w1 h1 a1 b1 cI cK fb g 2 (nI n) (nI c) so nu ty hh pa ch9 zk zl zh zp zq (nI k)) (wr := w0 h a b0 cB cJ f g (nI n) (nI c) zg (nI k) ++ wo o cO go) (As := []) (rest := []) ⟨hx, hb, hml, hown, hts⟩ (c_X1_thrown l dC dI tk tw h1 a1 b1 cI cK _ fb g 2 (nI n) (nI c) so nu ty hh pa ch9 zk zl zh zp zq (nI k) ) (cwV 0 hts gL_law_X1_thrown rfl rfl rfl (by decide +kernel) ⟨Nat.le_of_ble_eq_true rfl, Nat.le_of_ble_eq_true rfl⟩) hKm hP hD hS hA hZ (q0 := 0) (ci := 1) rfl rfl rfl rfl hl.1 rfl (Nat.le_of_ble_eq_true rfl) dL_law_614 ⟨by show _ ≤ 1042; omega, by show _ ≤ 16674; omega⟩ (fun r_13 u_15 H locs hw_14 hP hD hS => ?_)
  have hP : va_P (dC, dI) vwCl (w1 h1 a1 b1 cI cK fb g 2 (nI n) (nI c) so nu ty hh pa ch9 zk zl zh zp zq (nI k) ++ (w0 h a b0 cB cJ f g (nI n) (nI c) zg (nI k) ++ wo o cO go)) H := hP
  have hD : va_D (fun q : Nat => s.heap.size ≤ q) (w1 h1 a1 b1 cI cK fb g 2 (nI n) (nI c) so nu ty hh pa ch9 zk zl zh zp zq (nI k) ++ (w0 h a b0 cB cJ f g (nI n) (nI c) zg (nI k) ++ wo o cO go)) := hD
  obtain rfl : r_13 = 2 := hw_14
  refine lv_iload hx hb dL_law_617 (lv_at hl 1 rfl) ?_
  refine lv_icmp_eq (tgt := 624) hx hb dL_law_619 (by decide) (fun c_16 => ?_) (fun c_16 => ?_)
  · skip
    refine lv_iload hx hb dL_law_624 (lv_at hl 1 rfl) ?_
    refine lv_if_ne (tgt := 641) hx hb dL_law_626 (by decide) (fun c_17 => ?_) (fun c_17 => ?_)
    · skip
      refine lv_goto (tgt := 644) hx hb dL_law_641 (by decide) ?_
      have hP : va_P (dC, dI) vwCl (w0 h a b0 cB cJ f g (nI n) (nI c) zg (nI k) ++ (w1 h1 a1 b1 cI cK fb g 2 (nI n) (nI c) so nu ty hh pa ch9 zk zl zh zp zq (nI k) ++ wo o cO go)) H := hP.sub [3, 4, 5, 0, 1, 2, 6] rfl
      have hD : va_D (fun q : Nat => s.heap.size ≤ q) (w0 h a b0 cB cJ f g (nI n) (nI c) zg (nI k) ++ (w1 h1 a1 b1 cI cK fb g 2 (nI n) (nI c) so nu ty hh pa ch9 zk zl zh zp zq (nI k) ++ wo o cO go)) := hD.sub [3, 4, 5, 0, 1, 2, 6] (by decide) rfl
      refine W.widen (k := 7 + t + 1) (n := 8416 + 6 * (t + 1)) (by omega) (by omega) ?_
      exact K _ _ _ ⟨n, c, k, f, fb, g, zg, 2, so, nu, ty, hh, pa, ch9, zk, zl, zh, zp, zq, go, hn, hc, hk, hRB, hG, hP, hD, hS, lv_sub hl [2, 3, 4, 5, 6] rfl⟩
    · skip
      exact absurd c_17 (by decide)
  · skip
    exact absurd rfl c_16
set_option maxHeartbeats 4000000 in
set_option maxRecDepth 100000 in
theorem op_pack_g7 {p : Program} {e : Env} {s : State} {m : MethodId} {below : List Frame} {meth : Method} {cd : Code} {l : Launch} {b L : Nat} {xs : Nat → Int32} {dC : Nat → ClassId} {dI : Nat → Nat → Nat} {tk tw : Nat} {sa : Nat → Nat} {cB cJ cI cK cO : ClassId} {h a b0 h1 a1 b1 o t : Nat} {H : Heap} {locs : List Loc} {ls : Array Slot} (CX : LC l p s m meth cd b L xs dC dI tk tw sa cB cJ cI cK cO) (ht4 : 4 * t + 4 ≤ L) (K : ∀ (H : Heap) (locs : List Loc) (ls : Array Slot), LI s b dC dI h a b0 cB cJ h1 a1 b1 cI cK o cO t H locs ls → W p l e room_1 s m #[Value.ref b] below meth cd H locs (7 + t + 1) (8416 + 6 * (t + 1)) (lw_Z below #[Value.ref b] s) (F0 m 644 ls [])) (n : Nat) (c : Nat) (k : Nat) (f : Nat → Int32) (fb : Nat → Int32) (g : Nat → Int64) (zg : Int32) (zt : Int32) (so : Int32) (nu : Int64) (ty : Int32) (hh : Int32) (pa : Int64) (ch9 : Int64) (zk : Int32) (zl : Int32) (zh : Int32) (zp : Int32) (zq : Int32) (go : Nat → Int64) (hn : n ≤ 4096) (hc : c ≤ n) (hk : k ≤ 100) (hRB : RB n f fb) (hG : GV f c zg zk zl zh zp zq) (hP : va_P (dC, dI) vwCl (w0 h a b0 cB cJ f g (nI n) (nI c) zg (nI k) ++ (w1 h1 a1 b1 cI cK fb g zt (nI n) (nI c) so nu ty hh pa ch9 zk zl zh zp zq (nI k) ++ wo o cO go)) H) (hD : va_D (fun q : Nat => s.heap.size ≤ q) (w0 h a b0 cB cJ f g (nI n) (nI c) zg (nI k) ++ (w1 h1 a1 b1 cI cK fb g zt (nI n) (nI c) so nu ty hh pa ch9 zk zl zh zp zq (nI k) ++ wo o cO go))) (hS : va_S (fun q : Nat => s.heap.size ≤ q) s.heap H locs) (hl : lv_has ls 8 [(0, .ref b), (1, .ref h), (2, .ref h1), (3, .ref o), (4, .int (nI (4 * t)))]) (e1 : xs (4 * t + 1) = 7) (hr8 : n + phL (pk7 (xs (4 * t + 2)) (xs (4 * t + 3))) ≤ 4096) : W p l e room_1 s m #[Value.ref b] below meth cd H locs (7 + t) (8416 + 6 * t) (lw_Z below #[Value.ref b] s) (F0 m 564 ls []) := by
  obtain ⟨⟨hx, hb, hr, hml, hown, hts, hXs, hbl, hlocks⟩, hst, hL, hK, hZ, hX⟩ := CX
  have hA : ∀ q : Nat, s.heap.size ≤ q → (fun q : Nat => s.heap.size ≤ q) q := fun _ h => h
  have hbA : ¬ (fun q : Nat => s.heap.size ≤ q) b := Nat.not_le.mpr hbl
  have hKx := hK.sub (tys' := t0 cB cJ) [0, 1] rfl
  have hKm := hK.sub (tys' := t1 cI cK) [2, 3] rfl
  have hKh := hK.sub (tys' := th cB cJ cO) [0, 1, 4] rfl
  obtain ⟨b9, hb9, hs9, t1, t2, t3, t4⟩ := pkE_7 (xs (4 * t + 2)) (xs (4 * t + 3))
  obtain ⟨z1, z2⟩ := RB_pack (k := 7) (lo := (xs (4 * t + 2))) (hi := (xs (4 * t + 3))) (T := (pk7 (xs (4 * t + 2)) (xs (4 * t + 3)))) hb9 hRB t1 t2 t3 t4
  have hr9 : n + hd b9 ≤ 4096 := by rw [← z1]; exact hr8
  refine lv_aload_n hx hb dL_law_564 rfl (lv_at hl 1 rfl) ?_
  refine lv_aload_n hx hb dL_law_565 rfl (lv_at hl 0 rfl) ?_
  refine lv_iload hx hb dL_law_566 (lv_at hl 4 rfl) ?_
  refine lv_iconst (v := 1) hx hb dL_law_568 (by decide) ?_
  refine lv_iadd hx hb dL_law_569 ?_
  have e_1 : (nI (4 * t) + (1 : Int32)) = nI (4 * t + 1) := nI_add (4 * t) 1
  rw [e_1]
  refine va_sld hx hb hXs hbl hbA hS (vp_in_nI (by omega) (by omega)) dL_law_570 ?_
  rw [nI_clamp (by omega)]
  rw [e1]
  refine lv_aload_n hx hb dL_law_571 rfl (lv_at hl 0 rfl) ?_
  refine lv_iload hx hb dL_law_572 (lv_at hl 4 rfl) ?_
  refine lv_iconst (v := 2) hx hb dL_law_574 (by decide) ?_
  refine lv_iadd hx hb dL_law_575 ?_
  have e_2 : (nI (4 * t) + (2 : Int32)) = nI (4 * t + 2) := nI_add (4 * t) 2
  rw [e_2]
  refine va_sld hx hb hXs hbl hbA hS (vp_in_nI (by omega) (by omega)) dL_law_576 ?_
  rw [nI_clamp (by omega)]
  refine lv_aload_n hx hb dL_law_577 rfl (lv_at hl 0 rfl) ?_
  refine lv_iload hx hb dL_law_578 (lv_at hl 4 rfl) ?_
  refine lv_iconst (v := 3) hx hb dL_law_580 (by decide) ?_
  refine lv_iadd hx hb dL_law_581 ?_
  have e_3 : (nI (4 * t) + (3 : Int32)) = nI (4 * t + 3) := nI_add (4 * t) 3
  rw [e_3]
  refine va_sld hx hb hXs hbl hbA hS (vp_in_nI (by omega) (by omega)) dL_law_582 ?_
  rw [nI_clamp (by omega)]
  refine lv_aload_n hx hb dL_law_583 rfl (lv_at hl 3 rfl) ?_
  have hP : va_P (dC, dI) vwCl ((w0 h a b0 cB cJ f g (nI n) (nI c) zg (nI k) ++ wo o cO go) ++ w1 h1 a1 b1 cI cK fb g zt (nI n) (nI c) so nu ty hh pa ch9 zk zl zh zp zq (nI k)) H := hP.sub [0, 1, 2, 6, 3, 4, 5] rfl
  have hD : va_D (fun q : Nat => s.heap.size ≤ q) ((w0 h a b0 cB cJ f g (nI n) (nI c) zg (nI k) ++ wo o cO go) ++ w1 h1 a1 b1 cI cK fb g zt (nI n) (nI c) so nu ty hh pa ch9 zk zl zh zp zq (nI k)) := hD.sub [0, 1, 2, 6, 3, 4, 5] (by decide) rfl
  refine ghi (wc := w0 h a b0 cB cJ f g (nI n) (nI c) zg (nI k) ++ wo o cO go) (wr := w1 h1 a1 b1 cI cK fb g zt (nI n) (nI c) so nu ty hh pa ch9 zk zl zh zp zq (nI k)) (As := [.ref h, .int 7, .int (xs (4 * t + 2)), .int (xs (4 * t + 3)), .ref o]) (rest := []) ⟨hx, hb, hml, hown, hts⟩ (c_L_pack l hst sa dC dI tk tw h a b0 cB cJ o cO go _ f g (nI c) zg (nI k) n 7 (xs (4 * t + 2)) (xs (4 * t + 3)) (by decide) (by decide) (fun z => absurd (by decide) z) (fun z => absurd z (by decide)) b9 hb9 hs9 hr9) (vx_cwSW 5 hts gL_law_L_pack rfl rfl rfl (by decide +kernel) ⟨Nat.le_of_ble_eq_true rfl, Nat.le_of_ble_eq_true rfl⟩) hKh hP hD hS hA hZ hX rfl hl.1 rfl (Nat.le_of_ble_eq_true rfl) dL_law_584 ⟨by show _ ≤ 1042; omega, by show _ ≤ 16674; omega⟩ (fun r_4 u_6 H locs hw_5 hP hD hS => ?_)
  have hP : va_P (dC, dI) vwCl ((w0 h a b0 cB cJ (apR (apR (apR f n (nI b9).toInt64 1) (n + 1) (nO 7 (xs (4 * t + 2)) (xs (4 * t + 3))) (wd b9)) (n + 1 + wd b9) (xs (4 * t + 3)).toInt64 (tW b9)) g (nI (n + hd b9)) (nI c) zg (nI k) ++ wo o cO (vp_updL go 0 ((nI (hd b9)).toInt64))) ++ w1 h1 a1 b1 cI cK fb g zt (nI n) (nI c) so nu ty hh pa ch9 zk zl zh zp zq (nI k)) H := hP
  have hD : va_D (fun q : Nat => s.heap.size ≤ q) ((w0 h a b0 cB cJ (apR (apR (apR f n (nI b9).toInt64 1) (n + 1) (nO 7 (xs (4 * t + 2)) (xs (4 * t + 3))) (wd b9)) (n + 1 + wd b9) (xs (4 * t + 3)).toInt64 (tW b9)) g (nI (n + hd b9)) (nI c) zg (nI k) ++ wo o cO (vp_updL go 0 ((nI (hd b9)).toInt64))) ++ w1 h1 a1 b1 cI cK fb g zt (nI n) (nI c) so nu ty hh pa ch9 zk zl zh zp zq (nI k)) := hD
  obtain rfl : r_4 = 0 := hw_5
  refine lv_istore (lv' := [(5, .int 0), (0, .ref b), (1, .ref h), (2, .ref h1), (3, .ref o), (4, .int (nI (4 * t)))]) hx hb dL_law_587 hl (by decide) rfl (fun ls hl => ?_)
  refine lv_aload_n hx hb dL_law_589 rfl (lv_at hl 3 rfl) ?_
  refine lv_aload_n hx hb dL_law_590 rfl (lv_at hl 1 rfl) ?_
  refine lv_iload hx hb dL_law_591 (lv_at hl 5 rfl) ?_
  refine lv_iconst (v := 1) hx hb dL_law_593 (by decide) ?_
  refine lv_iadd hx hb dL_law_594 ?_
  have e_7 : (nI (4 * t) + (1 : Int32)) = nI (4 * t + 1) := nI_add (4 * t) 1
  rw [e_7]
  refine va_sld hx hb hXs hbl hbA hS (vp_in_nI (by omega) (by omega)) dL_law_595 ?_
  rw [nI_clamp (by omega)]
  rw [e1]
  refine lv_aload_n hx hb dL_law_596 rfl (lv_at hl 1 rfl) ?_
  refine lv_iload hx hb dL_law_597 (lv_at hl 5 rfl) ?_
  refine lv_iconst (v := 2) hx hb dL_law_599 (by decide) ?_
  refine lv_iadd hx hb dL_law_600 ?_
  have e_8 : (nI (4 * t) + (2 : Int32)) = nI (4 * t + 2) := nI_add (4 * t) 2
  rw [e_8]
  refine va_sld hx hb hXs hbl hbA hS (vp_in_nI (by omega) (by omega)) dL_law_601 ?_
  rw [nI_clamp (by omega)]
  refine lv_aload_n hx hb dL_law_602 rfl (lv_at hl 1 rfl) ?_
  refine lv_iload hx hb dL_law_603 (lv_at hl 5 rfl) ?_
  refine lv_iconst (v := 3) hx hb dL_law_605 (by decide) ?_
  refine lv_iadd hx hb dL_law_606 ?_
  have e_9 : (nI (4 * t) + (3 : Int32)) = nI (4 * t + 3) := nI_add (4 * t) 3
  rw [e_9]
  refine va_sld hx hb hXs hbl hbA hS (vp_in_nI (by omega) (by omega)) dL_law_607 ?_
  rw [nI_clamp (by omega)]
  have hP : va_P (dC, dI) vwCl (w1 h1 a1 b1 cI cK fb g zt (nI n) (nI c) so nu ty hh pa ch9 zk zl zh zp zq (nI k) ++ (w0 h a b0 cB cJ (apR (apR (apR f n (nI b9).toInt64 1) (n + 1) (nO 7 (xs (4 * t + 2)) (xs (4 * t + 3))) (wd b9)) (n + 1 + wd b9) (xs (4 * t + 3)).toInt64 (tW b9)) g (nI (n + hd b9)) (nI c) zg (nI k) ++ wo o cO (vp_updL go 0 ((nI (hd b9)).toInt64)))) H := hP.sub [4, 5, 6, 0, 1, 2, 3] rfl
  have hD : va_D (fun q : Nat => s.heap.size ≤ q) (w1 h1 a1 b1 cI cK fb g zt (nI n) (nI c) so nu ty hh pa ch9 zk zl zh zp zq (nI k) ++ (w0 h a b0 cB cJ (apR (apR (apR f n (nI b9).toInt64 1) (n + 1) (nO 7 (xs (4 * t + 2)) (xs (4 * t + 3))) (wd b9)) (n + 1 + wd b9) (xs (4 * t + 3)).toInt64 (tW b9)) g (nI (n + hd b9)) (nI c) zg (nI k) ++ wo o cO (vp_updL go 0 ((nI (hd b9)).toInt64)))) := hD.sub [4, 5, 6, 0, 1, 2, 3] (by decide) rfl
  refine gji (wc := w1 h1 a1 b1 cI cK fb g zt (nI n) (nI c) so nu ty hh pa ch9 zk zl zh zp zq (nI k)) (wr := w0 h a b0 cB cJ (apR (apR (apR f n (nI b9).toInt64 1) (n + 1) (nO 7 (xs (4 * t + 2)) (xs (4 * t + 3))) (wd b9)) (n + 1 + wd b9) (xs (4 * t + 3)).toInt64 (tW b9)) g (nI (n + hd b9)) (nI c) zg (nI k) ++ wo o cO (vp_updL go 0 ((nI (hd b9)).toInt64))) (As := [.int 7, .int (xs (4 * t + 2)), .int (xs (4 * t + 3))]) (rest := []) ⟨hx, hb, hml, hown, hts⟩ (c_X1_pack_7 l dC dI tk tw h1 a1 b1 cI cK _ fb g zt (nI c) so nu ty hh pa ch9 zk zl zh zp zq (nI k) n (xs (4 * t + 2)) (xs (4 * t + 3)) hr8) (cwV 3 hts gL_law_X1_pack rfl rfl rfl (by decide +kernel) ⟨Nat.le_of_ble_eq_true rfl, Nat.le_of_ble_eq_true rfl⟩) hKm hP hD hS hA hZ (q0 := 0) (ci := 1) rfl rfl rfl rfl hl.1 rfl (Nat.le_of_ble_eq_true rfl) dL_law_608 ⟨by show _ ≤ 1042; omega, by show _ ≤ 16674; omega⟩ (fun r_10 u_12 H locs hw_11 hP hD hS => ?_)
  have hP : va_P (dC, dI) vwCl (w1 h1 a1 b1 cI cK (phF fb n (pk7 (xs (4 * t + 2)) (xs (4 * t + 3)))) g 0 (nI (n + phL (pk7 (xs (4 * t + 2)) (xs (4 * t + 3))))) (nI c) so nu ty hh pa ch9 zk zl zh zp zq (nI k) ++ (w0 h a b0 cB cJ (apR (apR (apR f n (nI b9).toInt64 1) (n + 1) (nO 7 (xs (4 * t + 2)) (xs (4 * t + 3))) (wd b9)) (n + 1 + wd b9) (xs (4 * t + 3)).toInt64 (tW b9)) g (nI (n + hd b9)) (nI c) zg (nI k) ++ wo o cO (vp_updL go 0 ((nI (hd b9)).toInt64)))) H := hP
  have hD : va_D (fun q : Nat => s.heap.size ≤ q) (w1 h1 a1 b1 cI cK (phF fb n (pk7 (xs (4 * t + 2)) (xs (4 * t + 3)))) g 0 (nI (n + phL (pk7 (xs (4 * t + 2)) (xs (4 * t + 3))))) (nI c) so nu ty hh pa ch9 zk zl zh zp zq (nI k) ++ (w0 h a b0 cB cJ (apR (apR (apR f n (nI b9).toInt64 1) (n + 1) (nO 7 (xs (4 * t + 2)) (xs (4 * t + 3))) (wd b9)) (n + 1 + wd b9) (xs (4 * t + 3)).toInt64 (tW b9)) g (nI (n + hd b9)) (nI c) zg (nI k) ++ wo o cO (vp_updL go 0 ((nI (hd b9)).toInt64)))) := hD
  obtain rfl : r_10 = nI (phL (pk7 (xs (4 * t + 2)) (xs (4 * t + 3)))) := hw_11
  rw [z1] at hP hD
  have hP : va_P (dC, dI) vwCl (w1 h1 a1 b1 cI cK (phF fb n (pk7 (xs (4 * t + 2)) (xs (4 * t + 3)))) g 0 (nI (n + hd b9)) (nI c) so nu ty hh pa ch9 zk zl zh zp zq (nI k) ++ (w0 h a b0 cB cJ (apR (apR (apR f n (nI b9).toInt64 1) (n + 1) (nO 7 (xs (4 * t + 2)) (xs (4 * t + 3))) (wd b9)) (n + 1 + wd b9) (xs (4 * t + 3)).toInt64 (tW b9)) g (nI (n + hd b9)) (nI c) zg (nI k) ++ wo o cO (vp_updL go 0 ((nI (hd b9)).toInt64)))) H := hP
  have hD : va_D (fun q : Nat => s.heap.size ≤ q) (w1 h1 a1 b1 cI cK (phF fb n (pk7 (xs (4 * t + 2)) (xs (4 * t + 3)))) g 0 (nI (n + hd b9)) (nI c) so nu ty hh pa ch9 zk zl zh zp zq (nI k) ++ (w0 h a b0 cB cJ (apR (apR (apR f n (nI b9).toInt64 1) (n + 1) (nO 7 (xs (4 * t + 2)) (xs (4 * t + 3))) (wd b9)) (n + 1 + wd b9) (xs (4 * t + 3)).toInt64 (tW b9)) g (nI (n + hd b9)) (nI c) zg (nI k) ++ wo o cO (vp_updL go 0 ((nI (hd b9)).toInt64)))) := hD
  refine lv_istore (lv' := [(6, .int (nI (phL (pk7 (xs (4 * t + 2)) (xs (4 * t + 3)))))), (5, .int 0), (0, .ref b), (1, .ref h), (2, .ref h1), (3, .ref o), (4, .int (nI (4 * t)))]) hx hb dL_law_611 hl (by decide) rfl (fun ls hl => ?_)
  refine lv_aload_n hx hb dL_law_613 rfl (lv_at hl 4 rfl) ?_
  refine gji (wc := w1 h1 a1 b1 cI cK (phF fb n (pk7 (xs (4 * t + 2)) (xs (4 * t + 3)))) g 0 (nI (n + hd b9)) (nI c) so nu ty hh pa ch9 zk zl zh zp zq (nI k)) (wr := w0 h a b0 cB cJ (apR (apR (apR f n (nI b9).toInt64 1) (n + 1) (nO 7 (xs (4 * t + 2)) (xs (4 * t + 3))) (wd b9)) (n + 1 + wd b9) (xs (4 * t + 3)).toInt64 (tW b9)) g (nI (n + hd b9)) (nI c) zg (nI k) ++ wo o cO (vp_updL go 0 ((nI (hd b9)).toInt64))) (As := []) (rest := []) ⟨hx, hb, hml, hown, hts⟩ (c_X1_thrown l dC dI tk tw h1 a1 b1 cI cK _ (phF fb n (pk7 (xs (4 * t + 2)) (xs (4 * t + 3)))) g 0 (nI (n + hd b9)) (nI c) so nu ty hh pa ch9 zk zl zh zp zq (nI k) ) (cwV 0 hts gL_law_X1_thrown rfl rfl rfl (by decide +kernel) ⟨Nat.le_of_ble_eq_true rfl, Nat.le_of_ble_eq_true rfl⟩) hKm hP hD hS hA hZ (q0 := 0) (ci := 1) rfl rfl rfl rfl hl.1 rfl (Nat.le_of_ble_eq_true rfl) dL_law_614 ⟨by show _ ≤ 1042; omega, by show _ ≤ 16674; omega⟩ (fun r_13 u_15 H locs hw_14 hP hD hS => ?_)
  have hP : va_P (dC, dI) vwCl (w1 h1 a1 b1 cI cK (phF fb n (pk7 (xs (4 * t + 2)) (xs (4 * t + 3)))) g 0 (nI (n + hd b9)) (nI c) so nu ty hh pa ch9 zk zl zh zp zq (nI k) ++ (w0 h a b0 cB cJ (apR (apR (apR f n (nI b9).toInt64 1) (n + 1) (nO 7 (xs (4 * t + 2)) (xs (4 * t + 3))) (wd b9)) (n + 1 + wd b9) (xs (4 * t + 3)).toInt64 (tW b9)) g (nI (n + hd b9)) (nI c) zg (nI k) ++ wo o cO (vp_updL go 0 ((nI (hd b9)).toInt64)))) H := hP
  have hD : va_D (fun q : Nat => s.heap.size ≤ q) (w1 h1 a1 b1 cI cK (phF fb n (pk7 (xs (4 * t + 2)) (xs (4 * t + 3)))) g 0 (nI (n + hd b9)) (nI c) so nu ty hh pa ch9 zk zl zh zp zq (nI k) ++ (w0 h a b0 cB cJ (apR (apR (apR f n (nI b9).toInt64 1) (n + 1) (nO 7 (xs (4 * t + 2)) (xs (4 * t + 3))) (wd b9)) (n + 1 + wd b9) (xs (4 * t + 3)).toInt64 (tW b9)) g (nI (n + hd b9)) (nI c) zg (nI k) ++ wo o cO (vp_updL go 0 ((nI (hd b9)).toInt64)))) := hD
  obtain rfl : r_13 = 0 := hw_14
  refine lv_iload hx hb dL_law_617 (lv_at hl 1 rfl) ?_
  refine lv_icmp_eq (tgt := 624) hx hb dL_law_619 (by decide) (fun c_16 => ?_) (fun c_16 => ?_)
  · skip
    refine lv_iload hx hb dL_law_624 (lv_at hl 1 rfl) ?_
    refine lv_if_ne (tgt := 641) hx hb dL_law_626 (by decide) (fun c_17 => ?_) (fun c_17 => ?_)
    · skip
      exact absurd (by decide) c_17
    · skip
      refine lv_aload_n hx hb dL_law_629 rfl (lv_at hl 5 rfl) ?_
      refine lv_iconst (v := 0) hx hb dL_law_630 (by decide) ?_
      refine va_lald hx hb hK hP 6 4 rfl rfl vp01 dL_law_631 ?_
      have e_18 : (vp_updL go 0 ((nI (hd b9)).toInt64) (0 : Int32).toNatClampNeg : Int64) = ((nI (hd b9)).toInt64) := pk_uLs
      rw [e_18]
      refine lv_iload hx hb dL_law_632 (lv_at hl 0 rfl) ?_
      refine lv_i2l hx hb dL_law_634 rfl ?_
      refine W.lcmp hx hb dL_law_635 ?_
      refine lv_if_eq (tgt := 641) hx hb dL_law_636 (by decide) (fun c_19 => ?_) (fun c_19 => ?_)
      · skip
        have c_19 := (lg_cmp_eq ((nI (hd b9)).toInt64) ((nI (phL (pk7 (xs (4 * t + 2)) (xs (4 * t + 3))))).toInt64)).mp c_19
        refine lv_goto (tgt := 644) hx hb dL_law_641 (by decide) ?_
        have hP : va_P (dC, dI) vwCl (w0 h a b0 cB cJ (apR (apR (apR f n (nI b9).toInt64 1) (n + 1) (nO 7 (xs (4 * t + 2)) (xs (4 * t + 3))) (wd b9)) (n + 1 + wd b9) (xs (4 * t + 3)).toInt64 (tW b9)) g (nI (n + hd b9)) (nI c) zg (nI k) ++ (w1 h1 a1 b1 cI cK (phF fb n (pk7 (xs (4 * t + 2)) (xs (4 * t + 3)))) g 0 (nI (n + hd b9)) (nI c) so nu ty hh pa ch9 zk zl zh zp zq (nI k) ++ wo o cO (vp_updL go 0 ((nI (hd b9)).toInt64)))) H := hP.sub [3, 4, 5, 0, 1, 2, 6] rfl
        have hD : va_D (fun q : Nat => s.heap.size ≤ q) (w0 h a b0 cB cJ (apR (apR (apR f n (nI b9).toInt64 1) (n + 1) (nO 7 (xs (4 * t + 2)) (xs (4 * t + 3))) (wd b9)) (n + 1 + wd b9) (xs (4 * t + 3)).toInt64 (tW b9)) g (nI (n + hd b9)) (nI c) zg (nI k) ++ (w1 h1 a1 b1 cI cK (phF fb n (pk7 (xs (4 * t + 2)) (xs (4 * t + 3)))) g 0 (nI (n + hd b9)) (nI c) so nu ty hh pa ch9 zk zl zh zp zq (nI k) ++ wo o cO (vp_updL go 0 ((nI (hd b9)).toInt64)))) := hD.sub [3, 4, 5, 0, 1, 2, 6] (by decide) rfl
        refine W.widen (k := 7 + t + 1) (n := 8416 + 6 * (t + 1)) (by omega) (by omega) ?_
        exact K _ _ _ ⟨n + hd b9, c, k, apR (apR (apR f n (nI b9).toInt64 1) (n + 1) (nO 7 (xs (4 * t + 2)) (xs (4 * t + 3))) (wd b9)) (n + 1 + wd b9) (xs (4 * t + 3)).toInt64 (tW b9), phF fb n (pk7 (xs (4 * t + 2)) (xs (4 * t + 3))), g, zg, 0, so, nu, ty, hh, pa, ch9, zk, zl, zh, zp, zq, vp_updL go 0 ((nI (hd b9)).toInt64), hr9, (by omega), hk, z2, (GV_mono hG (fun j hj => by rw [apR_lo _ _ _ _ (by omega), apR_lo _ _ _ _ (by omega), apR_lo _ _ _ _ (by omega)]) (Nat.le_refl _)), hP, hD, hS, lv_sub hl [2, 3, 4, 5, 6] rfl⟩
      · skip
        have c_19 := (not_congr (lg_cmp_eq ((nI (hd b9)).toInt64) ((nI (phL (pk7 (xs (4 * t + 2)) (xs (4 * t + 3))))).toInt64))).mp c_19
        exact absurd (by rw [z1]) c_19
  · skip
    exact absurd rfl c_16
set_option maxHeartbeats 4000000 in
set_option maxRecDepth 100000 in
theorem op_pack_f7 {p : Program} {e : Env} {s : State} {m : MethodId} {below : List Frame} {meth : Method} {cd : Code} {l : Launch} {b L : Nat} {xs : Nat → Int32} {dC : Nat → ClassId} {dI : Nat → Nat → Nat} {tk tw : Nat} {sa : Nat → Nat} {cB cJ cI cK cO : ClassId} {h a b0 h1 a1 b1 o t : Nat} {H : Heap} {locs : List Loc} {ls : Array Slot} (CX : LC l p s m meth cd b L xs dC dI tk tw sa cB cJ cI cK cO) (ht4 : 4 * t + 4 ≤ L) (K : ∀ (H : Heap) (locs : List Loc) (ls : Array Slot), LI s b dC dI h a b0 cB cJ h1 a1 b1 cI cK o cO t H locs ls → W p l e room_1 s m #[Value.ref b] below meth cd H locs (7 + t + 1) (8416 + 6 * (t + 1)) (lw_Z below #[Value.ref b] s) (F0 m 644 ls [])) (n : Nat) (c : Nat) (k : Nat) (f : Nat → Int32) (fb : Nat → Int32) (g : Nat → Int64) (zg : Int32) (zt : Int32) (so : Int32) (nu : Int64) (ty : Int32) (hh : Int32) (pa : Int64) (ch9 : Int64) (zk : Int32) (zl : Int32) (zh : Int32) (zp : Int32) (zq : Int32) (go : Nat → Int64) (hn : n ≤ 4096) (hc : c ≤ n) (hk : k ≤ 100) (hRB : RB n f fb) (hG : GV f c zg zk zl zh zp zq) (hP : va_P (dC, dI) vwCl (w0 h a b0 cB cJ f g (nI n) (nI c) zg (nI k) ++ (w1 h1 a1 b1 cI cK fb g zt (nI n) (nI c) so nu ty hh pa ch9 zk zl zh zp zq (nI k) ++ wo o cO go)) H) (hD : va_D (fun q : Nat => s.heap.size ≤ q) (w0 h a b0 cB cJ f g (nI n) (nI c) zg (nI k) ++ (w1 h1 a1 b1 cI cK fb g zt (nI n) (nI c) so nu ty hh pa ch9 zk zl zh zp zq (nI k) ++ wo o cO go))) (hS : va_S (fun q : Nat => s.heap.size ≤ q) s.heap H locs) (hl : lv_has ls 8 [(0, .ref b), (1, .ref h), (2, .ref h1), (3, .ref o), (4, .int (nI (4 * t)))]) (e1 : xs (4 * t + 1) = 7) (hr8 : 4096 < n + phL (pk7 (xs (4 * t + 2)) (xs (4 * t + 3)))) : W p l e room_1 s m #[Value.ref b] below meth cd H locs (7 + t) (8416 + 6 * t) (lw_Z below #[Value.ref b] s) (F0 m 564 ls []) := by
  obtain ⟨⟨hx, hb, hr, hml, hown, hts, hXs, hbl, hlocks⟩, hst, hL, hK, hZ, hX⟩ := CX
  have hA : ∀ q : Nat, s.heap.size ≤ q → (fun q : Nat => s.heap.size ≤ q) q := fun _ h => h
  have hbA : ¬ (fun q : Nat => s.heap.size ≤ q) b := Nat.not_le.mpr hbl
  have hKx := hK.sub (tys' := t0 cB cJ) [0, 1] rfl
  have hKm := hK.sub (tys' := t1 cI cK) [2, 3] rfl
  have hKh := hK.sub (tys' := th cB cJ cO) [0, 1, 4] rfl
  obtain ⟨b9, hb9, hs9, t1, t2, t3, t4⟩ := pkE_7 (xs (4 * t + 2)) (xs (4 * t + 3))
  obtain ⟨z1, z2⟩ := RB_pack (k := 7) (lo := (xs (4 * t + 2))) (hi := (xs (4 * t + 3))) (T := (pk7 (xs (4 * t + 2)) (xs (4 * t + 3)))) hb9 hRB t1 t2 t3 t4
  have hr9 : 4096 < n + hd b9 := by rw [← z1]; exact hr8
  refine lv_aload_n hx hb dL_law_564 rfl (lv_at hl 1 rfl) ?_
  refine lv_aload_n hx hb dL_law_565 rfl (lv_at hl 0 rfl) ?_
  refine lv_iload hx hb dL_law_566 (lv_at hl 4 rfl) ?_
  refine lv_iconst (v := 1) hx hb dL_law_568 (by decide) ?_
  refine lv_iadd hx hb dL_law_569 ?_
  have e_1 : (nI (4 * t) + (1 : Int32)) = nI (4 * t + 1) := nI_add (4 * t) 1
  rw [e_1]
  refine va_sld hx hb hXs hbl hbA hS (vp_in_nI (by omega) (by omega)) dL_law_570 ?_
  rw [nI_clamp (by omega)]
  rw [e1]
  refine lv_aload_n hx hb dL_law_571 rfl (lv_at hl 0 rfl) ?_
  refine lv_iload hx hb dL_law_572 (lv_at hl 4 rfl) ?_
  refine lv_iconst (v := 2) hx hb dL_law_574 (by decide) ?_
  refine lv_iadd hx hb dL_law_575 ?_
  have e_2 : (nI (4 * t) + (2 : Int32)) = nI (4 * t + 2) := nI_add (4 * t) 2
  rw [e_2]
  refine va_sld hx hb hXs hbl hbA hS (vp_in_nI (by omega) (by omega)) dL_law_576 ?_
  rw [nI_clamp (by omega)]
  refine lv_aload_n hx hb dL_law_577 rfl (lv_at hl 0 rfl) ?_
  refine lv_iload hx hb dL_law_578 (lv_at hl 4 rfl) ?_
  refine lv_iconst (v := 3) hx hb dL_law_580 (by decide) ?_
  refine lv_iadd hx hb dL_law_581 ?_
  have e_3 : (nI (4 * t) + (3 : Int32)) = nI (4 * t + 3) := nI_add (4 * t) 3
  rw [e_3]
  refine va_sld hx hb hXs hbl hbA hS (vp_in_nI (by omega) (by omega)) dL_law_582 ?_
  rw [nI_clamp (by omega)]
  refine lv_aload_n hx hb dL_law_583 rfl (lv_at hl 3 rfl) ?_
  have hP : va_P (dC, dI) vwCl ((w0 h a b0 cB cJ f g (nI n) (nI c) zg (nI k) ++ wo o cO go) ++ w1 h1 a1 b1 cI cK fb g zt (nI n) (nI c) so nu ty hh pa ch9 zk zl zh zp zq (nI k)) H := hP.sub [0, 1, 2, 6, 3, 4, 5] rfl
  have hD : va_D (fun q : Nat => s.heap.size ≤ q) ((w0 h a b0 cB cJ f g (nI n) (nI c) zg (nI k) ++ wo o cO go) ++ w1 h1 a1 b1 cI cK fb g zt (nI n) (nI c) so nu ty hh pa ch9 zk zl zh zp zq (nI k)) := hD.sub [0, 1, 2, 6, 3, 4, 5] (by decide) rfl
  refine ghi (wc := w0 h a b0 cB cJ f g (nI n) (nI c) zg (nI k) ++ wo o cO go) (wr := w1 h1 a1 b1 cI cK fb g zt (nI n) (nI c) so nu ty hh pa ch9 zk zl zh zp zq (nI k)) (As := [.ref h, .int 7, .int (xs (4 * t + 2)), .int (xs (4 * t + 3)), .ref o]) (rest := []) ⟨hx, hb, hml, hown, hts⟩ (c_L_pack_f l hst sa dC dI tk tw h a b0 cB cJ o cO go _ f g (nI c) zg (nI k) n hn 7 (xs (4 * t + 2)) (xs (4 * t + 3)) (by decide) (by decide) (fun z => absurd (by decide) z) (fun z => absurd z (by decide)) b9 hb9 hs9 hr9) (vx_cwSW 5 hts gL_law_L_pack rfl rfl rfl (by decide +kernel) ⟨Nat.le_of_ble_eq_true rfl, Nat.le_of_ble_eq_true rfl⟩) hKh hP hD hS hA hZ hX rfl hl.1 rfl (Nat.le_of_ble_eq_true rfl) dL_law_584 ⟨by show _ ≤ 1042; omega, by show _ ≤ 16674; omega⟩ (fun r_4 u_6 H locs hw_5 hP hD hS => ?_)
  have hP : va_P (dC, dI) vwCl ((w0 h a b0 cB cJ f g (nI n) (nI c) zg (nI k) ++ wo o cO go) ++ w1 h1 a1 b1 cI cK fb g zt (nI n) (nI c) so nu ty hh pa ch9 zk zl zh zp zq (nI k)) H := hP
  have hD : va_D (fun q : Nat => s.heap.size ≤ q) ((w0 h a b0 cB cJ f g (nI n) (nI c) zg (nI k) ++ wo o cO go) ++ w1 h1 a1 b1 cI cK fb g zt (nI n) (nI c) so nu ty hh pa ch9 zk zl zh zp zq (nI k)) := hD
  obtain rfl : r_4 = 2 := hw_5
  refine lv_istore (lv' := [(5, .int 2), (0, .ref b), (1, .ref h), (2, .ref h1), (3, .ref o), (4, .int (nI (4 * t)))]) hx hb dL_law_587 hl (by decide) rfl (fun ls hl => ?_)
  refine lv_aload_n hx hb dL_law_589 rfl (lv_at hl 3 rfl) ?_
  refine lv_aload_n hx hb dL_law_590 rfl (lv_at hl 1 rfl) ?_
  refine lv_iload hx hb dL_law_591 (lv_at hl 5 rfl) ?_
  refine lv_iconst (v := 1) hx hb dL_law_593 (by decide) ?_
  refine lv_iadd hx hb dL_law_594 ?_
  have e_7 : (nI (4 * t) + (1 : Int32)) = nI (4 * t + 1) := nI_add (4 * t) 1
  rw [e_7]
  refine va_sld hx hb hXs hbl hbA hS (vp_in_nI (by omega) (by omega)) dL_law_595 ?_
  rw [nI_clamp (by omega)]
  rw [e1]
  refine lv_aload_n hx hb dL_law_596 rfl (lv_at hl 1 rfl) ?_
  refine lv_iload hx hb dL_law_597 (lv_at hl 5 rfl) ?_
  refine lv_iconst (v := 2) hx hb dL_law_599 (by decide) ?_
  refine lv_iadd hx hb dL_law_600 ?_
  have e_8 : (nI (4 * t) + (2 : Int32)) = nI (4 * t + 2) := nI_add (4 * t) 2
  rw [e_8]
  refine va_sld hx hb hXs hbl hbA hS (vp_in_nI (by omega) (by omega)) dL_law_601 ?_
  rw [nI_clamp (by omega)]
  refine lv_aload_n hx hb dL_law_602 rfl (lv_at hl 1 rfl) ?_
  refine lv_iload hx hb dL_law_603 (lv_at hl 5 rfl) ?_
  refine lv_iconst (v := 3) hx hb dL_law_605 (by decide) ?_
  refine lv_iadd hx hb dL_law_606 ?_
  have e_9 : (nI (4 * t) + (3 : Int32)) = nI (4 * t + 3) := nI_add (4 * t) 3
  rw [e_9]
  refine va_sld hx hb hXs hbl hbA hS (vp_in_nI (by omega) (by omega)) dL_law_607 ?_
  rw [nI_clamp (by omega)]
  have hP : va_P (dC, dI) vwCl (w1 h1 a1 b1 cI cK fb g zt (nI n) (nI c) so nu ty hh pa ch9 zk zl zh zp zq (nI k) ++ (w0 h a b0 cB cJ f g (nI n) (nI c) zg (nI k) ++ wo o cO go)) H := hP.sub [4, 5, 6, 0, 1, 2, 3] rfl
  have hD : va_D (fun q : Nat => s.heap.size ≤ q) (w1 h1 a1 b1 cI cK fb g zt (nI n) (nI c) so nu ty hh pa ch9 zk zl zh zp zq (nI k) ++ (w0 h a b0 cB cJ f g (nI n) (nI c) zg (nI k) ++ wo o cO go)) := hD.sub [4, 5, 6, 0, 1, 2, 3] (by decide) rfl
  refine gji (wc := w1 h1 a1 b1 cI cK fb g zt (nI n) (nI c) so nu ty hh pa ch9 zk zl zh zp zq (nI k)) (wr := w0 h a b0 cB cJ f g (nI n) (nI c) zg (nI k) ++ wo o cO go) (As := [.int 7, .int (xs (4 * t + 2)), .int (xs (4 * t + 3))]) (rest := []) ⟨hx, hb, hml, hown, hts⟩ (c_X1_pack_7f l dC dI tk tw h1 a1 b1 cI cK _ fb g zt (nI c) so nu ty hh pa ch9 zk zl zh zp zq (nI k) n hn (xs (4 * t + 2)) (xs (4 * t + 3)) hr8) (cwV 3 hts gL_law_X1_pack rfl rfl rfl (by decide +kernel) ⟨Nat.le_of_ble_eq_true rfl, Nat.le_of_ble_eq_true rfl⟩) hKm hP hD hS hA hZ (q0 := 0) (ci := 1) rfl rfl rfl rfl hl.1 rfl (Nat.le_of_ble_eq_true rfl) dL_law_608 ⟨by show _ ≤ 1042; omega, by show _ ≤ 16674; omega⟩ (fun r_10 u_12 H locs hw_11 hP hD hS => ?_)
  have hP : va_P (dC, dI) vwCl (w1 h1 a1 b1 cI cK fb g 2 (nI n) (nI c) so nu ty hh pa ch9 zk zl zh zp zq (nI k) ++ (w0 h a b0 cB cJ f g (nI n) (nI c) zg (nI k) ++ wo o cO go)) H := hP
  have hD : va_D (fun q : Nat => s.heap.size ≤ q) (w1 h1 a1 b1 cI cK fb g 2 (nI n) (nI c) so nu ty hh pa ch9 zk zl zh zp zq (nI k) ++ (w0 h a b0 cB cJ f g (nI n) (nI c) zg (nI k) ++ wo o cO go)) := hD
  refine lv_istore (lv' := [(6, .int r_10), (5, .int 2), (0, .ref b), (1, .ref h), (2, .ref h1), (3, .ref o), (4, .int (nI (4 * t)))]) hx hb dL_law_611 hl (by decide) rfl (fun ls hl => ?_)
  refine lv_aload_n hx hb dL_law_613 rfl (lv_at hl 4 rfl) ?_
  refine gji (wc := w1 h1 a1 b1 cI cK fb g 2 (nI n) (nI c) so nu ty hh pa ch9 zk zl zh zp zq (nI k)) (wr := w0 h a b0 cB cJ f g (nI n) (nI c) zg (nI k) ++ wo o cO go) (As := []) (rest := []) ⟨hx, hb, hml, hown, hts⟩ (c_X1_thrown l dC dI tk tw h1 a1 b1 cI cK _ fb g 2 (nI n) (nI c) so nu ty hh pa ch9 zk zl zh zp zq (nI k) ) (cwV 0 hts gL_law_X1_thrown rfl rfl rfl (by decide +kernel) ⟨Nat.le_of_ble_eq_true rfl, Nat.le_of_ble_eq_true rfl⟩) hKm hP hD hS hA hZ (q0 := 0) (ci := 1) rfl rfl rfl rfl hl.1 rfl (Nat.le_of_ble_eq_true rfl) dL_law_614 ⟨by show _ ≤ 1042; omega, by show _ ≤ 16674; omega⟩ (fun r_13 u_15 H locs hw_14 hP hD hS => ?_)
  have hP : va_P (dC, dI) vwCl (w1 h1 a1 b1 cI cK fb g 2 (nI n) (nI c) so nu ty hh pa ch9 zk zl zh zp zq (nI k) ++ (w0 h a b0 cB cJ f g (nI n) (nI c) zg (nI k) ++ wo o cO go)) H := hP
  have hD : va_D (fun q : Nat => s.heap.size ≤ q) (w1 h1 a1 b1 cI cK fb g 2 (nI n) (nI c) so nu ty hh pa ch9 zk zl zh zp zq (nI k) ++ (w0 h a b0 cB cJ f g (nI n) (nI c) zg (nI k) ++ wo o cO go)) := hD
  obtain rfl : r_13 = 2 := hw_14
  refine lv_iload hx hb dL_law_617 (lv_at hl 1 rfl) ?_
  refine lv_icmp_eq (tgt := 624) hx hb dL_law_619 (by decide) (fun c_16 => ?_) (fun c_16 => ?_)
  · skip
    refine lv_iload hx hb dL_law_624 (lv_at hl 1 rfl) ?_
    refine lv_if_ne (tgt := 641) hx hb dL_law_626 (by decide) (fun c_17 => ?_) (fun c_17 => ?_)
    · skip
      refine lv_goto (tgt := 644) hx hb dL_law_641 (by decide) ?_
      have hP : va_P (dC, dI) vwCl (w0 h a b0 cB cJ f g (nI n) (nI c) zg (nI k) ++ (w1 h1 a1 b1 cI cK fb g 2 (nI n) (nI c) so nu ty hh pa ch9 zk zl zh zp zq (nI k) ++ wo o cO go)) H := hP.sub [3, 4, 5, 0, 1, 2, 6] rfl
      have hD : va_D (fun q : Nat => s.heap.size ≤ q) (w0 h a b0 cB cJ f g (nI n) (nI c) zg (nI k) ++ (w1 h1 a1 b1 cI cK fb g 2 (nI n) (nI c) so nu ty hh pa ch9 zk zl zh zp zq (nI k) ++ wo o cO go)) := hD.sub [3, 4, 5, 0, 1, 2, 6] (by decide) rfl
      refine W.widen (k := 7 + t + 1) (n := 8416 + 6 * (t + 1)) (by omega) (by omega) ?_
      exact K _ _ _ ⟨n, c, k, f, fb, g, zg, 2, so, nu, ty, hh, pa, ch9, zk, zl, zh, zp, zq, go, hn, hc, hk, hRB, hG, hP, hD, hS, lv_sub hl [2, 3, 4, 5, 6] rfl⟩
    · skip
      exact absurd c_17 (by decide)
  · skip
    exact absurd rfl c_16
set_option maxHeartbeats 4000000 in
set_option maxRecDepth 100000 in
theorem op_pack_g8 {p : Program} {e : Env} {s : State} {m : MethodId} {below : List Frame} {meth : Method} {cd : Code} {l : Launch} {b L : Nat} {xs : Nat → Int32} {dC : Nat → ClassId} {dI : Nat → Nat → Nat} {tk tw : Nat} {sa : Nat → Nat} {cB cJ cI cK cO : ClassId} {h a b0 h1 a1 b1 o t : Nat} {H : Heap} {locs : List Loc} {ls : Array Slot} (CX : LC l p s m meth cd b L xs dC dI tk tw sa cB cJ cI cK cO) (ht4 : 4 * t + 4 ≤ L) (K : ∀ (H : Heap) (locs : List Loc) (ls : Array Slot), LI s b dC dI h a b0 cB cJ h1 a1 b1 cI cK o cO t H locs ls → W p l e room_1 s m #[Value.ref b] below meth cd H locs (7 + t + 1) (8416 + 6 * (t + 1)) (lw_Z below #[Value.ref b] s) (F0 m 644 ls [])) (n : Nat) (c : Nat) (k : Nat) (f : Nat → Int32) (fb : Nat → Int32) (g : Nat → Int64) (zg : Int32) (zt : Int32) (so : Int32) (nu : Int64) (ty : Int32) (hh : Int32) (pa : Int64) (ch9 : Int64) (zk : Int32) (zl : Int32) (zh : Int32) (zp : Int32) (zq : Int32) (go : Nat → Int64) (hn : n ≤ 4096) (hc : c ≤ n) (hk : k ≤ 100) (hRB : RB n f fb) (hG : GV f c zg zk zl zh zp zq) (hP : va_P (dC, dI) vwCl (w0 h a b0 cB cJ f g (nI n) (nI c) zg (nI k) ++ (w1 h1 a1 b1 cI cK fb g zt (nI n) (nI c) so nu ty hh pa ch9 zk zl zh zp zq (nI k) ++ wo o cO go)) H) (hD : va_D (fun q : Nat => s.heap.size ≤ q) (w0 h a b0 cB cJ f g (nI n) (nI c) zg (nI k) ++ (w1 h1 a1 b1 cI cK fb g zt (nI n) (nI c) so nu ty hh pa ch9 zk zl zh zp zq (nI k) ++ wo o cO go))) (hS : va_S (fun q : Nat => s.heap.size ≤ q) s.heap H locs) (hl : lv_has ls 8 [(0, .ref b), (1, .ref h), (2, .ref h1), (3, .ref o), (4, .int (nI (4 * t)))]) (e1 : xs (4 * t + 1) = 8) (h8 : ¬ xs (4 * t + 2) < 0) (hr8 : n + phL (pk8 (xs (4 * t + 2)) (xs (4 * t + 3))) ≤ 4096) : W p l e room_1 s m #[Value.ref b] below meth cd H locs (7 + t) (8416 + 6 * t) (lw_Z below #[Value.ref b] s) (F0 m 564 ls []) := by
  obtain ⟨⟨hx, hb, hr, hml, hown, hts, hXs, hbl, hlocks⟩, hst, hL, hK, hZ, hX⟩ := CX
  have hA : ∀ q : Nat, s.heap.size ≤ q → (fun q : Nat => s.heap.size ≤ q) q := fun _ h => h
  have hbA : ¬ (fun q : Nat => s.heap.size ≤ q) b := Nat.not_le.mpr hbl
  have hKx := hK.sub (tys' := t0 cB cJ) [0, 1] rfl
  have hKm := hK.sub (tys' := t1 cI cK) [2, 3] rfl
  have hKh := hK.sub (tys' := th cB cJ cO) [0, 1, 4] rfl
  obtain ⟨b9, hb9, hs9, t1, t2, t3, t4⟩ := pkE_8 (xs (4 * t + 3)) h8
  obtain ⟨z1, z2⟩ := RB_pack (k := 8) (lo := (xs (4 * t + 2))) (hi := (xs (4 * t + 3))) (T := (pk8 (xs (4 * t + 2)) (xs (4 * t + 3)))) hb9 hRB t1 t2 t3 t4
  have hr9 : n + hd b9 ≤ 4096 := by rw [← z1]; exact hr8
  refine lv_aload_n hx hb dL_law_564 rfl (lv_at hl 1 rfl) ?_
  refine lv_aload_n hx hb dL_law_565 rfl (lv_at hl 0 rfl) ?_
  refine lv_iload hx hb dL_law_566 (lv_at hl 4 rfl) ?_
  refine lv_iconst (v := 1) hx hb dL_law_568 (by decide) ?_
  refine lv_iadd hx hb dL_law_569 ?_
  have e_1 : (nI (4 * t) + (1 : Int32)) = nI (4 * t + 1) := nI_add (4 * t) 1
  rw [e_1]
  refine va_sld hx hb hXs hbl hbA hS (vp_in_nI (by omega) (by omega)) dL_law_570 ?_
  rw [nI_clamp (by omega)]
  rw [e1]
  refine lv_aload_n hx hb dL_law_571 rfl (lv_at hl 0 rfl) ?_
  refine lv_iload hx hb dL_law_572 (lv_at hl 4 rfl) ?_
  refine lv_iconst (v := 2) hx hb dL_law_574 (by decide) ?_
  refine lv_iadd hx hb dL_law_575 ?_
  have e_2 : (nI (4 * t) + (2 : Int32)) = nI (4 * t + 2) := nI_add (4 * t) 2
  rw [e_2]
  refine va_sld hx hb hXs hbl hbA hS (vp_in_nI (by omega) (by omega)) dL_law_576 ?_
  rw [nI_clamp (by omega)]
  refine lv_aload_n hx hb dL_law_577 rfl (lv_at hl 0 rfl) ?_
  refine lv_iload hx hb dL_law_578 (lv_at hl 4 rfl) ?_
  refine lv_iconst (v := 3) hx hb dL_law_580 (by decide) ?_
  refine lv_iadd hx hb dL_law_581 ?_
  have e_3 : (nI (4 * t) + (3 : Int32)) = nI (4 * t + 3) := nI_add (4 * t) 3
  rw [e_3]
  refine va_sld hx hb hXs hbl hbA hS (vp_in_nI (by omega) (by omega)) dL_law_582 ?_
  rw [nI_clamp (by omega)]
  refine lv_aload_n hx hb dL_law_583 rfl (lv_at hl 3 rfl) ?_
  have hP : va_P (dC, dI) vwCl ((w0 h a b0 cB cJ f g (nI n) (nI c) zg (nI k) ++ wo o cO go) ++ w1 h1 a1 b1 cI cK fb g zt (nI n) (nI c) so nu ty hh pa ch9 zk zl zh zp zq (nI k)) H := hP.sub [0, 1, 2, 6, 3, 4, 5] rfl
  have hD : va_D (fun q : Nat => s.heap.size ≤ q) ((w0 h a b0 cB cJ f g (nI n) (nI c) zg (nI k) ++ wo o cO go) ++ w1 h1 a1 b1 cI cK fb g zt (nI n) (nI c) so nu ty hh pa ch9 zk zl zh zp zq (nI k)) := hD.sub [0, 1, 2, 6, 3, 4, 5] (by decide) rfl
  refine ghi (wc := w0 h a b0 cB cJ f g (nI n) (nI c) zg (nI k) ++ wo o cO go) (wr := w1 h1 a1 b1 cI cK fb g zt (nI n) (nI c) so nu ty hh pa ch9 zk zl zh zp zq (nI k)) (As := [.ref h, .int 8, .int (xs (4 * t + 2)), .int (xs (4 * t + 3)), .ref o]) (rest := []) ⟨hx, hb, hml, hown, hts⟩ (c_L_pack l hst sa dC dI tk tw h a b0 cB cJ o cO go _ f g (nI c) zg (nI k) n 8 (xs (4 * t + 2)) (xs (4 * t + 3)) (by decide) (by decide) (fun _ => h8) (fun z => absurd z (by decide)) b9 hb9 hs9 hr9) (vx_cwSW 5 hts gL_law_L_pack rfl rfl rfl (by decide +kernel) ⟨Nat.le_of_ble_eq_true rfl, Nat.le_of_ble_eq_true rfl⟩) hKh hP hD hS hA hZ hX rfl hl.1 rfl (Nat.le_of_ble_eq_true rfl) dL_law_584 ⟨by show _ ≤ 1042; omega, by show _ ≤ 16674; omega⟩ (fun r_4 u_6 H locs hw_5 hP hD hS => ?_)
  have hP : va_P (dC, dI) vwCl ((w0 h a b0 cB cJ (apR (apR (apR f n (nI b9).toInt64 1) (n + 1) (nO 8 (xs (4 * t + 2)) (xs (4 * t + 3))) (wd b9)) (n + 1 + wd b9) (xs (4 * t + 3)).toInt64 (tW b9)) g (nI (n + hd b9)) (nI c) zg (nI k) ++ wo o cO (vp_updL go 0 ((nI (hd b9)).toInt64))) ++ w1 h1 a1 b1 cI cK fb g zt (nI n) (nI c) so nu ty hh pa ch9 zk zl zh zp zq (nI k)) H := hP
  have hD : va_D (fun q : Nat => s.heap.size ≤ q) ((w0 h a b0 cB cJ (apR (apR (apR f n (nI b9).toInt64 1) (n + 1) (nO 8 (xs (4 * t + 2)) (xs (4 * t + 3))) (wd b9)) (n + 1 + wd b9) (xs (4 * t + 3)).toInt64 (tW b9)) g (nI (n + hd b9)) (nI c) zg (nI k) ++ wo o cO (vp_updL go 0 ((nI (hd b9)).toInt64))) ++ w1 h1 a1 b1 cI cK fb g zt (nI n) (nI c) so nu ty hh pa ch9 zk zl zh zp zq (nI k)) := hD
  obtain rfl : r_4 = 0 := hw_5
  refine lv_istore (lv' := [(5, .int 0), (0, .ref b), (1, .ref h), (2, .ref h1), (3, .ref o), (4, .int (nI (4 * t)))]) hx hb dL_law_587 hl (by decide) rfl (fun ls hl => ?_)
  refine lv_aload_n hx hb dL_law_589 rfl (lv_at hl 3 rfl) ?_
  refine lv_aload_n hx hb dL_law_590 rfl (lv_at hl 1 rfl) ?_
  refine lv_iload hx hb dL_law_591 (lv_at hl 5 rfl) ?_
  refine lv_iconst (v := 1) hx hb dL_law_593 (by decide) ?_
  refine lv_iadd hx hb dL_law_594 ?_
  have e_7 : (nI (4 * t) + (1 : Int32)) = nI (4 * t + 1) := nI_add (4 * t) 1
  rw [e_7]
  refine va_sld hx hb hXs hbl hbA hS (vp_in_nI (by omega) (by omega)) dL_law_595 ?_
  rw [nI_clamp (by omega)]
  rw [e1]
  refine lv_aload_n hx hb dL_law_596 rfl (lv_at hl 1 rfl) ?_
  refine lv_iload hx hb dL_law_597 (lv_at hl 5 rfl) ?_
  refine lv_iconst (v := 2) hx hb dL_law_599 (by decide) ?_
  refine lv_iadd hx hb dL_law_600 ?_
  have e_8 : (nI (4 * t) + (2 : Int32)) = nI (4 * t + 2) := nI_add (4 * t) 2
  rw [e_8]
  refine va_sld hx hb hXs hbl hbA hS (vp_in_nI (by omega) (by omega)) dL_law_601 ?_
  rw [nI_clamp (by omega)]
  refine lv_aload_n hx hb dL_law_602 rfl (lv_at hl 1 rfl) ?_
  refine lv_iload hx hb dL_law_603 (lv_at hl 5 rfl) ?_
  refine lv_iconst (v := 3) hx hb dL_law_605 (by decide) ?_
  refine lv_iadd hx hb dL_law_606 ?_
  have e_9 : (nI (4 * t) + (3 : Int32)) = nI (4 * t + 3) := nI_add (4 * t) 3
  rw [e_9]
  refine va_sld hx hb hXs hbl hbA hS (vp_in_nI (by omega) (by omega)) dL_law_607 ?_
  rw [nI_clamp (by omega)]
  have hP : va_P (dC, dI) vwCl (w1 h1 a1 b1 cI cK fb g zt (nI n) (nI c) so nu ty hh pa ch9 zk zl zh zp zq (nI k) ++ (w0 h a b0 cB cJ (apR (apR (apR f n (nI b9).toInt64 1) (n + 1) (nO 8 (xs (4 * t + 2)) (xs (4 * t + 3))) (wd b9)) (n + 1 + wd b9) (xs (4 * t + 3)).toInt64 (tW b9)) g (nI (n + hd b9)) (nI c) zg (nI k) ++ wo o cO (vp_updL go 0 ((nI (hd b9)).toInt64)))) H := hP.sub [4, 5, 6, 0, 1, 2, 3] rfl
  have hD : va_D (fun q : Nat => s.heap.size ≤ q) (w1 h1 a1 b1 cI cK fb g zt (nI n) (nI c) so nu ty hh pa ch9 zk zl zh zp zq (nI k) ++ (w0 h a b0 cB cJ (apR (apR (apR f n (nI b9).toInt64 1) (n + 1) (nO 8 (xs (4 * t + 2)) (xs (4 * t + 3))) (wd b9)) (n + 1 + wd b9) (xs (4 * t + 3)).toInt64 (tW b9)) g (nI (n + hd b9)) (nI c) zg (nI k) ++ wo o cO (vp_updL go 0 ((nI (hd b9)).toInt64)))) := hD.sub [4, 5, 6, 0, 1, 2, 3] (by decide) rfl
  refine gji (wc := w1 h1 a1 b1 cI cK fb g zt (nI n) (nI c) so nu ty hh pa ch9 zk zl zh zp zq (nI k)) (wr := w0 h a b0 cB cJ (apR (apR (apR f n (nI b9).toInt64 1) (n + 1) (nO 8 (xs (4 * t + 2)) (xs (4 * t + 3))) (wd b9)) (n + 1 + wd b9) (xs (4 * t + 3)).toInt64 (tW b9)) g (nI (n + hd b9)) (nI c) zg (nI k) ++ wo o cO (vp_updL go 0 ((nI (hd b9)).toInt64))) (As := [.int 8, .int (xs (4 * t + 2)), .int (xs (4 * t + 3))]) (rest := []) ⟨hx, hb, hml, hown, hts⟩ (c_X1_pack_8 l dC dI tk tw h1 a1 b1 cI cK _ fb g zt (nI c) so nu ty hh pa ch9 zk zl zh zp zq (nI k) n (xs (4 * t + 2)) (xs (4 * t + 3)) h8 hr8) (cwV 3 hts gL_law_X1_pack rfl rfl rfl (by decide +kernel) ⟨Nat.le_of_ble_eq_true rfl, Nat.le_of_ble_eq_true rfl⟩) hKm hP hD hS hA hZ (q0 := 0) (ci := 1) rfl rfl rfl rfl hl.1 rfl (Nat.le_of_ble_eq_true rfl) dL_law_608 ⟨by show _ ≤ 1042; omega, by show _ ≤ 16674; omega⟩ (fun r_10 u_12 H locs hw_11 hP hD hS => ?_)
  have hP : va_P (dC, dI) vwCl (w1 h1 a1 b1 cI cK (phF fb n (pk8 (xs (4 * t + 2)) (xs (4 * t + 3)))) g 0 (nI (n + phL (pk8 (xs (4 * t + 2)) (xs (4 * t + 3))))) (nI c) so nu ty hh pa ch9 zk zl zh zp zq (nI k) ++ (w0 h a b0 cB cJ (apR (apR (apR f n (nI b9).toInt64 1) (n + 1) (nO 8 (xs (4 * t + 2)) (xs (4 * t + 3))) (wd b9)) (n + 1 + wd b9) (xs (4 * t + 3)).toInt64 (tW b9)) g (nI (n + hd b9)) (nI c) zg (nI k) ++ wo o cO (vp_updL go 0 ((nI (hd b9)).toInt64)))) H := hP
  have hD : va_D (fun q : Nat => s.heap.size ≤ q) (w1 h1 a1 b1 cI cK (phF fb n (pk8 (xs (4 * t + 2)) (xs (4 * t + 3)))) g 0 (nI (n + phL (pk8 (xs (4 * t + 2)) (xs (4 * t + 3))))) (nI c) so nu ty hh pa ch9 zk zl zh zp zq (nI k) ++ (w0 h a b0 cB cJ (apR (apR (apR f n (nI b9).toInt64 1) (n + 1) (nO 8 (xs (4 * t + 2)) (xs (4 * t + 3))) (wd b9)) (n + 1 + wd b9) (xs (4 * t + 3)).toInt64 (tW b9)) g (nI (n + hd b9)) (nI c) zg (nI k) ++ wo o cO (vp_updL go 0 ((nI (hd b9)).toInt64)))) := hD
  obtain rfl : r_10 = nI (phL (pk8 (xs (4 * t + 2)) (xs (4 * t + 3)))) := hw_11
  rw [z1] at hP hD
  have hP : va_P (dC, dI) vwCl (w1 h1 a1 b1 cI cK (phF fb n (pk8 (xs (4 * t + 2)) (xs (4 * t + 3)))) g 0 (nI (n + hd b9)) (nI c) so nu ty hh pa ch9 zk zl zh zp zq (nI k) ++ (w0 h a b0 cB cJ (apR (apR (apR f n (nI b9).toInt64 1) (n + 1) (nO 8 (xs (4 * t + 2)) (xs (4 * t + 3))) (wd b9)) (n + 1 + wd b9) (xs (4 * t + 3)).toInt64 (tW b9)) g (nI (n + hd b9)) (nI c) zg (nI k) ++ wo o cO (vp_updL go 0 ((nI (hd b9)).toInt64)))) H := hP
  have hD : va_D (fun q : Nat => s.heap.size ≤ q) (w1 h1 a1 b1 cI cK (phF fb n (pk8 (xs (4 * t + 2)) (xs (4 * t + 3)))) g 0 (nI (n + hd b9)) (nI c) so nu ty hh pa ch9 zk zl zh zp zq (nI k) ++ (w0 h a b0 cB cJ (apR (apR (apR f n (nI b9).toInt64 1) (n + 1) (nO 8 (xs (4 * t + 2)) (xs (4 * t + 3))) (wd b9)) (n + 1 + wd b9) (xs (4 * t + 3)).toInt64 (tW b9)) g (nI (n + hd b9)) (nI c) zg (nI k) ++ wo o cO (vp_updL go 0 ((nI (hd b9)).toInt64)))) := hD
  refine lv_istore (lv' := [(6, .int (nI (phL (pk8 (xs (4 * t + 2)) (xs (4 * t + 3)))))), (5, .int 0), (0, .ref b), (1, .ref h), (2, .ref h1), (3, .ref o), (4, .int (nI (4 * t)))]) hx hb dL_law_611 hl (by decide) rfl (fun ls hl => ?_)
  refine lv_aload_n hx hb dL_law_613 rfl (lv_at hl 4 rfl) ?_
  refine gji (wc := w1 h1 a1 b1 cI cK (phF fb n (pk8 (xs (4 * t + 2)) (xs (4 * t + 3)))) g 0 (nI (n + hd b9)) (nI c) so nu ty hh pa ch9 zk zl zh zp zq (nI k)) (wr := w0 h a b0 cB cJ (apR (apR (apR f n (nI b9).toInt64 1) (n + 1) (nO 8 (xs (4 * t + 2)) (xs (4 * t + 3))) (wd b9)) (n + 1 + wd b9) (xs (4 * t + 3)).toInt64 (tW b9)) g (nI (n + hd b9)) (nI c) zg (nI k) ++ wo o cO (vp_updL go 0 ((nI (hd b9)).toInt64))) (As := []) (rest := []) ⟨hx, hb, hml, hown, hts⟩ (c_X1_thrown l dC dI tk tw h1 a1 b1 cI cK _ (phF fb n (pk8 (xs (4 * t + 2)) (xs (4 * t + 3)))) g 0 (nI (n + hd b9)) (nI c) so nu ty hh pa ch9 zk zl zh zp zq (nI k) ) (cwV 0 hts gL_law_X1_thrown rfl rfl rfl (by decide +kernel) ⟨Nat.le_of_ble_eq_true rfl, Nat.le_of_ble_eq_true rfl⟩) hKm hP hD hS hA hZ (q0 := 0) (ci := 1) rfl rfl rfl rfl hl.1 rfl (Nat.le_of_ble_eq_true rfl) dL_law_614 ⟨by show _ ≤ 1042; omega, by show _ ≤ 16674; omega⟩ (fun r_13 u_15 H locs hw_14 hP hD hS => ?_)
  have hP : va_P (dC, dI) vwCl (w1 h1 a1 b1 cI cK (phF fb n (pk8 (xs (4 * t + 2)) (xs (4 * t + 3)))) g 0 (nI (n + hd b9)) (nI c) so nu ty hh pa ch9 zk zl zh zp zq (nI k) ++ (w0 h a b0 cB cJ (apR (apR (apR f n (nI b9).toInt64 1) (n + 1) (nO 8 (xs (4 * t + 2)) (xs (4 * t + 3))) (wd b9)) (n + 1 + wd b9) (xs (4 * t + 3)).toInt64 (tW b9)) g (nI (n + hd b9)) (nI c) zg (nI k) ++ wo o cO (vp_updL go 0 ((nI (hd b9)).toInt64)))) H := hP
  have hD : va_D (fun q : Nat => s.heap.size ≤ q) (w1 h1 a1 b1 cI cK (phF fb n (pk8 (xs (4 * t + 2)) (xs (4 * t + 3)))) g 0 (nI (n + hd b9)) (nI c) so nu ty hh pa ch9 zk zl zh zp zq (nI k) ++ (w0 h a b0 cB cJ (apR (apR (apR f n (nI b9).toInt64 1) (n + 1) (nO 8 (xs (4 * t + 2)) (xs (4 * t + 3))) (wd b9)) (n + 1 + wd b9) (xs (4 * t + 3)).toInt64 (tW b9)) g (nI (n + hd b9)) (nI c) zg (nI k) ++ wo o cO (vp_updL go 0 ((nI (hd b9)).toInt64)))) := hD
  obtain rfl : r_13 = 0 := hw_14
  refine lv_iload hx hb dL_law_617 (lv_at hl 1 rfl) ?_
  refine lv_icmp_eq (tgt := 624) hx hb dL_law_619 (by decide) (fun c_16 => ?_) (fun c_16 => ?_)
  · skip
    refine lv_iload hx hb dL_law_624 (lv_at hl 1 rfl) ?_
    refine lv_if_ne (tgt := 641) hx hb dL_law_626 (by decide) (fun c_17 => ?_) (fun c_17 => ?_)
    · skip
      exact absurd (by decide) c_17
    · skip
      refine lv_aload_n hx hb dL_law_629 rfl (lv_at hl 5 rfl) ?_
      refine lv_iconst (v := 0) hx hb dL_law_630 (by decide) ?_
      refine va_lald hx hb hK hP 6 4 rfl rfl vp01 dL_law_631 ?_
      have e_18 : (vp_updL go 0 ((nI (hd b9)).toInt64) (0 : Int32).toNatClampNeg : Int64) = ((nI (hd b9)).toInt64) := pk_uLs
      rw [e_18]
      refine lv_iload hx hb dL_law_632 (lv_at hl 0 rfl) ?_
      refine lv_i2l hx hb dL_law_634 rfl ?_
      refine W.lcmp hx hb dL_law_635 ?_
      refine lv_if_eq (tgt := 641) hx hb dL_law_636 (by decide) (fun c_19 => ?_) (fun c_19 => ?_)
      · skip
        have c_19 := (lg_cmp_eq ((nI (hd b9)).toInt64) ((nI (phL (pk8 (xs (4 * t + 2)) (xs (4 * t + 3))))).toInt64)).mp c_19
        refine lv_goto (tgt := 644) hx hb dL_law_641 (by decide) ?_
        have hP : va_P (dC, dI) vwCl (w0 h a b0 cB cJ (apR (apR (apR f n (nI b9).toInt64 1) (n + 1) (nO 8 (xs (4 * t + 2)) (xs (4 * t + 3))) (wd b9)) (n + 1 + wd b9) (xs (4 * t + 3)).toInt64 (tW b9)) g (nI (n + hd b9)) (nI c) zg (nI k) ++ (w1 h1 a1 b1 cI cK (phF fb n (pk8 (xs (4 * t + 2)) (xs (4 * t + 3)))) g 0 (nI (n + hd b9)) (nI c) so nu ty hh pa ch9 zk zl zh zp zq (nI k) ++ wo o cO (vp_updL go 0 ((nI (hd b9)).toInt64)))) H := hP.sub [3, 4, 5, 0, 1, 2, 6] rfl
        have hD : va_D (fun q : Nat => s.heap.size ≤ q) (w0 h a b0 cB cJ (apR (apR (apR f n (nI b9).toInt64 1) (n + 1) (nO 8 (xs (4 * t + 2)) (xs (4 * t + 3))) (wd b9)) (n + 1 + wd b9) (xs (4 * t + 3)).toInt64 (tW b9)) g (nI (n + hd b9)) (nI c) zg (nI k) ++ (w1 h1 a1 b1 cI cK (phF fb n (pk8 (xs (4 * t + 2)) (xs (4 * t + 3)))) g 0 (nI (n + hd b9)) (nI c) so nu ty hh pa ch9 zk zl zh zp zq (nI k) ++ wo o cO (vp_updL go 0 ((nI (hd b9)).toInt64)))) := hD.sub [3, 4, 5, 0, 1, 2, 6] (by decide) rfl
        refine W.widen (k := 7 + t + 1) (n := 8416 + 6 * (t + 1)) (by omega) (by omega) ?_
        exact K _ _ _ ⟨n + hd b9, c, k, apR (apR (apR f n (nI b9).toInt64 1) (n + 1) (nO 8 (xs (4 * t + 2)) (xs (4 * t + 3))) (wd b9)) (n + 1 + wd b9) (xs (4 * t + 3)).toInt64 (tW b9), phF fb n (pk8 (xs (4 * t + 2)) (xs (4 * t + 3))), g, zg, 0, so, nu, ty, hh, pa, ch9, zk, zl, zh, zp, zq, vp_updL go 0 ((nI (hd b9)).toInt64), hr9, (by omega), hk, z2, (GV_mono hG (fun j hj => by rw [apR_lo _ _ _ _ (by omega), apR_lo _ _ _ _ (by omega), apR_lo _ _ _ _ (by omega)]) (Nat.le_refl _)), hP, hD, hS, lv_sub hl [2, 3, 4, 5, 6] rfl⟩
      · skip
        have c_19 := (not_congr (lg_cmp_eq ((nI (hd b9)).toInt64) ((nI (phL (pk8 (xs (4 * t + 2)) (xs (4 * t + 3))))).toInt64))).mp c_19
        exact absurd (by rw [z1]) c_19
  · skip
    exact absurd rfl c_16
set_option maxHeartbeats 4000000 in
set_option maxRecDepth 100000 in
theorem op_pack_f8 {p : Program} {e : Env} {s : State} {m : MethodId} {below : List Frame} {meth : Method} {cd : Code} {l : Launch} {b L : Nat} {xs : Nat → Int32} {dC : Nat → ClassId} {dI : Nat → Nat → Nat} {tk tw : Nat} {sa : Nat → Nat} {cB cJ cI cK cO : ClassId} {h a b0 h1 a1 b1 o t : Nat} {H : Heap} {locs : List Loc} {ls : Array Slot} (CX : LC l p s m meth cd b L xs dC dI tk tw sa cB cJ cI cK cO) (ht4 : 4 * t + 4 ≤ L) (K : ∀ (H : Heap) (locs : List Loc) (ls : Array Slot), LI s b dC dI h a b0 cB cJ h1 a1 b1 cI cK o cO t H locs ls → W p l e room_1 s m #[Value.ref b] below meth cd H locs (7 + t + 1) (8416 + 6 * (t + 1)) (lw_Z below #[Value.ref b] s) (F0 m 644 ls [])) (n : Nat) (c : Nat) (k : Nat) (f : Nat → Int32) (fb : Nat → Int32) (g : Nat → Int64) (zg : Int32) (zt : Int32) (so : Int32) (nu : Int64) (ty : Int32) (hh : Int32) (pa : Int64) (ch9 : Int64) (zk : Int32) (zl : Int32) (zh : Int32) (zp : Int32) (zq : Int32) (go : Nat → Int64) (hn : n ≤ 4096) (hc : c ≤ n) (hk : k ≤ 100) (hRB : RB n f fb) (hG : GV f c zg zk zl zh zp zq) (hP : va_P (dC, dI) vwCl (w0 h a b0 cB cJ f g (nI n) (nI c) zg (nI k) ++ (w1 h1 a1 b1 cI cK fb g zt (nI n) (nI c) so nu ty hh pa ch9 zk zl zh zp zq (nI k) ++ wo o cO go)) H) (hD : va_D (fun q : Nat => s.heap.size ≤ q) (w0 h a b0 cB cJ f g (nI n) (nI c) zg (nI k) ++ (w1 h1 a1 b1 cI cK fb g zt (nI n) (nI c) so nu ty hh pa ch9 zk zl zh zp zq (nI k) ++ wo o cO go))) (hS : va_S (fun q : Nat => s.heap.size ≤ q) s.heap H locs) (hl : lv_has ls 8 [(0, .ref b), (1, .ref h), (2, .ref h1), (3, .ref o), (4, .int (nI (4 * t)))]) (e1 : xs (4 * t + 1) = 8) (h8 : ¬ xs (4 * t + 2) < 0) (hr8 : 4096 < n + phL (pk8 (xs (4 * t + 2)) (xs (4 * t + 3)))) : W p l e room_1 s m #[Value.ref b] below meth cd H locs (7 + t) (8416 + 6 * t) (lw_Z below #[Value.ref b] s) (F0 m 564 ls []) := by
  obtain ⟨⟨hx, hb, hr, hml, hown, hts, hXs, hbl, hlocks⟩, hst, hL, hK, hZ, hX⟩ := CX
  have hA : ∀ q : Nat, s.heap.size ≤ q → (fun q : Nat => s.heap.size ≤ q) q := fun _ h => h
  have hbA : ¬ (fun q : Nat => s.heap.size ≤ q) b := Nat.not_le.mpr hbl
  have hKx := hK.sub (tys' := t0 cB cJ) [0, 1] rfl
  have hKm := hK.sub (tys' := t1 cI cK) [2, 3] rfl
  have hKh := hK.sub (tys' := th cB cJ cO) [0, 1, 4] rfl
  obtain ⟨b9, hb9, hs9, t1, t2, t3, t4⟩ := pkE_8 (xs (4 * t + 3)) h8
  obtain ⟨z1, z2⟩ := RB_pack (k := 8) (lo := (xs (4 * t + 2))) (hi := (xs (4 * t + 3))) (T := (pk8 (xs (4 * t + 2)) (xs (4 * t + 3)))) hb9 hRB t1 t2 t3 t4
  have hr9 : 4096 < n + hd b9 := by rw [← z1]; exact hr8
  refine lv_aload_n hx hb dL_law_564 rfl (lv_at hl 1 rfl) ?_
  refine lv_aload_n hx hb dL_law_565 rfl (lv_at hl 0 rfl) ?_
  refine lv_iload hx hb dL_law_566 (lv_at hl 4 rfl) ?_
  refine lv_iconst (v := 1) hx hb dL_law_568 (by decide) ?_
  refine lv_iadd hx hb dL_law_569 ?_
  have e_1 : (nI (4 * t) + (1 : Int32)) = nI (4 * t + 1) := nI_add (4 * t) 1
  rw [e_1]
  refine va_sld hx hb hXs hbl hbA hS (vp_in_nI (by omega) (by omega)) dL_law_570 ?_
  rw [nI_clamp (by omega)]
  rw [e1]
  refine lv_aload_n hx hb dL_law_571 rfl (lv_at hl 0 rfl) ?_
  refine lv_iload hx hb dL_law_572 (lv_at hl 4 rfl) ?_
  refine lv_iconst (v := 2) hx hb dL_law_574 (by decide) ?_
  refine lv_iadd hx hb dL_law_575 ?_
  have e_2 : (nI (4 * t) + (2 : Int32)) = nI (4 * t + 2) := nI_add (4 * t) 2
  rw [e_2]
  refine va_sld hx hb hXs hbl hbA hS (vp_in_nI (by omega) (by omega)) dL_law_576 ?_
  rw [nI_clamp (by omega)]
  refine lv_aload_n hx hb dL_law_577 rfl (lv_at hl 0 rfl) ?_
  refine lv_iload hx hb dL_law_578 (lv_at hl 4 rfl) ?_
  refine lv_iconst (v := 3) hx hb dL_law_580 (by decide) ?_
  refine lv_iadd hx hb dL_law_581 ?_
  have e_3 : (nI (4 * t) + (3 : Int32)) = nI (4 * t + 3) := nI_add (4 * t) 3
  rw [e_3]
  refine va_sld hx hb hXs hbl hbA hS (vp_in_nI (by omega) (by omega)) dL_law_582 ?_
  rw [nI_clamp (by omega)]
  refine lv_aload_n hx hb dL_law_583 rfl (lv_at hl 3 rfl) ?_
  have hP : va_P (dC, dI) vwCl ((w0 h a b0 cB cJ f g (nI n) (nI c) zg (nI k) ++ wo o cO go) ++ w1 h1 a1 b1 cI cK fb g zt (nI n) (nI c) so nu ty hh pa ch9 zk zl zh zp zq (nI k)) H := hP.sub [0, 1, 2, 6, 3, 4, 5] rfl
  have hD : va_D (fun q : Nat => s.heap.size ≤ q) ((w0 h a b0 cB cJ f g (nI n) (nI c) zg (nI k) ++ wo o cO go) ++ w1 h1 a1 b1 cI cK fb g zt (nI n) (nI c) so nu ty hh pa ch9 zk zl zh zp zq (nI k)) := hD.sub [0, 1, 2, 6, 3, 4, 5] (by decide) rfl
  refine ghi (wc := w0 h a b0 cB cJ f g (nI n) (nI c) zg (nI k) ++ wo o cO go) (wr := w1 h1 a1 b1 cI cK fb g zt (nI n) (nI c) so nu ty hh pa ch9 zk zl zh zp zq (nI k)) (As := [.ref h, .int 8, .int (xs (4 * t + 2)), .int (xs (4 * t + 3)), .ref o]) (rest := []) ⟨hx, hb, hml, hown, hts⟩ (c_L_pack_f l hst sa dC dI tk tw h a b0 cB cJ o cO go _ f g (nI c) zg (nI k) n hn 8 (xs (4 * t + 2)) (xs (4 * t + 3)) (by decide) (by decide) (fun _ => h8) (fun z => absurd z (by decide)) b9 hb9 hs9 hr9) (vx_cwSW 5 hts gL_law_L_pack rfl rfl rfl (by decide +kernel) ⟨Nat.le_of_ble_eq_true rfl, Nat.le_of_ble_eq_true rfl⟩) hKh hP hD hS hA hZ hX rfl hl.1 rfl (Nat.le_of_ble_eq_true rfl) dL_law_584 ⟨by show _ ≤ 1042; omega, by show _ ≤ 16674; omega⟩ (fun r_4 u_6 H locs hw_5 hP hD hS => ?_)
  have hP : va_P (dC, dI) vwCl ((w0 h a b0 cB cJ f g (nI n) (nI c) zg (nI k) ++ wo o cO go) ++ w1 h1 a1 b1 cI cK fb g zt (nI n) (nI c) so nu ty hh pa ch9 zk zl zh zp zq (nI k)) H := hP
  have hD : va_D (fun q : Nat => s.heap.size ≤ q) ((w0 h a b0 cB cJ f g (nI n) (nI c) zg (nI k) ++ wo o cO go) ++ w1 h1 a1 b1 cI cK fb g zt (nI n) (nI c) so nu ty hh pa ch9 zk zl zh zp zq (nI k)) := hD
  obtain rfl : r_4 = 2 := hw_5
  refine lv_istore (lv' := [(5, .int 2), (0, .ref b), (1, .ref h), (2, .ref h1), (3, .ref o), (4, .int (nI (4 * t)))]) hx hb dL_law_587 hl (by decide) rfl (fun ls hl => ?_)
  refine lv_aload_n hx hb dL_law_589 rfl (lv_at hl 3 rfl) ?_
  refine lv_aload_n hx hb dL_law_590 rfl (lv_at hl 1 rfl) ?_
  refine lv_iload hx hb dL_law_591 (lv_at hl 5 rfl) ?_
  refine lv_iconst (v := 1) hx hb dL_law_593 (by decide) ?_
  refine lv_iadd hx hb dL_law_594 ?_
  have e_7 : (nI (4 * t) + (1 : Int32)) = nI (4 * t + 1) := nI_add (4 * t) 1
  rw [e_7]
  refine va_sld hx hb hXs hbl hbA hS (vp_in_nI (by omega) (by omega)) dL_law_595 ?_
  rw [nI_clamp (by omega)]
  rw [e1]
  refine lv_aload_n hx hb dL_law_596 rfl (lv_at hl 1 rfl) ?_
  refine lv_iload hx hb dL_law_597 (lv_at hl 5 rfl) ?_
  refine lv_iconst (v := 2) hx hb dL_law_599 (by decide) ?_
  refine lv_iadd hx hb dL_law_600 ?_
  have e_8 : (nI (4 * t) + (2 : Int32)) = nI (4 * t + 2) := nI_add (4 * t) 2
  rw [e_8]
  refine va_sld hx hb hXs hbl hbA hS (vp_in_nI (by omega) (by omega)) dL_law_601 ?_
  rw [nI_clamp (by omega)]
  refine lv_aload_n hx hb dL_law_602 rfl (lv_at hl 1 rfl) ?_
  refine lv_iload hx hb dL_law_603 (lv_at hl 5 rfl) ?_
  refine lv_iconst (v := 3) hx hb dL_law_605 (by decide) ?_
  refine lv_iadd hx hb dL_law_606 ?_
  have e_9 : (nI (4 * t) + (3 : Int32)) = nI (4 * t + 3) := nI_add (4 * t) 3
  rw [e_9]
  refine va_sld hx hb hXs hbl hbA hS (vp_in_nI (by omega) (by omega)) dL_law_607 ?_
  rw [nI_clamp (by omega)]
  have hP : va_P (dC, dI) vwCl (w1 h1 a1 b1 cI cK fb g zt (nI n) (nI c) so nu ty hh pa ch9 zk zl zh zp zq (nI k) ++ (w0 h a b0 cB cJ f g (nI n) (nI c) zg (nI k) ++ wo o cO go)) H := hP.sub [4, 5, 6, 0, 1, 2, 3] rfl
  have hD : va_D (fun q : Nat => s.heap.size ≤ q) (w1 h1 a1 b1 cI cK fb g zt (nI n) (nI c) so nu ty hh pa ch9 zk zl zh zp zq (nI k) ++ (w0 h a b0 cB cJ f g (nI n) (nI c) zg (nI k) ++ wo o cO go)) := hD.sub [4, 5, 6, 0, 1, 2, 3] (by decide) rfl
  refine gji (wc := w1 h1 a1 b1 cI cK fb g zt (nI n) (nI c) so nu ty hh pa ch9 zk zl zh zp zq (nI k)) (wr := w0 h a b0 cB cJ f g (nI n) (nI c) zg (nI k) ++ wo o cO go) (As := [.int 8, .int (xs (4 * t + 2)), .int (xs (4 * t + 3))]) (rest := []) ⟨hx, hb, hml, hown, hts⟩ (c_X1_pack_8f l dC dI tk tw h1 a1 b1 cI cK _ fb g zt (nI c) so nu ty hh pa ch9 zk zl zh zp zq (nI k) n hn (xs (4 * t + 2)) (xs (4 * t + 3)) h8 hr8) (cwV 3 hts gL_law_X1_pack rfl rfl rfl (by decide +kernel) ⟨Nat.le_of_ble_eq_true rfl, Nat.le_of_ble_eq_true rfl⟩) hKm hP hD hS hA hZ (q0 := 0) (ci := 1) rfl rfl rfl rfl hl.1 rfl (Nat.le_of_ble_eq_true rfl) dL_law_608 ⟨by show _ ≤ 1042; omega, by show _ ≤ 16674; omega⟩ (fun r_10 u_12 H locs hw_11 hP hD hS => ?_)
  have hP : va_P (dC, dI) vwCl (w1 h1 a1 b1 cI cK fb g 2 (nI n) (nI c) so nu ty hh pa ch9 zk zl zh zp zq (nI k) ++ (w0 h a b0 cB cJ f g (nI n) (nI c) zg (nI k) ++ wo o cO go)) H := hP
  have hD : va_D (fun q : Nat => s.heap.size ≤ q) (w1 h1 a1 b1 cI cK fb g 2 (nI n) (nI c) so nu ty hh pa ch9 zk zl zh zp zq (nI k) ++ (w0 h a b0 cB cJ f g (nI n) (nI c) zg (nI k) ++ wo o cO go)) := hD
  refine lv_istore (lv' := [(6, .int r_10), (5, .int 2), (0, .ref b), (1, .ref h), (2, .ref h1), (3, .ref o), (4, .int (nI (4 * t)))]) hx hb dL_law_611 hl (by decide) rfl (fun ls hl => ?_)
  refine lv_aload_n hx hb dL_law_613 rfl (lv_at hl 4 rfl) ?_
  refine gji (wc := w1 h1 a1 b1 cI cK fb g 2 (nI n) (nI c) so nu ty hh pa ch9 zk zl zh zp zq (nI k)) (wr := w0 h a b0 cB cJ f g (nI n) (nI c) zg (nI k) ++ wo o cO go) (As := []) (rest := []) ⟨hx, hb, hml, hown, hts⟩ (c_X1_thrown l dC dI tk tw h1 a1 b1 cI cK _ fb g 2 (nI n) (nI c) so nu ty hh pa ch9 zk zl zh zp zq (nI k) ) (cwV 0 hts gL_law_X1_thrown rfl rfl rfl (by decide +kernel) ⟨Nat.le_of_ble_eq_true rfl, Nat.le_of_ble_eq_true rfl⟩) hKm hP hD hS hA hZ (q0 := 0) (ci := 1) rfl rfl rfl rfl hl.1 rfl (Nat.le_of_ble_eq_true rfl) dL_law_614 ⟨by show _ ≤ 1042; omega, by show _ ≤ 16674; omega⟩ (fun r_13 u_15 H locs hw_14 hP hD hS => ?_)
  have hP : va_P (dC, dI) vwCl (w1 h1 a1 b1 cI cK fb g 2 (nI n) (nI c) so nu ty hh pa ch9 zk zl zh zp zq (nI k) ++ (w0 h a b0 cB cJ f g (nI n) (nI c) zg (nI k) ++ wo o cO go)) H := hP
  have hD : va_D (fun q : Nat => s.heap.size ≤ q) (w1 h1 a1 b1 cI cK fb g 2 (nI n) (nI c) so nu ty hh pa ch9 zk zl zh zp zq (nI k) ++ (w0 h a b0 cB cJ f g (nI n) (nI c) zg (nI k) ++ wo o cO go)) := hD
  obtain rfl : r_13 = 2 := hw_14
  refine lv_iload hx hb dL_law_617 (lv_at hl 1 rfl) ?_
  refine lv_icmp_eq (tgt := 624) hx hb dL_law_619 (by decide) (fun c_16 => ?_) (fun c_16 => ?_)
  · skip
    refine lv_iload hx hb dL_law_624 (lv_at hl 1 rfl) ?_
    refine lv_if_ne (tgt := 641) hx hb dL_law_626 (by decide) (fun c_17 => ?_) (fun c_17 => ?_)
    · skip
      refine lv_goto (tgt := 644) hx hb dL_law_641 (by decide) ?_
      have hP : va_P (dC, dI) vwCl (w0 h a b0 cB cJ f g (nI n) (nI c) zg (nI k) ++ (w1 h1 a1 b1 cI cK fb g 2 (nI n) (nI c) so nu ty hh pa ch9 zk zl zh zp zq (nI k) ++ wo o cO go)) H := hP.sub [3, 4, 5, 0, 1, 2, 6] rfl
      have hD : va_D (fun q : Nat => s.heap.size ≤ q) (w0 h a b0 cB cJ f g (nI n) (nI c) zg (nI k) ++ (w1 h1 a1 b1 cI cK fb g 2 (nI n) (nI c) so nu ty hh pa ch9 zk zl zh zp zq (nI k) ++ wo o cO go)) := hD.sub [3, 4, 5, 0, 1, 2, 6] (by decide) rfl
      refine W.widen (k := 7 + t + 1) (n := 8416 + 6 * (t + 1)) (by omega) (by omega) ?_
      exact K _ _ _ ⟨n, c, k, f, fb, g, zg, 2, so, nu, ty, hh, pa, ch9, zk, zl, zh, zp, zq, go, hn, hc, hk, hRB, hG, hP, hD, hS, lv_sub hl [2, 3, 4, 5, 6] rfl⟩
    · skip
      exact absurd c_17 (by decide)
  · skip
    exact absurd rfl c_16
set_option maxHeartbeats 4000000 in
set_option maxRecDepth 100000 in
theorem op_pack_g9 {p : Program} {e : Env} {s : State} {m : MethodId} {below : List Frame} {meth : Method} {cd : Code} {l : Launch} {b L : Nat} {xs : Nat → Int32} {dC : Nat → ClassId} {dI : Nat → Nat → Nat} {tk tw : Nat} {sa : Nat → Nat} {cB cJ cI cK cO : ClassId} {h a b0 h1 a1 b1 o t : Nat} {H : Heap} {locs : List Loc} {ls : Array Slot} (CX : LC l p s m meth cd b L xs dC dI tk tw sa cB cJ cI cK cO) (ht4 : 4 * t + 4 ≤ L) (K : ∀ (H : Heap) (locs : List Loc) (ls : Array Slot), LI s b dC dI h a b0 cB cJ h1 a1 b1 cI cK o cO t H locs ls → W p l e room_1 s m #[Value.ref b] below meth cd H locs (7 + t + 1) (8416 + 6 * (t + 1)) (lw_Z below #[Value.ref b] s) (F0 m 644 ls [])) (n : Nat) (c : Nat) (k : Nat) (f : Nat → Int32) (fb : Nat → Int32) (g : Nat → Int64) (zg : Int32) (zt : Int32) (so : Int32) (nu : Int64) (ty : Int32) (hh : Int32) (pa : Int64) (ch9 : Int64) (zk : Int32) (zl : Int32) (zh : Int32) (zp : Int32) (zq : Int32) (go : Nat → Int64) (hn : n ≤ 4096) (hc : c ≤ n) (hk : k ≤ 100) (hRB : RB n f fb) (hG : GV f c zg zk zl zh zp zq) (hP : va_P (dC, dI) vwCl (w0 h a b0 cB cJ f g (nI n) (nI c) zg (nI k) ++ (w1 h1 a1 b1 cI cK fb g zt (nI n) (nI c) so nu ty hh pa ch9 zk zl zh zp zq (nI k) ++ wo o cO go)) H) (hD : va_D (fun q : Nat => s.heap.size ≤ q) (w0 h a b0 cB cJ f g (nI n) (nI c) zg (nI k) ++ (w1 h1 a1 b1 cI cK fb g zt (nI n) (nI c) so nu ty hh pa ch9 zk zl zh zp zq (nI k) ++ wo o cO go))) (hS : va_S (fun q : Nat => s.heap.size ≤ q) s.heap H locs) (hl : lv_has ls 8 [(0, .ref b), (1, .ref h), (2, .ref h1), (3, .ref o), (4, .int (nI (4 * t)))]) (e1 : xs (4 * t + 1) = 9) (h8 : ¬ xs (4 * t + 2) < 0) (hr8 : n + phL (pk9 (xs (4 * t + 2)) (xs (4 * t + 3))) ≤ 4096) : W p l e room_1 s m #[Value.ref b] below meth cd H locs (7 + t) (8416 + 6 * t) (lw_Z below #[Value.ref b] s) (F0 m 564 ls []) := by
  obtain ⟨⟨hx, hb, hr, hml, hown, hts, hXs, hbl, hlocks⟩, hst, hL, hK, hZ, hX⟩ := CX
  have hA : ∀ q : Nat, s.heap.size ≤ q → (fun q : Nat => s.heap.size ≤ q) q := fun _ h => h
  have hbA : ¬ (fun q : Nat => s.heap.size ≤ q) b := Nat.not_le.mpr hbl
  have hKx := hK.sub (tys' := t0 cB cJ) [0, 1] rfl
  have hKm := hK.sub (tys' := t1 cI cK) [2, 3] rfl
  have hKh := hK.sub (tys' := th cB cJ cO) [0, 1, 4] rfl
  obtain ⟨b9, hb9, hs9, t1, t2, t3, t4⟩ := pkE_9 (xs (4 * t + 3)) h8
  obtain ⟨z1, z2⟩ := RB_pack (k := 9) (lo := (xs (4 * t + 2))) (hi := (xs (4 * t + 3))) (T := (pk9 (xs (4 * t + 2)) (xs (4 * t + 3)))) hb9 hRB t1 t2 t3 t4
  have hr9 : n + hd b9 ≤ 4096 := by rw [← z1]; exact hr8
  refine lv_aload_n hx hb dL_law_564 rfl (lv_at hl 1 rfl) ?_
  refine lv_aload_n hx hb dL_law_565 rfl (lv_at hl 0 rfl) ?_
  refine lv_iload hx hb dL_law_566 (lv_at hl 4 rfl) ?_
  refine lv_iconst (v := 1) hx hb dL_law_568 (by decide) ?_
  refine lv_iadd hx hb dL_law_569 ?_
  have e_1 : (nI (4 * t) + (1 : Int32)) = nI (4 * t + 1) := nI_add (4 * t) 1
  rw [e_1]
  refine va_sld hx hb hXs hbl hbA hS (vp_in_nI (by omega) (by omega)) dL_law_570 ?_
  rw [nI_clamp (by omega)]
  rw [e1]
  refine lv_aload_n hx hb dL_law_571 rfl (lv_at hl 0 rfl) ?_
  refine lv_iload hx hb dL_law_572 (lv_at hl 4 rfl) ?_
  refine lv_iconst (v := 2) hx hb dL_law_574 (by decide) ?_
  refine lv_iadd hx hb dL_law_575 ?_
  have e_2 : (nI (4 * t) + (2 : Int32)) = nI (4 * t + 2) := nI_add (4 * t) 2
  rw [e_2]
  refine va_sld hx hb hXs hbl hbA hS (vp_in_nI (by omega) (by omega)) dL_law_576 ?_
  rw [nI_clamp (by omega)]
  refine lv_aload_n hx hb dL_law_577 rfl (lv_at hl 0 rfl) ?_
  refine lv_iload hx hb dL_law_578 (lv_at hl 4 rfl) ?_
  refine lv_iconst (v := 3) hx hb dL_law_580 (by decide) ?_
  refine lv_iadd hx hb dL_law_581 ?_
  have e_3 : (nI (4 * t) + (3 : Int32)) = nI (4 * t + 3) := nI_add (4 * t) 3
  rw [e_3]
  refine va_sld hx hb hXs hbl hbA hS (vp_in_nI (by omega) (by omega)) dL_law_582 ?_
  rw [nI_clamp (by omega)]
  refine lv_aload_n hx hb dL_law_583 rfl (lv_at hl 3 rfl) ?_
  have hP : va_P (dC, dI) vwCl ((w0 h a b0 cB cJ f g (nI n) (nI c) zg (nI k) ++ wo o cO go) ++ w1 h1 a1 b1 cI cK fb g zt (nI n) (nI c) so nu ty hh pa ch9 zk zl zh zp zq (nI k)) H := hP.sub [0, 1, 2, 6, 3, 4, 5] rfl
  have hD : va_D (fun q : Nat => s.heap.size ≤ q) ((w0 h a b0 cB cJ f g (nI n) (nI c) zg (nI k) ++ wo o cO go) ++ w1 h1 a1 b1 cI cK fb g zt (nI n) (nI c) so nu ty hh pa ch9 zk zl zh zp zq (nI k)) := hD.sub [0, 1, 2, 6, 3, 4, 5] (by decide) rfl
  refine ghi (wc := w0 h a b0 cB cJ f g (nI n) (nI c) zg (nI k) ++ wo o cO go) (wr := w1 h1 a1 b1 cI cK fb g zt (nI n) (nI c) so nu ty hh pa ch9 zk zl zh zp zq (nI k)) (As := [.ref h, .int 9, .int (xs (4 * t + 2)), .int (xs (4 * t + 3)), .ref o]) (rest := []) ⟨hx, hb, hml, hown, hts⟩ (c_L_pack l hst sa dC dI tk tw h a b0 cB cJ o cO go _ f g (nI c) zg (nI k) n 9 (xs (4 * t + 2)) (xs (4 * t + 3)) (by decide) (by decide) (fun _ => h8) (fun z => absurd z (by decide)) b9 hb9 hs9 hr9) (vx_cwSW 5 hts gL_law_L_pack rfl rfl rfl (by decide +kernel) ⟨Nat.le_of_ble_eq_true rfl, Nat.le_of_ble_eq_true rfl⟩) hKh hP hD hS hA hZ hX rfl hl.1 rfl (Nat.le_of_ble_eq_true rfl) dL_law_584 ⟨by show _ ≤ 1042; omega, by show _ ≤ 16674; omega⟩ (fun r_4 u_6 H locs hw_5 hP hD hS => ?_)
  have hP : va_P (dC, dI) vwCl ((w0 h a b0 cB cJ (apR (apR (apR f n (nI b9).toInt64 1) (n + 1) (nO 9 (xs (4 * t + 2)) (xs (4 * t + 3))) (wd b9)) (n + 1 + wd b9) (xs (4 * t + 3)).toInt64 (tW b9)) g (nI (n + hd b9)) (nI c) zg (nI k) ++ wo o cO (vp_updL go 0 ((nI (hd b9)).toInt64))) ++ w1 h1 a1 b1 cI cK fb g zt (nI n) (nI c) so nu ty hh pa ch9 zk zl zh zp zq (nI k)) H := hP
  have hD : va_D (fun q : Nat => s.heap.size ≤ q) ((w0 h a b0 cB cJ (apR (apR (apR f n (nI b9).toInt64 1) (n + 1) (nO 9 (xs (4 * t + 2)) (xs (4 * t + 3))) (wd b9)) (n + 1 + wd b9) (xs (4 * t + 3)).toInt64 (tW b9)) g (nI (n + hd b9)) (nI c) zg (nI k) ++ wo o cO (vp_updL go 0 ((nI (hd b9)).toInt64))) ++ w1 h1 a1 b1 cI cK fb g zt (nI n) (nI c) so nu ty hh pa ch9 zk zl zh zp zq (nI k)) := hD
  obtain rfl : r_4 = 0 := hw_5
  refine lv_istore (lv' := [(5, .int 0), (0, .ref b), (1, .ref h), (2, .ref h1), (3, .ref o), (4, .int (nI (4 * t)))]) hx hb dL_law_587 hl (by decide) rfl (fun ls hl => ?_)
  refine lv_aload_n hx hb dL_law_589 rfl (lv_at hl 3 rfl) ?_
  refine lv_aload_n hx hb dL_law_590 rfl (lv_at hl 1 rfl) ?_
  refine lv_iload hx hb dL_law_591 (lv_at hl 5 rfl) ?_
  refine lv_iconst (v := 1) hx hb dL_law_593 (by decide) ?_
  refine lv_iadd hx hb dL_law_594 ?_
  have e_7 : (nI (4 * t) + (1 : Int32)) = nI (4 * t + 1) := nI_add (4 * t) 1
  rw [e_7]
  refine va_sld hx hb hXs hbl hbA hS (vp_in_nI (by omega) (by omega)) dL_law_595 ?_
  rw [nI_clamp (by omega)]
  rw [e1]
  refine lv_aload_n hx hb dL_law_596 rfl (lv_at hl 1 rfl) ?_
  refine lv_iload hx hb dL_law_597 (lv_at hl 5 rfl) ?_
  refine lv_iconst (v := 2) hx hb dL_law_599 (by decide) ?_
  refine lv_iadd hx hb dL_law_600 ?_
  have e_8 : (nI (4 * t) + (2 : Int32)) = nI (4 * t + 2) := nI_add (4 * t) 2
  rw [e_8]
  refine va_sld hx hb hXs hbl hbA hS (vp_in_nI (by omega) (by omega)) dL_law_601 ?_
  rw [nI_clamp (by omega)]
  refine lv_aload_n hx hb dL_law_602 rfl (lv_at hl 1 rfl) ?_
  refine lv_iload hx hb dL_law_603 (lv_at hl 5 rfl) ?_
  refine lv_iconst (v := 3) hx hb dL_law_605 (by decide) ?_
  refine lv_iadd hx hb dL_law_606 ?_
  have e_9 : (nI (4 * t) + (3 : Int32)) = nI (4 * t + 3) := nI_add (4 * t) 3
  rw [e_9]
  refine va_sld hx hb hXs hbl hbA hS (vp_in_nI (by omega) (by omega)) dL_law_607 ?_
  rw [nI_clamp (by omega)]
  have hP : va_P (dC, dI) vwCl (w1 h1 a1 b1 cI cK fb g zt (nI n) (nI c) so nu ty hh pa ch9 zk zl zh zp zq (nI k) ++ (w0 h a b0 cB cJ (apR (apR (apR f n (nI b9).toInt64 1) (n + 1) (nO 9 (xs (4 * t + 2)) (xs (4 * t + 3))) (wd b9)) (n + 1 + wd b9) (xs (4 * t + 3)).toInt64 (tW b9)) g (nI (n + hd b9)) (nI c) zg (nI k) ++ wo o cO (vp_updL go 0 ((nI (hd b9)).toInt64)))) H := hP.sub [4, 5, 6, 0, 1, 2, 3] rfl
  have hD : va_D (fun q : Nat => s.heap.size ≤ q) (w1 h1 a1 b1 cI cK fb g zt (nI n) (nI c) so nu ty hh pa ch9 zk zl zh zp zq (nI k) ++ (w0 h a b0 cB cJ (apR (apR (apR f n (nI b9).toInt64 1) (n + 1) (nO 9 (xs (4 * t + 2)) (xs (4 * t + 3))) (wd b9)) (n + 1 + wd b9) (xs (4 * t + 3)).toInt64 (tW b9)) g (nI (n + hd b9)) (nI c) zg (nI k) ++ wo o cO (vp_updL go 0 ((nI (hd b9)).toInt64)))) := hD.sub [4, 5, 6, 0, 1, 2, 3] (by decide) rfl
  refine gji (wc := w1 h1 a1 b1 cI cK fb g zt (nI n) (nI c) so nu ty hh pa ch9 zk zl zh zp zq (nI k)) (wr := w0 h a b0 cB cJ (apR (apR (apR f n (nI b9).toInt64 1) (n + 1) (nO 9 (xs (4 * t + 2)) (xs (4 * t + 3))) (wd b9)) (n + 1 + wd b9) (xs (4 * t + 3)).toInt64 (tW b9)) g (nI (n + hd b9)) (nI c) zg (nI k) ++ wo o cO (vp_updL go 0 ((nI (hd b9)).toInt64))) (As := [.int 9, .int (xs (4 * t + 2)), .int (xs (4 * t + 3))]) (rest := []) ⟨hx, hb, hml, hown, hts⟩ (c_X1_pack_9 l dC dI tk tw h1 a1 b1 cI cK _ fb g zt (nI c) so nu ty hh pa ch9 zk zl zh zp zq (nI k) n (xs (4 * t + 2)) (xs (4 * t + 3)) h8 hr8) (cwV 3 hts gL_law_X1_pack rfl rfl rfl (by decide +kernel) ⟨Nat.le_of_ble_eq_true rfl, Nat.le_of_ble_eq_true rfl⟩) hKm hP hD hS hA hZ (q0 := 0) (ci := 1) rfl rfl rfl rfl hl.1 rfl (Nat.le_of_ble_eq_true rfl) dL_law_608 ⟨by show _ ≤ 1042; omega, by show _ ≤ 16674; omega⟩ (fun r_10 u_12 H locs hw_11 hP hD hS => ?_)
  have hP : va_P (dC, dI) vwCl (w1 h1 a1 b1 cI cK (phF fb n (pk9 (xs (4 * t + 2)) (xs (4 * t + 3)))) g 0 (nI (n + phL (pk9 (xs (4 * t + 2)) (xs (4 * t + 3))))) (nI c) so nu ty hh pa ch9 zk zl zh zp zq (nI k) ++ (w0 h a b0 cB cJ (apR (apR (apR f n (nI b9).toInt64 1) (n + 1) (nO 9 (xs (4 * t + 2)) (xs (4 * t + 3))) (wd b9)) (n + 1 + wd b9) (xs (4 * t + 3)).toInt64 (tW b9)) g (nI (n + hd b9)) (nI c) zg (nI k) ++ wo o cO (vp_updL go 0 ((nI (hd b9)).toInt64)))) H := hP
  have hD : va_D (fun q : Nat => s.heap.size ≤ q) (w1 h1 a1 b1 cI cK (phF fb n (pk9 (xs (4 * t + 2)) (xs (4 * t + 3)))) g 0 (nI (n + phL (pk9 (xs (4 * t + 2)) (xs (4 * t + 3))))) (nI c) so nu ty hh pa ch9 zk zl zh zp zq (nI k) ++ (w0 h a b0 cB cJ (apR (apR (apR f n (nI b9).toInt64 1) (n + 1) (nO 9 (xs (4 * t + 2)) (xs (4 * t + 3))) (wd b9)) (n + 1 + wd b9) (xs (4 * t + 3)).toInt64 (tW b9)) g (nI (n + hd b9)) (nI c) zg (nI k) ++ wo o cO (vp_updL go 0 ((nI (hd b9)).toInt64)))) := hD
  obtain rfl : r_10 = nI (phL (pk9 (xs (4 * t + 2)) (xs (4 * t + 3)))) := hw_11
  rw [z1] at hP hD
  have hP : va_P (dC, dI) vwCl (w1 h1 a1 b1 cI cK (phF fb n (pk9 (xs (4 * t + 2)) (xs (4 * t + 3)))) g 0 (nI (n + hd b9)) (nI c) so nu ty hh pa ch9 zk zl zh zp zq (nI k) ++ (w0 h a b0 cB cJ (apR (apR (apR f n (nI b9).toInt64 1) (n + 1) (nO 9 (xs (4 * t + 2)) (xs (4 * t + 3))) (wd b9)) (n + 1 + wd b9) (xs (4 * t + 3)).toInt64 (tW b9)) g (nI (n + hd b9)) (nI c) zg (nI k) ++ wo o cO (vp_updL go 0 ((nI (hd b9)).toInt64)))) H := hP
  have hD : va_D (fun q : Nat => s.heap.size ≤ q) (w1 h1 a1 b1 cI cK (phF fb n (pk9 (xs (4 * t + 2)) (xs (4 * t + 3)))) g 0 (nI (n + hd b9)) (nI c) so nu ty hh pa ch9 zk zl zh zp zq (nI k) ++ (w0 h a b0 cB cJ (apR (apR (apR f n (nI b9).toInt64 1) (n + 1) (nO 9 (xs (4 * t + 2)) (xs (4 * t + 3))) (wd b9)) (n + 1 + wd b9) (xs (4 * t + 3)).toInt64 (tW b9)) g (nI (n + hd b9)) (nI c) zg (nI k) ++ wo o cO (vp_updL go 0 ((nI (hd b9)).toInt64)))) := hD
  refine lv_istore (lv' := [(6, .int (nI (phL (pk9 (xs (4 * t + 2)) (xs (4 * t + 3)))))), (5, .int 0), (0, .ref b), (1, .ref h), (2, .ref h1), (3, .ref o), (4, .int (nI (4 * t)))]) hx hb dL_law_611 hl (by decide) rfl (fun ls hl => ?_)
  refine lv_aload_n hx hb dL_law_613 rfl (lv_at hl 4 rfl) ?_
  refine gji (wc := w1 h1 a1 b1 cI cK (phF fb n (pk9 (xs (4 * t + 2)) (xs (4 * t + 3)))) g 0 (nI (n + hd b9)) (nI c) so nu ty hh pa ch9 zk zl zh zp zq (nI k)) (wr := w0 h a b0 cB cJ (apR (apR (apR f n (nI b9).toInt64 1) (n + 1) (nO 9 (xs (4 * t + 2)) (xs (4 * t + 3))) (wd b9)) (n + 1 + wd b9) (xs (4 * t + 3)).toInt64 (tW b9)) g (nI (n + hd b9)) (nI c) zg (nI k) ++ wo o cO (vp_updL go 0 ((nI (hd b9)).toInt64))) (As := []) (rest := []) ⟨hx, hb, hml, hown, hts⟩ (c_X1_thrown l dC dI tk tw h1 a1 b1 cI cK _ (phF fb n (pk9 (xs (4 * t + 2)) (xs (4 * t + 3)))) g 0 (nI (n + hd b9)) (nI c) so nu ty hh pa ch9 zk zl zh zp zq (nI k) ) (cwV 0 hts gL_law_X1_thrown rfl rfl rfl (by decide +kernel) ⟨Nat.le_of_ble_eq_true rfl, Nat.le_of_ble_eq_true rfl⟩) hKm hP hD hS hA hZ (q0 := 0) (ci := 1) rfl rfl rfl rfl hl.1 rfl (Nat.le_of_ble_eq_true rfl) dL_law_614 ⟨by show _ ≤ 1042; omega, by show _ ≤ 16674; omega⟩ (fun r_13 u_15 H locs hw_14 hP hD hS => ?_)
  have hP : va_P (dC, dI) vwCl (w1 h1 a1 b1 cI cK (phF fb n (pk9 (xs (4 * t + 2)) (xs (4 * t + 3)))) g 0 (nI (n + hd b9)) (nI c) so nu ty hh pa ch9 zk zl zh zp zq (nI k) ++ (w0 h a b0 cB cJ (apR (apR (apR f n (nI b9).toInt64 1) (n + 1) (nO 9 (xs (4 * t + 2)) (xs (4 * t + 3))) (wd b9)) (n + 1 + wd b9) (xs (4 * t + 3)).toInt64 (tW b9)) g (nI (n + hd b9)) (nI c) zg (nI k) ++ wo o cO (vp_updL go 0 ((nI (hd b9)).toInt64)))) H := hP
  have hD : va_D (fun q : Nat => s.heap.size ≤ q) (w1 h1 a1 b1 cI cK (phF fb n (pk9 (xs (4 * t + 2)) (xs (4 * t + 3)))) g 0 (nI (n + hd b9)) (nI c) so nu ty hh pa ch9 zk zl zh zp zq (nI k) ++ (w0 h a b0 cB cJ (apR (apR (apR f n (nI b9).toInt64 1) (n + 1) (nO 9 (xs (4 * t + 2)) (xs (4 * t + 3))) (wd b9)) (n + 1 + wd b9) (xs (4 * t + 3)).toInt64 (tW b9)) g (nI (n + hd b9)) (nI c) zg (nI k) ++ wo o cO (vp_updL go 0 ((nI (hd b9)).toInt64)))) := hD
  obtain rfl : r_13 = 0 := hw_14
  refine lv_iload hx hb dL_law_617 (lv_at hl 1 rfl) ?_
  refine lv_icmp_eq (tgt := 624) hx hb dL_law_619 (by decide) (fun c_16 => ?_) (fun c_16 => ?_)
  · skip
    refine lv_iload hx hb dL_law_624 (lv_at hl 1 rfl) ?_
    refine lv_if_ne (tgt := 641) hx hb dL_law_626 (by decide) (fun c_17 => ?_) (fun c_17 => ?_)
    · skip
      exact absurd (by decide) c_17
    · skip
      refine lv_aload_n hx hb dL_law_629 rfl (lv_at hl 5 rfl) ?_
      refine lv_iconst (v := 0) hx hb dL_law_630 (by decide) ?_
      refine va_lald hx hb hK hP 6 4 rfl rfl vp01 dL_law_631 ?_
      have e_18 : (vp_updL go 0 ((nI (hd b9)).toInt64) (0 : Int32).toNatClampNeg : Int64) = ((nI (hd b9)).toInt64) := pk_uLs
      rw [e_18]
      refine lv_iload hx hb dL_law_632 (lv_at hl 0 rfl) ?_
      refine lv_i2l hx hb dL_law_634 rfl ?_
      refine W.lcmp hx hb dL_law_635 ?_
      refine lv_if_eq (tgt := 641) hx hb dL_law_636 (by decide) (fun c_19 => ?_) (fun c_19 => ?_)
      · skip
        have c_19 := (lg_cmp_eq ((nI (hd b9)).toInt64) ((nI (phL (pk9 (xs (4 * t + 2)) (xs (4 * t + 3))))).toInt64)).mp c_19
        refine lv_goto (tgt := 644) hx hb dL_law_641 (by decide) ?_
        have hP : va_P (dC, dI) vwCl (w0 h a b0 cB cJ (apR (apR (apR f n (nI b9).toInt64 1) (n + 1) (nO 9 (xs (4 * t + 2)) (xs (4 * t + 3))) (wd b9)) (n + 1 + wd b9) (xs (4 * t + 3)).toInt64 (tW b9)) g (nI (n + hd b9)) (nI c) zg (nI k) ++ (w1 h1 a1 b1 cI cK (phF fb n (pk9 (xs (4 * t + 2)) (xs (4 * t + 3)))) g 0 (nI (n + hd b9)) (nI c) so nu ty hh pa ch9 zk zl zh zp zq (nI k) ++ wo o cO (vp_updL go 0 ((nI (hd b9)).toInt64)))) H := hP.sub [3, 4, 5, 0, 1, 2, 6] rfl
        have hD : va_D (fun q : Nat => s.heap.size ≤ q) (w0 h a b0 cB cJ (apR (apR (apR f n (nI b9).toInt64 1) (n + 1) (nO 9 (xs (4 * t + 2)) (xs (4 * t + 3))) (wd b9)) (n + 1 + wd b9) (xs (4 * t + 3)).toInt64 (tW b9)) g (nI (n + hd b9)) (nI c) zg (nI k) ++ (w1 h1 a1 b1 cI cK (phF fb n (pk9 (xs (4 * t + 2)) (xs (4 * t + 3)))) g 0 (nI (n + hd b9)) (nI c) so nu ty hh pa ch9 zk zl zh zp zq (nI k) ++ wo o cO (vp_updL go 0 ((nI (hd b9)).toInt64)))) := hD.sub [3, 4, 5, 0, 1, 2, 6] (by decide) rfl
        refine W.widen (k := 7 + t + 1) (n := 8416 + 6 * (t + 1)) (by omega) (by omega) ?_
        exact K _ _ _ ⟨n + hd b9, c, k, apR (apR (apR f n (nI b9).toInt64 1) (n + 1) (nO 9 (xs (4 * t + 2)) (xs (4 * t + 3))) (wd b9)) (n + 1 + wd b9) (xs (4 * t + 3)).toInt64 (tW b9), phF fb n (pk9 (xs (4 * t + 2)) (xs (4 * t + 3))), g, zg, 0, so, nu, ty, hh, pa, ch9, zk, zl, zh, zp, zq, vp_updL go 0 ((nI (hd b9)).toInt64), hr9, (by omega), hk, z2, (GV_mono hG (fun j hj => by rw [apR_lo _ _ _ _ (by omega), apR_lo _ _ _ _ (by omega), apR_lo _ _ _ _ (by omega)]) (Nat.le_refl _)), hP, hD, hS, lv_sub hl [2, 3, 4, 5, 6] rfl⟩
      · skip
        have c_19 := (not_congr (lg_cmp_eq ((nI (hd b9)).toInt64) ((nI (phL (pk9 (xs (4 * t + 2)) (xs (4 * t + 3))))).toInt64))).mp c_19
        exact absurd (by rw [z1]) c_19
  · skip
    exact absurd rfl c_16
set_option maxHeartbeats 4000000 in
set_option maxRecDepth 100000 in
theorem op_pack_f9 {p : Program} {e : Env} {s : State} {m : MethodId} {below : List Frame} {meth : Method} {cd : Code} {l : Launch} {b L : Nat} {xs : Nat → Int32} {dC : Nat → ClassId} {dI : Nat → Nat → Nat} {tk tw : Nat} {sa : Nat → Nat} {cB cJ cI cK cO : ClassId} {h a b0 h1 a1 b1 o t : Nat} {H : Heap} {locs : List Loc} {ls : Array Slot} (CX : LC l p s m meth cd b L xs dC dI tk tw sa cB cJ cI cK cO) (ht4 : 4 * t + 4 ≤ L) (K : ∀ (H : Heap) (locs : List Loc) (ls : Array Slot), LI s b dC dI h a b0 cB cJ h1 a1 b1 cI cK o cO t H locs ls → W p l e room_1 s m #[Value.ref b] below meth cd H locs (7 + t + 1) (8416 + 6 * (t + 1)) (lw_Z below #[Value.ref b] s) (F0 m 644 ls [])) (n : Nat) (c : Nat) (k : Nat) (f : Nat → Int32) (fb : Nat → Int32) (g : Nat → Int64) (zg : Int32) (zt : Int32) (so : Int32) (nu : Int64) (ty : Int32) (hh : Int32) (pa : Int64) (ch9 : Int64) (zk : Int32) (zl : Int32) (zh : Int32) (zp : Int32) (zq : Int32) (go : Nat → Int64) (hn : n ≤ 4096) (hc : c ≤ n) (hk : k ≤ 100) (hRB : RB n f fb) (hG : GV f c zg zk zl zh zp zq) (hP : va_P (dC, dI) vwCl (w0 h a b0 cB cJ f g (nI n) (nI c) zg (nI k) ++ (w1 h1 a1 b1 cI cK fb g zt (nI n) (nI c) so nu ty hh pa ch9 zk zl zh zp zq (nI k) ++ wo o cO go)) H) (hD : va_D (fun q : Nat => s.heap.size ≤ q) (w0 h a b0 cB cJ f g (nI n) (nI c) zg (nI k) ++ (w1 h1 a1 b1 cI cK fb g zt (nI n) (nI c) so nu ty hh pa ch9 zk zl zh zp zq (nI k) ++ wo o cO go))) (hS : va_S (fun q : Nat => s.heap.size ≤ q) s.heap H locs) (hl : lv_has ls 8 [(0, .ref b), (1, .ref h), (2, .ref h1), (3, .ref o), (4, .int (nI (4 * t)))]) (e1 : xs (4 * t + 1) = 9) (h8 : ¬ xs (4 * t + 2) < 0) (hr8 : 4096 < n + phL (pk9 (xs (4 * t + 2)) (xs (4 * t + 3)))) : W p l e room_1 s m #[Value.ref b] below meth cd H locs (7 + t) (8416 + 6 * t) (lw_Z below #[Value.ref b] s) (F0 m 564 ls []) := by
  obtain ⟨⟨hx, hb, hr, hml, hown, hts, hXs, hbl, hlocks⟩, hst, hL, hK, hZ, hX⟩ := CX
  have hA : ∀ q : Nat, s.heap.size ≤ q → (fun q : Nat => s.heap.size ≤ q) q := fun _ h => h
  have hbA : ¬ (fun q : Nat => s.heap.size ≤ q) b := Nat.not_le.mpr hbl
  have hKx := hK.sub (tys' := t0 cB cJ) [0, 1] rfl
  have hKm := hK.sub (tys' := t1 cI cK) [2, 3] rfl
  have hKh := hK.sub (tys' := th cB cJ cO) [0, 1, 4] rfl
  obtain ⟨b9, hb9, hs9, t1, t2, t3, t4⟩ := pkE_9 (xs (4 * t + 3)) h8
  obtain ⟨z1, z2⟩ := RB_pack (k := 9) (lo := (xs (4 * t + 2))) (hi := (xs (4 * t + 3))) (T := (pk9 (xs (4 * t + 2)) (xs (4 * t + 3)))) hb9 hRB t1 t2 t3 t4
  have hr9 : 4096 < n + hd b9 := by rw [← z1]; exact hr8
  refine lv_aload_n hx hb dL_law_564 rfl (lv_at hl 1 rfl) ?_
  refine lv_aload_n hx hb dL_law_565 rfl (lv_at hl 0 rfl) ?_
  refine lv_iload hx hb dL_law_566 (lv_at hl 4 rfl) ?_
  refine lv_iconst (v := 1) hx hb dL_law_568 (by decide) ?_
  refine lv_iadd hx hb dL_law_569 ?_
  have e_1 : (nI (4 * t) + (1 : Int32)) = nI (4 * t + 1) := nI_add (4 * t) 1
  rw [e_1]
  refine va_sld hx hb hXs hbl hbA hS (vp_in_nI (by omega) (by omega)) dL_law_570 ?_
  rw [nI_clamp (by omega)]
  rw [e1]
  refine lv_aload_n hx hb dL_law_571 rfl (lv_at hl 0 rfl) ?_
  refine lv_iload hx hb dL_law_572 (lv_at hl 4 rfl) ?_
  refine lv_iconst (v := 2) hx hb dL_law_574 (by decide) ?_
  refine lv_iadd hx hb dL_law_575 ?_
  have e_2 : (nI (4 * t) + (2 : Int32)) = nI (4 * t + 2) := nI_add (4 * t) 2
  rw [e_2]
  refine va_sld hx hb hXs hbl hbA hS (vp_in_nI (by omega) (by omega)) dL_law_576 ?_
  rw [nI_clamp (by omega)]
  refine lv_aload_n hx hb dL_law_577 rfl (lv_at hl 0 rfl) ?_
  refine lv_iload hx hb dL_law_578 (lv_at hl 4 rfl) ?_
  refine lv_iconst (v := 3) hx hb dL_law_580 (by decide) ?_
  refine lv_iadd hx hb dL_law_581 ?_
  have e_3 : (nI (4 * t) + (3 : Int32)) = nI (4 * t + 3) := nI_add (4 * t) 3
  rw [e_3]
  refine va_sld hx hb hXs hbl hbA hS (vp_in_nI (by omega) (by omega)) dL_law_582 ?_
  rw [nI_clamp (by omega)]
  refine lv_aload_n hx hb dL_law_583 rfl (lv_at hl 3 rfl) ?_
  have hP : va_P (dC, dI) vwCl ((w0 h a b0 cB cJ f g (nI n) (nI c) zg (nI k) ++ wo o cO go) ++ w1 h1 a1 b1 cI cK fb g zt (nI n) (nI c) so nu ty hh pa ch9 zk zl zh zp zq (nI k)) H := hP.sub [0, 1, 2, 6, 3, 4, 5] rfl
  have hD : va_D (fun q : Nat => s.heap.size ≤ q) ((w0 h a b0 cB cJ f g (nI n) (nI c) zg (nI k) ++ wo o cO go) ++ w1 h1 a1 b1 cI cK fb g zt (nI n) (nI c) so nu ty hh pa ch9 zk zl zh zp zq (nI k)) := hD.sub [0, 1, 2, 6, 3, 4, 5] (by decide) rfl
  refine ghi (wc := w0 h a b0 cB cJ f g (nI n) (nI c) zg (nI k) ++ wo o cO go) (wr := w1 h1 a1 b1 cI cK fb g zt (nI n) (nI c) so nu ty hh pa ch9 zk zl zh zp zq (nI k)) (As := [.ref h, .int 9, .int (xs (4 * t + 2)), .int (xs (4 * t + 3)), .ref o]) (rest := []) ⟨hx, hb, hml, hown, hts⟩ (c_L_pack_f l hst sa dC dI tk tw h a b0 cB cJ o cO go _ f g (nI c) zg (nI k) n hn 9 (xs (4 * t + 2)) (xs (4 * t + 3)) (by decide) (by decide) (fun _ => h8) (fun z => absurd z (by decide)) b9 hb9 hs9 hr9) (vx_cwSW 5 hts gL_law_L_pack rfl rfl rfl (by decide +kernel) ⟨Nat.le_of_ble_eq_true rfl, Nat.le_of_ble_eq_true rfl⟩) hKh hP hD hS hA hZ hX rfl hl.1 rfl (Nat.le_of_ble_eq_true rfl) dL_law_584 ⟨by show _ ≤ 1042; omega, by show _ ≤ 16674; omega⟩ (fun r_4 u_6 H locs hw_5 hP hD hS => ?_)
  have hP : va_P (dC, dI) vwCl ((w0 h a b0 cB cJ f g (nI n) (nI c) zg (nI k) ++ wo o cO go) ++ w1 h1 a1 b1 cI cK fb g zt (nI n) (nI c) so nu ty hh pa ch9 zk zl zh zp zq (nI k)) H := hP
  have hD : va_D (fun q : Nat => s.heap.size ≤ q) ((w0 h a b0 cB cJ f g (nI n) (nI c) zg (nI k) ++ wo o cO go) ++ w1 h1 a1 b1 cI cK fb g zt (nI n) (nI c) so nu ty hh pa ch9 zk zl zh zp zq (nI k)) := hD
  obtain rfl : r_4 = 2 := hw_5
  refine lv_istore (lv' := [(5, .int 2), (0, .ref b), (1, .ref h), (2, .ref h1), (3, .ref o), (4, .int (nI (4 * t)))]) hx hb dL_law_587 hl (by decide) rfl (fun ls hl => ?_)
  refine lv_aload_n hx hb dL_law_589 rfl (lv_at hl 3 rfl) ?_
  refine lv_aload_n hx hb dL_law_590 rfl (lv_at hl 1 rfl) ?_
  refine lv_iload hx hb dL_law_591 (lv_at hl 5 rfl) ?_
  refine lv_iconst (v := 1) hx hb dL_law_593 (by decide) ?_
  refine lv_iadd hx hb dL_law_594 ?_
  have e_7 : (nI (4 * t) + (1 : Int32)) = nI (4 * t + 1) := nI_add (4 * t) 1
  rw [e_7]
  refine va_sld hx hb hXs hbl hbA hS (vp_in_nI (by omega) (by omega)) dL_law_595 ?_
  rw [nI_clamp (by omega)]
  rw [e1]
  refine lv_aload_n hx hb dL_law_596 rfl (lv_at hl 1 rfl) ?_
  refine lv_iload hx hb dL_law_597 (lv_at hl 5 rfl) ?_
  refine lv_iconst (v := 2) hx hb dL_law_599 (by decide) ?_
  refine lv_iadd hx hb dL_law_600 ?_
  have e_8 : (nI (4 * t) + (2 : Int32)) = nI (4 * t + 2) := nI_add (4 * t) 2
  rw [e_8]
  refine va_sld hx hb hXs hbl hbA hS (vp_in_nI (by omega) (by omega)) dL_law_601 ?_
  rw [nI_clamp (by omega)]
  refine lv_aload_n hx hb dL_law_602 rfl (lv_at hl 1 rfl) ?_
  refine lv_iload hx hb dL_law_603 (lv_at hl 5 rfl) ?_
  refine lv_iconst (v := 3) hx hb dL_law_605 (by decide) ?_
  refine lv_iadd hx hb dL_law_606 ?_
  have e_9 : (nI (4 * t) + (3 : Int32)) = nI (4 * t + 3) := nI_add (4 * t) 3
  rw [e_9]
  refine va_sld hx hb hXs hbl hbA hS (vp_in_nI (by omega) (by omega)) dL_law_607 ?_
  rw [nI_clamp (by omega)]
  have hP : va_P (dC, dI) vwCl (w1 h1 a1 b1 cI cK fb g zt (nI n) (nI c) so nu ty hh pa ch9 zk zl zh zp zq (nI k) ++ (w0 h a b0 cB cJ f g (nI n) (nI c) zg (nI k) ++ wo o cO go)) H := hP.sub [4, 5, 6, 0, 1, 2, 3] rfl
  have hD : va_D (fun q : Nat => s.heap.size ≤ q) (w1 h1 a1 b1 cI cK fb g zt (nI n) (nI c) so nu ty hh pa ch9 zk zl zh zp zq (nI k) ++ (w0 h a b0 cB cJ f g (nI n) (nI c) zg (nI k) ++ wo o cO go)) := hD.sub [4, 5, 6, 0, 1, 2, 3] (by decide) rfl
  refine gji (wc := w1 h1 a1 b1 cI cK fb g zt (nI n) (nI c) so nu ty hh pa ch9 zk zl zh zp zq (nI k)) (wr := w0 h a b0 cB cJ f g (nI n) (nI c) zg (nI k) ++ wo o cO go) (As := [.int 9, .int (xs (4 * t + 2)), .int (xs (4 * t + 3))]) (rest := []) ⟨hx, hb, hml, hown, hts⟩ (c_X1_pack_9f l dC dI tk tw h1 a1 b1 cI cK _ fb g zt (nI c) so nu ty hh pa ch9 zk zl zh zp zq (nI k) n hn (xs (4 * t + 2)) (xs (4 * t + 3)) h8 hr8) (cwV 3 hts gL_law_X1_pack rfl rfl rfl (by decide +kernel) ⟨Nat.le_of_ble_eq_true rfl, Nat.le_of_ble_eq_true rfl⟩) hKm hP hD hS hA hZ (q0 := 0) (ci := 1) rfl rfl rfl rfl hl.1 rfl (Nat.le_of_ble_eq_true rfl) dL_law_608 ⟨by show _ ≤ 1042; omega, by show _ ≤ 16674; omega⟩ (fun r_10 u_12 H locs hw_11 hP hD hS => ?_)
  have hP : va_P (dC, dI) vwCl (w1 h1 a1 b1 cI cK fb g 2 (nI n) (nI c) so nu ty hh pa ch9 zk zl zh zp zq (nI k) ++ (w0 h a b0 cB cJ f g (nI n) (nI c) zg (nI k) ++ wo o cO go)) H := hP
  have hD : va_D (fun q : Nat => s.heap.size ≤ q) (w1 h1 a1 b1 cI cK fb g 2 (nI n) (nI c) so nu ty hh pa ch9 zk zl zh zp zq (nI k) ++ (w0 h a b0 cB cJ f g (nI n) (nI c) zg (nI k) ++ wo o cO go)) := hD
  refine lv_istore (lv' := [(6, .int r_10), (5, .int 2), (0, .ref b), (1, .ref h), (2, .ref h1), (3, .ref o), (4, .int (nI (4 * t)))]) hx hb dL_law_611 hl (by decide) rfl (fun ls hl => ?_)
  refine lv_aload_n hx hb dL_law_613 rfl (lv_at hl 4 rfl) ?_
  refine gji (wc := w1 h1 a1 b1 cI cK fb g 2 (nI n) (nI c) so nu ty hh pa ch9 zk zl zh zp zq (nI k)) (wr := w0 h a b0 cB cJ f g (nI n) (nI c) zg (nI k) ++ wo o cO go) (As := []) (rest := []) ⟨hx, hb, hml, hown, hts⟩ (c_X1_thrown l dC dI tk tw h1 a1 b1 cI cK _ fb g 2 (nI n) (nI c) so nu ty hh pa ch9 zk zl zh zp zq (nI k) ) (cwV 0 hts gL_law_X1_thrown rfl rfl rfl (by decide +kernel) ⟨Nat.le_of_ble_eq_true rfl, Nat.le_of_ble_eq_true rfl⟩) hKm hP hD hS hA hZ (q0 := 0) (ci := 1) rfl rfl rfl rfl hl.1 rfl (Nat.le_of_ble_eq_true rfl) dL_law_614 ⟨by show _ ≤ 1042; omega, by show _ ≤ 16674; omega⟩ (fun r_13 u_15 H locs hw_14 hP hD hS => ?_)
  have hP : va_P (dC, dI) vwCl (w1 h1 a1 b1 cI cK fb g 2 (nI n) (nI c) so nu ty hh pa ch9 zk zl zh zp zq (nI k) ++ (w0 h a b0 cB cJ f g (nI n) (nI c) zg (nI k) ++ wo o cO go)) H := hP
  have hD : va_D (fun q : Nat => s.heap.size ≤ q) (w1 h1 a1 b1 cI cK fb g 2 (nI n) (nI c) so nu ty hh pa ch9 zk zl zh zp zq (nI k) ++ (w0 h a b0 cB cJ f g (nI n) (nI c) zg (nI k) ++ wo o cO go)) := hD
  obtain rfl : r_13 = 2 := hw_14
  refine lv_iload hx hb dL_law_617 (lv_at hl 1 rfl) ?_
  refine lv_icmp_eq (tgt := 624) hx hb dL_law_619 (by decide) (fun c_16 => ?_) (fun c_16 => ?_)
  · skip
    refine lv_iload hx hb dL_law_624 (lv_at hl 1 rfl) ?_
    refine lv_if_ne (tgt := 641) hx hb dL_law_626 (by decide) (fun c_17 => ?_) (fun c_17 => ?_)
    · skip
      refine lv_goto (tgt := 644) hx hb dL_law_641 (by decide) ?_
      have hP : va_P (dC, dI) vwCl (w0 h a b0 cB cJ f g (nI n) (nI c) zg (nI k) ++ (w1 h1 a1 b1 cI cK fb g 2 (nI n) (nI c) so nu ty hh pa ch9 zk zl zh zp zq (nI k) ++ wo o cO go)) H := hP.sub [3, 4, 5, 0, 1, 2, 6] rfl
      have hD : va_D (fun q : Nat => s.heap.size ≤ q) (w0 h a b0 cB cJ f g (nI n) (nI c) zg (nI k) ++ (w1 h1 a1 b1 cI cK fb g 2 (nI n) (nI c) so nu ty hh pa ch9 zk zl zh zp zq (nI k) ++ wo o cO go)) := hD.sub [3, 4, 5, 0, 1, 2, 6] (by decide) rfl
      refine W.widen (k := 7 + t + 1) (n := 8416 + 6 * (t + 1)) (by omega) (by omega) ?_
      exact K _ _ _ ⟨n, c, k, f, fb, g, zg, 2, so, nu, ty, hh, pa, ch9, zk, zl, zh, zp, zq, go, hn, hc, hk, hRB, hG, hP, hD, hS, lv_sub hl [2, 3, 4, 5, 6] rfl⟩
    · skip
      exact absurd c_17 (by decide)
  · skip
    exact absurd rfl c_16
set_option maxHeartbeats 4000000 in
set_option maxRecDepth 100000 in
theorem op_pack_g10 {p : Program} {e : Env} {s : State} {m : MethodId} {below : List Frame} {meth : Method} {cd : Code} {l : Launch} {b L : Nat} {xs : Nat → Int32} {dC : Nat → ClassId} {dI : Nat → Nat → Nat} {tk tw : Nat} {sa : Nat → Nat} {cB cJ cI cK cO : ClassId} {h a b0 h1 a1 b1 o t : Nat} {H : Heap} {locs : List Loc} {ls : Array Slot} (CX : LC l p s m meth cd b L xs dC dI tk tw sa cB cJ cI cK cO) (ht4 : 4 * t + 4 ≤ L) (K : ∀ (H : Heap) (locs : List Loc) (ls : Array Slot), LI s b dC dI h a b0 cB cJ h1 a1 b1 cI cK o cO t H locs ls → W p l e room_1 s m #[Value.ref b] below meth cd H locs (7 + t + 1) (8416 + 6 * (t + 1)) (lw_Z below #[Value.ref b] s) (F0 m 644 ls [])) (n : Nat) (c : Nat) (k : Nat) (f : Nat → Int32) (fb : Nat → Int32) (g : Nat → Int64) (zg : Int32) (zt : Int32) (so : Int32) (nu : Int64) (ty : Int32) (hh : Int32) (pa : Int64) (ch9 : Int64) (zk : Int32) (zl : Int32) (zh : Int32) (zp : Int32) (zq : Int32) (go : Nat → Int64) (hn : n ≤ 4096) (hc : c ≤ n) (hk : k ≤ 100) (hRB : RB n f fb) (hG : GV f c zg zk zl zh zp zq) (hP : va_P (dC, dI) vwCl (w0 h a b0 cB cJ f g (nI n) (nI c) zg (nI k) ++ (w1 h1 a1 b1 cI cK fb g zt (nI n) (nI c) so nu ty hh pa ch9 zk zl zh zp zq (nI k) ++ wo o cO go)) H) (hD : va_D (fun q : Nat => s.heap.size ≤ q) (w0 h a b0 cB cJ f g (nI n) (nI c) zg (nI k) ++ (w1 h1 a1 b1 cI cK fb g zt (nI n) (nI c) so nu ty hh pa ch9 zk zl zh zp zq (nI k) ++ wo o cO go))) (hS : va_S (fun q : Nat => s.heap.size ≤ q) s.heap H locs) (hl : lv_has ls 8 [(0, .ref b), (1, .ref h), (2, .ref h1), (3, .ref o), (4, .int (nI (4 * t)))]) (e1 : xs (4 * t + 1) = 10) (h8 : ¬ xs (4 * t + 2) < 0) (hr8 : n + phL (pk10 (xs (4 * t + 2)) (xs (4 * t + 3))) ≤ 4096) : W p l e room_1 s m #[Value.ref b] below meth cd H locs (7 + t) (8416 + 6 * t) (lw_Z below #[Value.ref b] s) (F0 m 564 ls []) := by
  obtain ⟨⟨hx, hb, hr, hml, hown, hts, hXs, hbl, hlocks⟩, hst, hL, hK, hZ, hX⟩ := CX
  have hA : ∀ q : Nat, s.heap.size ≤ q → (fun q : Nat => s.heap.size ≤ q) q := fun _ h => h
  have hbA : ¬ (fun q : Nat => s.heap.size ≤ q) b := Nat.not_le.mpr hbl
  have hKx := hK.sub (tys' := t0 cB cJ) [0, 1] rfl
  have hKm := hK.sub (tys' := t1 cI cK) [2, 3] rfl
  have hKh := hK.sub (tys' := th cB cJ cO) [0, 1, 4] rfl
  obtain ⟨b9, hb9, hs9, t1, t2, t3, t4⟩ := pkE_10 (xs (4 * t + 3)) h8
  obtain ⟨z1, z2⟩ := RB_pack (k := 10) (lo := (xs (4 * t + 2))) (hi := (xs (4 * t + 3))) (T := (pk10 (xs (4 * t + 2)) (xs (4 * t + 3)))) hb9 hRB t1 t2 t3 t4
  have hr9 : n + hd b9 ≤ 4096 := by rw [← z1]; exact hr8
  refine lv_aload_n hx hb dL_law_564 rfl (lv_at hl 1 rfl) ?_
  refine lv_aload_n hx hb dL_law_565 rfl (lv_at hl 0 rfl) ?_
  refine lv_iload hx hb dL_law_566 (lv_at hl 4 rfl) ?_
  refine lv_iconst (v := 1) hx hb dL_law_568 (by decide) ?_
  refine lv_iadd hx hb dL_law_569 ?_
  have e_1 : (nI (4 * t) + (1 : Int32)) = nI (4 * t + 1) := nI_add (4 * t) 1
  rw [e_1]
  refine va_sld hx hb hXs hbl hbA hS (vp_in_nI (by omega) (by omega)) dL_law_570 ?_
  rw [nI_clamp (by omega)]
  rw [e1]
  refine lv_aload_n hx hb dL_law_571 rfl (lv_at hl 0 rfl) ?_
  refine lv_iload hx hb dL_law_572 (lv_at hl 4 rfl) ?_
  refine lv_iconst (v := 2) hx hb dL_law_574 (by decide) ?_
  refine lv_iadd hx hb dL_law_575 ?_
  have e_2 : (nI (4 * t) + (2 : Int32)) = nI (4 * t + 2) := nI_add (4 * t) 2
  rw [e_2]
  refine va_sld hx hb hXs hbl hbA hS (vp_in_nI (by omega) (by omega)) dL_law_576 ?_
  rw [nI_clamp (by omega)]
  refine lv_aload_n hx hb dL_law_577 rfl (lv_at hl 0 rfl) ?_
  refine lv_iload hx hb dL_law_578 (lv_at hl 4 rfl) ?_
  refine lv_iconst (v := 3) hx hb dL_law_580 (by decide) ?_
  refine lv_iadd hx hb dL_law_581 ?_
  have e_3 : (nI (4 * t) + (3 : Int32)) = nI (4 * t + 3) := nI_add (4 * t) 3
  rw [e_3]
  refine va_sld hx hb hXs hbl hbA hS (vp_in_nI (by omega) (by omega)) dL_law_582 ?_
  rw [nI_clamp (by omega)]
  refine lv_aload_n hx hb dL_law_583 rfl (lv_at hl 3 rfl) ?_
  have hP : va_P (dC, dI) vwCl ((w0 h a b0 cB cJ f g (nI n) (nI c) zg (nI k) ++ wo o cO go) ++ w1 h1 a1 b1 cI cK fb g zt (nI n) (nI c) so nu ty hh pa ch9 zk zl zh zp zq (nI k)) H := hP.sub [0, 1, 2, 6, 3, 4, 5] rfl
  have hD : va_D (fun q : Nat => s.heap.size ≤ q) ((w0 h a b0 cB cJ f g (nI n) (nI c) zg (nI k) ++ wo o cO go) ++ w1 h1 a1 b1 cI cK fb g zt (nI n) (nI c) so nu ty hh pa ch9 zk zl zh zp zq (nI k)) := hD.sub [0, 1, 2, 6, 3, 4, 5] (by decide) rfl
  refine ghi (wc := w0 h a b0 cB cJ f g (nI n) (nI c) zg (nI k) ++ wo o cO go) (wr := w1 h1 a1 b1 cI cK fb g zt (nI n) (nI c) so nu ty hh pa ch9 zk zl zh zp zq (nI k)) (As := [.ref h, .int 10, .int (xs (4 * t + 2)), .int (xs (4 * t + 3)), .ref o]) (rest := []) ⟨hx, hb, hml, hown, hts⟩ (c_L_pack l hst sa dC dI tk tw h a b0 cB cJ o cO go _ f g (nI c) zg (nI k) n 10 (xs (4 * t + 2)) (xs (4 * t + 3)) (by decide) (by decide) (fun _ => h8) (fun z => absurd z (by decide)) b9 hb9 hs9 hr9) (vx_cwSW 5 hts gL_law_L_pack rfl rfl rfl (by decide +kernel) ⟨Nat.le_of_ble_eq_true rfl, Nat.le_of_ble_eq_true rfl⟩) hKh hP hD hS hA hZ hX rfl hl.1 rfl (Nat.le_of_ble_eq_true rfl) dL_law_584 ⟨by show _ ≤ 1042; omega, by show _ ≤ 16674; omega⟩ (fun r_4 u_6 H locs hw_5 hP hD hS => ?_)
  have hP : va_P (dC, dI) vwCl ((w0 h a b0 cB cJ (apR (apR (apR f n (nI b9).toInt64 1) (n + 1) (nO 10 (xs (4 * t + 2)) (xs (4 * t + 3))) (wd b9)) (n + 1 + wd b9) (xs (4 * t + 3)).toInt64 (tW b9)) g (nI (n + hd b9)) (nI c) zg (nI k) ++ wo o cO (vp_updL go 0 ((nI (hd b9)).toInt64))) ++ w1 h1 a1 b1 cI cK fb g zt (nI n) (nI c) so nu ty hh pa ch9 zk zl zh zp zq (nI k)) H := hP
  have hD : va_D (fun q : Nat => s.heap.size ≤ q) ((w0 h a b0 cB cJ (apR (apR (apR f n (nI b9).toInt64 1) (n + 1) (nO 10 (xs (4 * t + 2)) (xs (4 * t + 3))) (wd b9)) (n + 1 + wd b9) (xs (4 * t + 3)).toInt64 (tW b9)) g (nI (n + hd b9)) (nI c) zg (nI k) ++ wo o cO (vp_updL go 0 ((nI (hd b9)).toInt64))) ++ w1 h1 a1 b1 cI cK fb g zt (nI n) (nI c) so nu ty hh pa ch9 zk zl zh zp zq (nI k)) := hD
  obtain rfl : r_4 = 0 := hw_5
  refine lv_istore (lv' := [(5, .int 0), (0, .ref b), (1, .ref h), (2, .ref h1), (3, .ref o), (4, .int (nI (4 * t)))]) hx hb dL_law_587 hl (by decide) rfl (fun ls hl => ?_)
  refine lv_aload_n hx hb dL_law_589 rfl (lv_at hl 3 rfl) ?_
  refine lv_aload_n hx hb dL_law_590 rfl (lv_at hl 1 rfl) ?_
  refine lv_iload hx hb dL_law_591 (lv_at hl 5 rfl) ?_
  refine lv_iconst (v := 1) hx hb dL_law_593 (by decide) ?_
  refine lv_iadd hx hb dL_law_594 ?_
  have e_7 : (nI (4 * t) + (1 : Int32)) = nI (4 * t + 1) := nI_add (4 * t) 1
  rw [e_7]
  refine va_sld hx hb hXs hbl hbA hS (vp_in_nI (by omega) (by omega)) dL_law_595 ?_
  rw [nI_clamp (by omega)]
  rw [e1]
  refine lv_aload_n hx hb dL_law_596 rfl (lv_at hl 1 rfl) ?_
  refine lv_iload hx hb dL_law_597 (lv_at hl 5 rfl) ?_
  refine lv_iconst (v := 2) hx hb dL_law_599 (by decide) ?_
  refine lv_iadd hx hb dL_law_600 ?_
  have e_8 : (nI (4 * t) + (2 : Int32)) = nI (4 * t + 2) := nI_add (4 * t) 2
  rw [e_8]
  refine va_sld hx hb hXs hbl hbA hS (vp_in_nI (by omega) (by omega)) dL_law_601 ?_
  rw [nI_clamp (by omega)]
  refine lv_aload_n hx hb dL_law_602 rfl (lv_at hl 1 rfl) ?_
  refine lv_iload hx hb dL_law_603 (lv_at hl 5 rfl) ?_
  refine lv_iconst (v := 3) hx hb dL_law_605 (by decide) ?_
  refine lv_iadd hx hb dL_law_606 ?_
  have e_9 : (nI (4 * t) + (3 : Int32)) = nI (4 * t + 3) := nI_add (4 * t) 3
  rw [e_9]
  refine va_sld hx hb hXs hbl hbA hS (vp_in_nI (by omega) (by omega)) dL_law_607 ?_
  rw [nI_clamp (by omega)]
  have hP : va_P (dC, dI) vwCl (w1 h1 a1 b1 cI cK fb g zt (nI n) (nI c) so nu ty hh pa ch9 zk zl zh zp zq (nI k) ++ (w0 h a b0 cB cJ (apR (apR (apR f n (nI b9).toInt64 1) (n + 1) (nO 10 (xs (4 * t + 2)) (xs (4 * t + 3))) (wd b9)) (n + 1 + wd b9) (xs (4 * t + 3)).toInt64 (tW b9)) g (nI (n + hd b9)) (nI c) zg (nI k) ++ wo o cO (vp_updL go 0 ((nI (hd b9)).toInt64)))) H := hP.sub [4, 5, 6, 0, 1, 2, 3] rfl
  have hD : va_D (fun q : Nat => s.heap.size ≤ q) (w1 h1 a1 b1 cI cK fb g zt (nI n) (nI c) so nu ty hh pa ch9 zk zl zh zp zq (nI k) ++ (w0 h a b0 cB cJ (apR (apR (apR f n (nI b9).toInt64 1) (n + 1) (nO 10 (xs (4 * t + 2)) (xs (4 * t + 3))) (wd b9)) (n + 1 + wd b9) (xs (4 * t + 3)).toInt64 (tW b9)) g (nI (n + hd b9)) (nI c) zg (nI k) ++ wo o cO (vp_updL go 0 ((nI (hd b9)).toInt64)))) := hD.sub [4, 5, 6, 0, 1, 2, 3] (by decide) rfl
  refine gji (wc := w1 h1 a1 b1 cI cK fb g zt (nI n) (nI c) so nu ty hh pa ch9 zk zl zh zp zq (nI k)) (wr := w0 h a b0 cB cJ (apR (apR (apR f n (nI b9).toInt64 1) (n + 1) (nO 10 (xs (4 * t + 2)) (xs (4 * t + 3))) (wd b9)) (n + 1 + wd b9) (xs (4 * t + 3)).toInt64 (tW b9)) g (nI (n + hd b9)) (nI c) zg (nI k) ++ wo o cO (vp_updL go 0 ((nI (hd b9)).toInt64))) (As := [.int 10, .int (xs (4 * t + 2)), .int (xs (4 * t + 3))]) (rest := []) ⟨hx, hb, hml, hown, hts⟩ (c_X1_pack_10 l dC dI tk tw h1 a1 b1 cI cK _ fb g zt (nI c) so nu ty hh pa ch9 zk zl zh zp zq (nI k) n (xs (4 * t + 2)) (xs (4 * t + 3)) h8 hr8) (cwV 3 hts gL_law_X1_pack rfl rfl rfl (by decide +kernel) ⟨Nat.le_of_ble_eq_true rfl, Nat.le_of_ble_eq_true rfl⟩) hKm hP hD hS hA hZ (q0 := 0) (ci := 1) rfl rfl rfl rfl hl.1 rfl (Nat.le_of_ble_eq_true rfl) dL_law_608 ⟨by show _ ≤ 1042; omega, by show _ ≤ 16674; omega⟩ (fun r_10 u_12 H locs hw_11 hP hD hS => ?_)
  have hP : va_P (dC, dI) vwCl (w1 h1 a1 b1 cI cK (phF fb n (pk10 (xs (4 * t + 2)) (xs (4 * t + 3)))) g 0 (nI (n + phL (pk10 (xs (4 * t + 2)) (xs (4 * t + 3))))) (nI c) so nu ty hh pa ch9 zk zl zh zp zq (nI k) ++ (w0 h a b0 cB cJ (apR (apR (apR f n (nI b9).toInt64 1) (n + 1) (nO 10 (xs (4 * t + 2)) (xs (4 * t + 3))) (wd b9)) (n + 1 + wd b9) (xs (4 * t + 3)).toInt64 (tW b9)) g (nI (n + hd b9)) (nI c) zg (nI k) ++ wo o cO (vp_updL go 0 ((nI (hd b9)).toInt64)))) H := hP
  have hD : va_D (fun q : Nat => s.heap.size ≤ q) (w1 h1 a1 b1 cI cK (phF fb n (pk10 (xs (4 * t + 2)) (xs (4 * t + 3)))) g 0 (nI (n + phL (pk10 (xs (4 * t + 2)) (xs (4 * t + 3))))) (nI c) so nu ty hh pa ch9 zk zl zh zp zq (nI k) ++ (w0 h a b0 cB cJ (apR (apR (apR f n (nI b9).toInt64 1) (n + 1) (nO 10 (xs (4 * t + 2)) (xs (4 * t + 3))) (wd b9)) (n + 1 + wd b9) (xs (4 * t + 3)).toInt64 (tW b9)) g (nI (n + hd b9)) (nI c) zg (nI k) ++ wo o cO (vp_updL go 0 ((nI (hd b9)).toInt64)))) := hD
  obtain rfl : r_10 = nI (phL (pk10 (xs (4 * t + 2)) (xs (4 * t + 3)))) := hw_11
  rw [z1] at hP hD
  have hP : va_P (dC, dI) vwCl (w1 h1 a1 b1 cI cK (phF fb n (pk10 (xs (4 * t + 2)) (xs (4 * t + 3)))) g 0 (nI (n + hd b9)) (nI c) so nu ty hh pa ch9 zk zl zh zp zq (nI k) ++ (w0 h a b0 cB cJ (apR (apR (apR f n (nI b9).toInt64 1) (n + 1) (nO 10 (xs (4 * t + 2)) (xs (4 * t + 3))) (wd b9)) (n + 1 + wd b9) (xs (4 * t + 3)).toInt64 (tW b9)) g (nI (n + hd b9)) (nI c) zg (nI k) ++ wo o cO (vp_updL go 0 ((nI (hd b9)).toInt64)))) H := hP
  have hD : va_D (fun q : Nat => s.heap.size ≤ q) (w1 h1 a1 b1 cI cK (phF fb n (pk10 (xs (4 * t + 2)) (xs (4 * t + 3)))) g 0 (nI (n + hd b9)) (nI c) so nu ty hh pa ch9 zk zl zh zp zq (nI k) ++ (w0 h a b0 cB cJ (apR (apR (apR f n (nI b9).toInt64 1) (n + 1) (nO 10 (xs (4 * t + 2)) (xs (4 * t + 3))) (wd b9)) (n + 1 + wd b9) (xs (4 * t + 3)).toInt64 (tW b9)) g (nI (n + hd b9)) (nI c) zg (nI k) ++ wo o cO (vp_updL go 0 ((nI (hd b9)).toInt64)))) := hD
  refine lv_istore (lv' := [(6, .int (nI (phL (pk10 (xs (4 * t + 2)) (xs (4 * t + 3)))))), (5, .int 0), (0, .ref b), (1, .ref h), (2, .ref h1), (3, .ref o), (4, .int (nI (4 * t)))]) hx hb dL_law_611 hl (by decide) rfl (fun ls hl => ?_)
  refine lv_aload_n hx hb dL_law_613 rfl (lv_at hl 4 rfl) ?_
  refine gji (wc := w1 h1 a1 b1 cI cK (phF fb n (pk10 (xs (4 * t + 2)) (xs (4 * t + 3)))) g 0 (nI (n + hd b9)) (nI c) so nu ty hh pa ch9 zk zl zh zp zq (nI k)) (wr := w0 h a b0 cB cJ (apR (apR (apR f n (nI b9).toInt64 1) (n + 1) (nO 10 (xs (4 * t + 2)) (xs (4 * t + 3))) (wd b9)) (n + 1 + wd b9) (xs (4 * t + 3)).toInt64 (tW b9)) g (nI (n + hd b9)) (nI c) zg (nI k) ++ wo o cO (vp_updL go 0 ((nI (hd b9)).toInt64))) (As := []) (rest := []) ⟨hx, hb, hml, hown, hts⟩ (c_X1_thrown l dC dI tk tw h1 a1 b1 cI cK _ (phF fb n (pk10 (xs (4 * t + 2)) (xs (4 * t + 3)))) g 0 (nI (n + hd b9)) (nI c) so nu ty hh pa ch9 zk zl zh zp zq (nI k) ) (cwV 0 hts gL_law_X1_thrown rfl rfl rfl (by decide +kernel) ⟨Nat.le_of_ble_eq_true rfl, Nat.le_of_ble_eq_true rfl⟩) hKm hP hD hS hA hZ (q0 := 0) (ci := 1) rfl rfl rfl rfl hl.1 rfl (Nat.le_of_ble_eq_true rfl) dL_law_614 ⟨by show _ ≤ 1042; omega, by show _ ≤ 16674; omega⟩ (fun r_13 u_15 H locs hw_14 hP hD hS => ?_)
  have hP : va_P (dC, dI) vwCl (w1 h1 a1 b1 cI cK (phF fb n (pk10 (xs (4 * t + 2)) (xs (4 * t + 3)))) g 0 (nI (n + hd b9)) (nI c) so nu ty hh pa ch9 zk zl zh zp zq (nI k) ++ (w0 h a b0 cB cJ (apR (apR (apR f n (nI b9).toInt64 1) (n + 1) (nO 10 (xs (4 * t + 2)) (xs (4 * t + 3))) (wd b9)) (n + 1 + wd b9) (xs (4 * t + 3)).toInt64 (tW b9)) g (nI (n + hd b9)) (nI c) zg (nI k) ++ wo o cO (vp_updL go 0 ((nI (hd b9)).toInt64)))) H := hP
  have hD : va_D (fun q : Nat => s.heap.size ≤ q) (w1 h1 a1 b1 cI cK (phF fb n (pk10 (xs (4 * t + 2)) (xs (4 * t + 3)))) g 0 (nI (n + hd b9)) (nI c) so nu ty hh pa ch9 zk zl zh zp zq (nI k) ++ (w0 h a b0 cB cJ (apR (apR (apR f n (nI b9).toInt64 1) (n + 1) (nO 10 (xs (4 * t + 2)) (xs (4 * t + 3))) (wd b9)) (n + 1 + wd b9) (xs (4 * t + 3)).toInt64 (tW b9)) g (nI (n + hd b9)) (nI c) zg (nI k) ++ wo o cO (vp_updL go 0 ((nI (hd b9)).toInt64)))) := hD
  obtain rfl : r_13 = 0 := hw_14
  refine lv_iload hx hb dL_law_617 (lv_at hl 1 rfl) ?_
  refine lv_icmp_eq (tgt := 624) hx hb dL_law_619 (by decide) (fun c_16 => ?_) (fun c_16 => ?_)
  · skip
    refine lv_iload hx hb dL_law_624 (lv_at hl 1 rfl) ?_
    refine lv_if_ne (tgt := 641) hx hb dL_law_626 (by decide) (fun c_17 => ?_) (fun c_17 => ?_)
    · skip
      exact absurd (by decide) c_17
    · skip
      refine lv_aload_n hx hb dL_law_629 rfl (lv_at hl 5 rfl) ?_
      refine lv_iconst (v := 0) hx hb dL_law_630 (by decide) ?_
      refine va_lald hx hb hK hP 6 4 rfl rfl vp01 dL_law_631 ?_
      have e_18 : (vp_updL go 0 ((nI (hd b9)).toInt64) (0 : Int32).toNatClampNeg : Int64) = ((nI (hd b9)).toInt64) := pk_uLs
      rw [e_18]
      refine lv_iload hx hb dL_law_632 (lv_at hl 0 rfl) ?_
      refine lv_i2l hx hb dL_law_634 rfl ?_
      refine W.lcmp hx hb dL_law_635 ?_
      refine lv_if_eq (tgt := 641) hx hb dL_law_636 (by decide) (fun c_19 => ?_) (fun c_19 => ?_)
      · skip
        have c_19 := (lg_cmp_eq ((nI (hd b9)).toInt64) ((nI (phL (pk10 (xs (4 * t + 2)) (xs (4 * t + 3))))).toInt64)).mp c_19
        refine lv_goto (tgt := 644) hx hb dL_law_641 (by decide) ?_
        have hP : va_P (dC, dI) vwCl (w0 h a b0 cB cJ (apR (apR (apR f n (nI b9).toInt64 1) (n + 1) (nO 10 (xs (4 * t + 2)) (xs (4 * t + 3))) (wd b9)) (n + 1 + wd b9) (xs (4 * t + 3)).toInt64 (tW b9)) g (nI (n + hd b9)) (nI c) zg (nI k) ++ (w1 h1 a1 b1 cI cK (phF fb n (pk10 (xs (4 * t + 2)) (xs (4 * t + 3)))) g 0 (nI (n + hd b9)) (nI c) so nu ty hh pa ch9 zk zl zh zp zq (nI k) ++ wo o cO (vp_updL go 0 ((nI (hd b9)).toInt64)))) H := hP.sub [3, 4, 5, 0, 1, 2, 6] rfl
        have hD : va_D (fun q : Nat => s.heap.size ≤ q) (w0 h a b0 cB cJ (apR (apR (apR f n (nI b9).toInt64 1) (n + 1) (nO 10 (xs (4 * t + 2)) (xs (4 * t + 3))) (wd b9)) (n + 1 + wd b9) (xs (4 * t + 3)).toInt64 (tW b9)) g (nI (n + hd b9)) (nI c) zg (nI k) ++ (w1 h1 a1 b1 cI cK (phF fb n (pk10 (xs (4 * t + 2)) (xs (4 * t + 3)))) g 0 (nI (n + hd b9)) (nI c) so nu ty hh pa ch9 zk zl zh zp zq (nI k) ++ wo o cO (vp_updL go 0 ((nI (hd b9)).toInt64)))) := hD.sub [3, 4, 5, 0, 1, 2, 6] (by decide) rfl
        refine W.widen (k := 7 + t + 1) (n := 8416 + 6 * (t + 1)) (by omega) (by omega) ?_
        exact K _ _ _ ⟨n + hd b9, c, k, apR (apR (apR f n (nI b9).toInt64 1) (n + 1) (nO 10 (xs (4 * t + 2)) (xs (4 * t + 3))) (wd b9)) (n + 1 + wd b9) (xs (4 * t + 3)).toInt64 (tW b9), phF fb n (pk10 (xs (4 * t + 2)) (xs (4 * t + 3))), g, zg, 0, so, nu, ty, hh, pa, ch9, zk, zl, zh, zp, zq, vp_updL go 0 ((nI (hd b9)).toInt64), hr9, (by omega), hk, z2, (GV_mono hG (fun j hj => by rw [apR_lo _ _ _ _ (by omega), apR_lo _ _ _ _ (by omega), apR_lo _ _ _ _ (by omega)]) (Nat.le_refl _)), hP, hD, hS, lv_sub hl [2, 3, 4, 5, 6] rfl⟩
      · skip
        have c_19 := (not_congr (lg_cmp_eq ((nI (hd b9)).toInt64) ((nI (phL (pk10 (xs (4 * t + 2)) (xs (4 * t + 3))))).toInt64))).mp c_19
        exact absurd (by rw [z1]) c_19
  · skip
    exact absurd rfl c_16
set_option maxHeartbeats 4000000 in
set_option maxRecDepth 100000 in
theorem op_pack_f10 {p : Program} {e : Env} {s : State} {m : MethodId} {below : List Frame} {meth : Method} {cd : Code} {l : Launch} {b L : Nat} {xs : Nat → Int32} {dC : Nat → ClassId} {dI : Nat → Nat → Nat} {tk tw : Nat} {sa : Nat → Nat} {cB cJ cI cK cO : ClassId} {h a b0 h1 a1 b1 o t : Nat} {H : Heap} {locs : List Loc} {ls : Array Slot} (CX : LC l p s m meth cd b L xs dC dI tk tw sa cB cJ cI cK cO) (ht4 : 4 * t + 4 ≤ L) (K : ∀ (H : Heap) (locs : List Loc) (ls : Array Slot), LI s b dC dI h a b0 cB cJ h1 a1 b1 cI cK o cO t H locs ls → W p l e room_1 s m #[Value.ref b] below meth cd H locs (7 + t + 1) (8416 + 6 * (t + 1)) (lw_Z below #[Value.ref b] s) (F0 m 644 ls [])) (n : Nat) (c : Nat) (k : Nat) (f : Nat → Int32) (fb : Nat → Int32) (g : Nat → Int64) (zg : Int32) (zt : Int32) (so : Int32) (nu : Int64) (ty : Int32) (hh : Int32) (pa : Int64) (ch9 : Int64) (zk : Int32) (zl : Int32) (zh : Int32) (zp : Int32) (zq : Int32) (go : Nat → Int64) (hn : n ≤ 4096) (hc : c ≤ n) (hk : k ≤ 100) (hRB : RB n f fb) (hG : GV f c zg zk zl zh zp zq) (hP : va_P (dC, dI) vwCl (w0 h a b0 cB cJ f g (nI n) (nI c) zg (nI k) ++ (w1 h1 a1 b1 cI cK fb g zt (nI n) (nI c) so nu ty hh pa ch9 zk zl zh zp zq (nI k) ++ wo o cO go)) H) (hD : va_D (fun q : Nat => s.heap.size ≤ q) (w0 h a b0 cB cJ f g (nI n) (nI c) zg (nI k) ++ (w1 h1 a1 b1 cI cK fb g zt (nI n) (nI c) so nu ty hh pa ch9 zk zl zh zp zq (nI k) ++ wo o cO go))) (hS : va_S (fun q : Nat => s.heap.size ≤ q) s.heap H locs) (hl : lv_has ls 8 [(0, .ref b), (1, .ref h), (2, .ref h1), (3, .ref o), (4, .int (nI (4 * t)))]) (e1 : xs (4 * t + 1) = 10) (h8 : ¬ xs (4 * t + 2) < 0) (hr8 : 4096 < n + phL (pk10 (xs (4 * t + 2)) (xs (4 * t + 3)))) : W p l e room_1 s m #[Value.ref b] below meth cd H locs (7 + t) (8416 + 6 * t) (lw_Z below #[Value.ref b] s) (F0 m 564 ls []) := by
  obtain ⟨⟨hx, hb, hr, hml, hown, hts, hXs, hbl, hlocks⟩, hst, hL, hK, hZ, hX⟩ := CX
  have hA : ∀ q : Nat, s.heap.size ≤ q → (fun q : Nat => s.heap.size ≤ q) q := fun _ h => h
  have hbA : ¬ (fun q : Nat => s.heap.size ≤ q) b := Nat.not_le.mpr hbl
  have hKx := hK.sub (tys' := t0 cB cJ) [0, 1] rfl
  have hKm := hK.sub (tys' := t1 cI cK) [2, 3] rfl
  have hKh := hK.sub (tys' := th cB cJ cO) [0, 1, 4] rfl
  obtain ⟨b9, hb9, hs9, t1, t2, t3, t4⟩ := pkE_10 (xs (4 * t + 3)) h8
  obtain ⟨z1, z2⟩ := RB_pack (k := 10) (lo := (xs (4 * t + 2))) (hi := (xs (4 * t + 3))) (T := (pk10 (xs (4 * t + 2)) (xs (4 * t + 3)))) hb9 hRB t1 t2 t3 t4
  have hr9 : 4096 < n + hd b9 := by rw [← z1]; exact hr8
  refine lv_aload_n hx hb dL_law_564 rfl (lv_at hl 1 rfl) ?_
  refine lv_aload_n hx hb dL_law_565 rfl (lv_at hl 0 rfl) ?_
  refine lv_iload hx hb dL_law_566 (lv_at hl 4 rfl) ?_
  refine lv_iconst (v := 1) hx hb dL_law_568 (by decide) ?_
  refine lv_iadd hx hb dL_law_569 ?_
  have e_1 : (nI (4 * t) + (1 : Int32)) = nI (4 * t + 1) := nI_add (4 * t) 1
  rw [e_1]
  refine va_sld hx hb hXs hbl hbA hS (vp_in_nI (by omega) (by omega)) dL_law_570 ?_
  rw [nI_clamp (by omega)]
  rw [e1]
  refine lv_aload_n hx hb dL_law_571 rfl (lv_at hl 0 rfl) ?_
  refine lv_iload hx hb dL_law_572 (lv_at hl 4 rfl) ?_
  refine lv_iconst (v := 2) hx hb dL_law_574 (by decide) ?_
  refine lv_iadd hx hb dL_law_575 ?_
  have e_2 : (nI (4 * t) + (2 : Int32)) = nI (4 * t + 2) := nI_add (4 * t) 2
  rw [e_2]
  refine va_sld hx hb hXs hbl hbA hS (vp_in_nI (by omega) (by omega)) dL_law_576 ?_
  rw [nI_clamp (by omega)]
  refine lv_aload_n hx hb dL_law_577 rfl (lv_at hl 0 rfl) ?_
  refine lv_iload hx hb dL_law_578 (lv_at hl 4 rfl) ?_
  refine lv_iconst (v := 3) hx hb dL_law_580 (by decide) ?_
  refine lv_iadd hx hb dL_law_581 ?_
  have e_3 : (nI (4 * t) + (3 : Int32)) = nI (4 * t + 3) := nI_add (4 * t) 3
  rw [e_3]
  refine va_sld hx hb hXs hbl hbA hS (vp_in_nI (by omega) (by omega)) dL_law_582 ?_
  rw [nI_clamp (by omega)]
  refine lv_aload_n hx hb dL_law_583 rfl (lv_at hl 3 rfl) ?_
  have hP : va_P (dC, dI) vwCl ((w0 h a b0 cB cJ f g (nI n) (nI c) zg (nI k) ++ wo o cO go) ++ w1 h1 a1 b1 cI cK fb g zt (nI n) (nI c) so nu ty hh pa ch9 zk zl zh zp zq (nI k)) H := hP.sub [0, 1, 2, 6, 3, 4, 5] rfl
  have hD : va_D (fun q : Nat => s.heap.size ≤ q) ((w0 h a b0 cB cJ f g (nI n) (nI c) zg (nI k) ++ wo o cO go) ++ w1 h1 a1 b1 cI cK fb g zt (nI n) (nI c) so nu ty hh pa ch9 zk zl zh zp zq (nI k)) := hD.sub [0, 1, 2, 6, 3, 4, 5] (by decide) rfl
  refine ghi (wc := w0 h a b0 cB cJ f g (nI n) (nI c) zg (nI k) ++ wo o cO go) (wr := w1 h1 a1 b1 cI cK fb g zt (nI n) (nI c) so nu ty hh pa ch9 zk zl zh zp zq (nI k)) (As := [.ref h, .int 10, .int (xs (4 * t + 2)), .int (xs (4 * t + 3)), .ref o]) (rest := []) ⟨hx, hb, hml, hown, hts⟩ (c_L_pack_f l hst sa dC dI tk tw h a b0 cB cJ o cO go _ f g (nI c) zg (nI k) n hn 10 (xs (4 * t + 2)) (xs (4 * t + 3)) (by decide) (by decide) (fun _ => h8) (fun z => absurd z (by decide)) b9 hb9 hs9 hr9) (vx_cwSW 5 hts gL_law_L_pack rfl rfl rfl (by decide +kernel) ⟨Nat.le_of_ble_eq_true rfl, Nat.le_of_ble_eq_true rfl⟩) hKh hP hD hS hA hZ hX rfl hl.1 rfl (Nat.le_of_ble_eq_true rfl) dL_law_584 ⟨by show _ ≤ 1042; omega, by show _ ≤ 16674; omega⟩ (fun r_4 u_6 H locs hw_5 hP hD hS => ?_)
  have hP : va_P (dC, dI) vwCl ((w0 h a b0 cB cJ f g (nI n) (nI c) zg (nI k) ++ wo o cO go) ++ w1 h1 a1 b1 cI cK fb g zt (nI n) (nI c) so nu ty hh pa ch9 zk zl zh zp zq (nI k)) H := hP
  have hD : va_D (fun q : Nat => s.heap.size ≤ q) ((w0 h a b0 cB cJ f g (nI n) (nI c) zg (nI k) ++ wo o cO go) ++ w1 h1 a1 b1 cI cK fb g zt (nI n) (nI c) so nu ty hh pa ch9 zk zl zh zp zq (nI k)) := hD
  obtain rfl : r_4 = 2 := hw_5
  refine lv_istore (lv' := [(5, .int 2), (0, .ref b), (1, .ref h), (2, .ref h1), (3, .ref o), (4, .int (nI (4 * t)))]) hx hb dL_law_587 hl (by decide) rfl (fun ls hl => ?_)
  refine lv_aload_n hx hb dL_law_589 rfl (lv_at hl 3 rfl) ?_
  refine lv_aload_n hx hb dL_law_590 rfl (lv_at hl 1 rfl) ?_
  refine lv_iload hx hb dL_law_591 (lv_at hl 5 rfl) ?_
  refine lv_iconst (v := 1) hx hb dL_law_593 (by decide) ?_
  refine lv_iadd hx hb dL_law_594 ?_
  have e_7 : (nI (4 * t) + (1 : Int32)) = nI (4 * t + 1) := nI_add (4 * t) 1
  rw [e_7]
  refine va_sld hx hb hXs hbl hbA hS (vp_in_nI (by omega) (by omega)) dL_law_595 ?_
  rw [nI_clamp (by omega)]
  rw [e1]
  refine lv_aload_n hx hb dL_law_596 rfl (lv_at hl 1 rfl) ?_
  refine lv_iload hx hb dL_law_597 (lv_at hl 5 rfl) ?_
  refine lv_iconst (v := 2) hx hb dL_law_599 (by decide) ?_
  refine lv_iadd hx hb dL_law_600 ?_
  have e_8 : (nI (4 * t) + (2 : Int32)) = nI (4 * t + 2) := nI_add (4 * t) 2
  rw [e_8]
  refine va_sld hx hb hXs hbl hbA hS (vp_in_nI (by omega) (by omega)) dL_law_601 ?_
  rw [nI_clamp (by omega)]
  refine lv_aload_n hx hb dL_law_602 rfl (lv_at hl 1 rfl) ?_
  refine lv_iload hx hb dL_law_603 (lv_at hl 5 rfl) ?_
  refine lv_iconst (v := 3) hx hb dL_law_605 (by decide) ?_
  refine lv_iadd hx hb dL_law_606 ?_
  have e_9 : (nI (4 * t) + (3 : Int32)) = nI (4 * t + 3) := nI_add (4 * t) 3
  rw [e_9]
  refine va_sld hx hb hXs hbl hbA hS (vp_in_nI (by omega) (by omega)) dL_law_607 ?_
  rw [nI_clamp (by omega)]
  have hP : va_P (dC, dI) vwCl (w1 h1 a1 b1 cI cK fb g zt (nI n) (nI c) so nu ty hh pa ch9 zk zl zh zp zq (nI k) ++ (w0 h a b0 cB cJ f g (nI n) (nI c) zg (nI k) ++ wo o cO go)) H := hP.sub [4, 5, 6, 0, 1, 2, 3] rfl
  have hD : va_D (fun q : Nat => s.heap.size ≤ q) (w1 h1 a1 b1 cI cK fb g zt (nI n) (nI c) so nu ty hh pa ch9 zk zl zh zp zq (nI k) ++ (w0 h a b0 cB cJ f g (nI n) (nI c) zg (nI k) ++ wo o cO go)) := hD.sub [4, 5, 6, 0, 1, 2, 3] (by decide) rfl
  refine gji (wc := w1 h1 a1 b1 cI cK fb g zt (nI n) (nI c) so nu ty hh pa ch9 zk zl zh zp zq (nI k)) (wr := w0 h a b0 cB cJ f g (nI n) (nI c) zg (nI k) ++ wo o cO go) (As := [.int 10, .int (xs (4 * t + 2)), .int (xs (4 * t + 3))]) (rest := []) ⟨hx, hb, hml, hown, hts⟩ (c_X1_pack_10f l dC dI tk tw h1 a1 b1 cI cK _ fb g zt (nI c) so nu ty hh pa ch9 zk zl zh zp zq (nI k) n hn (xs (4 * t + 2)) (xs (4 * t + 3)) h8 hr8) (cwV 3 hts gL_law_X1_pack rfl rfl rfl (by decide +kernel) ⟨Nat.le_of_ble_eq_true rfl, Nat.le_of_ble_eq_true rfl⟩) hKm hP hD hS hA hZ (q0 := 0) (ci := 1) rfl rfl rfl rfl hl.1 rfl (Nat.le_of_ble_eq_true rfl) dL_law_608 ⟨by show _ ≤ 1042; omega, by show _ ≤ 16674; omega⟩ (fun r_10 u_12 H locs hw_11 hP hD hS => ?_)
  have hP : va_P (dC, dI) vwCl (w1 h1 a1 b1 cI cK fb g 2 (nI n) (nI c) so nu ty hh pa ch9 zk zl zh zp zq (nI k) ++ (w0 h a b0 cB cJ f g (nI n) (nI c) zg (nI k) ++ wo o cO go)) H := hP
  have hD : va_D (fun q : Nat => s.heap.size ≤ q) (w1 h1 a1 b1 cI cK fb g 2 (nI n) (nI c) so nu ty hh pa ch9 zk zl zh zp zq (nI k) ++ (w0 h a b0 cB cJ f g (nI n) (nI c) zg (nI k) ++ wo o cO go)) := hD
  refine lv_istore (lv' := [(6, .int r_10), (5, .int 2), (0, .ref b), (1, .ref h), (2, .ref h1), (3, .ref o), (4, .int (nI (4 * t)))]) hx hb dL_law_611 hl (by decide) rfl (fun ls hl => ?_)
  refine lv_aload_n hx hb dL_law_613 rfl (lv_at hl 4 rfl) ?_
  refine gji (wc := w1 h1 a1 b1 cI cK fb g 2 (nI n) (nI c) so nu ty hh pa ch9 zk zl zh zp zq (nI k)) (wr := w0 h a b0 cB cJ f g (nI n) (nI c) zg (nI k) ++ wo o cO go) (As := []) (rest := []) ⟨hx, hb, hml, hown, hts⟩ (c_X1_thrown l dC dI tk tw h1 a1 b1 cI cK _ fb g 2 (nI n) (nI c) so nu ty hh pa ch9 zk zl zh zp zq (nI k) ) (cwV 0 hts gL_law_X1_thrown rfl rfl rfl (by decide +kernel) ⟨Nat.le_of_ble_eq_true rfl, Nat.le_of_ble_eq_true rfl⟩) hKm hP hD hS hA hZ (q0 := 0) (ci := 1) rfl rfl rfl rfl hl.1 rfl (Nat.le_of_ble_eq_true rfl) dL_law_614 ⟨by show _ ≤ 1042; omega, by show _ ≤ 16674; omega⟩ (fun r_13 u_15 H locs hw_14 hP hD hS => ?_)
  have hP : va_P (dC, dI) vwCl (w1 h1 a1 b1 cI cK fb g 2 (nI n) (nI c) so nu ty hh pa ch9 zk zl zh zp zq (nI k) ++ (w0 h a b0 cB cJ f g (nI n) (nI c) zg (nI k) ++ wo o cO go)) H := hP
  have hD : va_D (fun q : Nat => s.heap.size ≤ q) (w1 h1 a1 b1 cI cK fb g 2 (nI n) (nI c) so nu ty hh pa ch9 zk zl zh zp zq (nI k) ++ (w0 h a b0 cB cJ f g (nI n) (nI c) zg (nI k) ++ wo o cO go)) := hD
  obtain rfl : r_13 = 2 := hw_14
  refine lv_iload hx hb dL_law_617 (lv_at hl 1 rfl) ?_
  refine lv_icmp_eq (tgt := 624) hx hb dL_law_619 (by decide) (fun c_16 => ?_) (fun c_16 => ?_)
  · skip
    refine lv_iload hx hb dL_law_624 (lv_at hl 1 rfl) ?_
    refine lv_if_ne (tgt := 641) hx hb dL_law_626 (by decide) (fun c_17 => ?_) (fun c_17 => ?_)
    · skip
      refine lv_goto (tgt := 644) hx hb dL_law_641 (by decide) ?_
      have hP : va_P (dC, dI) vwCl (w0 h a b0 cB cJ f g (nI n) (nI c) zg (nI k) ++ (w1 h1 a1 b1 cI cK fb g 2 (nI n) (nI c) so nu ty hh pa ch9 zk zl zh zp zq (nI k) ++ wo o cO go)) H := hP.sub [3, 4, 5, 0, 1, 2, 6] rfl
      have hD : va_D (fun q : Nat => s.heap.size ≤ q) (w0 h a b0 cB cJ f g (nI n) (nI c) zg (nI k) ++ (w1 h1 a1 b1 cI cK fb g 2 (nI n) (nI c) so nu ty hh pa ch9 zk zl zh zp zq (nI k) ++ wo o cO go)) := hD.sub [3, 4, 5, 0, 1, 2, 6] (by decide) rfl
      refine W.widen (k := 7 + t + 1) (n := 8416 + 6 * (t + 1)) (by omega) (by omega) ?_
      exact K _ _ _ ⟨n, c, k, f, fb, g, zg, 2, so, nu, ty, hh, pa, ch9, zk, zl, zh, zp, zq, go, hn, hc, hk, hRB, hG, hP, hD, hS, lv_sub hl [2, 3, 4, 5, 6] rfl⟩
    · skip
      exact absurd c_17 (by decide)
  · skip
    exact absurd rfl c_16
set_option maxHeartbeats 4000000 in
set_option maxRecDepth 100000 in
theorem op_pack_g11 {p : Program} {e : Env} {s : State} {m : MethodId} {below : List Frame} {meth : Method} {cd : Code} {l : Launch} {b L : Nat} {xs : Nat → Int32} {dC : Nat → ClassId} {dI : Nat → Nat → Nat} {tk tw : Nat} {sa : Nat → Nat} {cB cJ cI cK cO : ClassId} {h a b0 h1 a1 b1 o t : Nat} {H : Heap} {locs : List Loc} {ls : Array Slot} (CX : LC l p s m meth cd b L xs dC dI tk tw sa cB cJ cI cK cO) (ht4 : 4 * t + 4 ≤ L) (K : ∀ (H : Heap) (locs : List Loc) (ls : Array Slot), LI s b dC dI h a b0 cB cJ h1 a1 b1 cI cK o cO t H locs ls → W p l e room_1 s m #[Value.ref b] below meth cd H locs (7 + t + 1) (8416 + 6 * (t + 1)) (lw_Z below #[Value.ref b] s) (F0 m 644 ls [])) (n : Nat) (c : Nat) (k : Nat) (f : Nat → Int32) (fb : Nat → Int32) (g : Nat → Int64) (zg : Int32) (zt : Int32) (so : Int32) (nu : Int64) (ty : Int32) (hh : Int32) (pa : Int64) (ch9 : Int64) (zk : Int32) (zl : Int32) (zh : Int32) (zp : Int32) (zq : Int32) (go : Nat → Int64) (hn : n ≤ 4096) (hc : c ≤ n) (hk : k ≤ 100) (hRB : RB n f fb) (hG : GV f c zg zk zl zh zp zq) (hP : va_P (dC, dI) vwCl (w0 h a b0 cB cJ f g (nI n) (nI c) zg (nI k) ++ (w1 h1 a1 b1 cI cK fb g zt (nI n) (nI c) so nu ty hh pa ch9 zk zl zh zp zq (nI k) ++ wo o cO go)) H) (hD : va_D (fun q : Nat => s.heap.size ≤ q) (w0 h a b0 cB cJ f g (nI n) (nI c) zg (nI k) ++ (w1 h1 a1 b1 cI cK fb g zt (nI n) (nI c) so nu ty hh pa ch9 zk zl zh zp zq (nI k) ++ wo o cO go))) (hS : va_S (fun q : Nat => s.heap.size ≤ q) s.heap H locs) (hl : lv_has ls 8 [(0, .ref b), (1, .ref h), (2, .ref h1), (3, .ref o), (4, .int (nI (4 * t)))]) (e1 : xs (4 * t + 1) = 11) (h8 : ¬ xs (4 * t + 2) < 0) (hr8 : n + phL (pk11 (xs (4 * t + 2)) (xs (4 * t + 3))) ≤ 4096) : W p l e room_1 s m #[Value.ref b] below meth cd H locs (7 + t) (8416 + 6 * t) (lw_Z below #[Value.ref b] s) (F0 m 564 ls []) := by
  obtain ⟨⟨hx, hb, hr, hml, hown, hts, hXs, hbl, hlocks⟩, hst, hL, hK, hZ, hX⟩ := CX
  have hA : ∀ q : Nat, s.heap.size ≤ q → (fun q : Nat => s.heap.size ≤ q) q := fun _ h => h
  have hbA : ¬ (fun q : Nat => s.heap.size ≤ q) b := Nat.not_le.mpr hbl
  have hKx := hK.sub (tys' := t0 cB cJ) [0, 1] rfl
  have hKm := hK.sub (tys' := t1 cI cK) [2, 3] rfl
  have hKh := hK.sub (tys' := th cB cJ cO) [0, 1, 4] rfl
  obtain ⟨b9, hb9, hs9, t1, t2, t3, t4⟩ := pkE_11 (xs (4 * t + 3)) h8
  obtain ⟨z1, z2⟩ := RB_pack (k := 11) (lo := (xs (4 * t + 2))) (hi := (xs (4 * t + 3))) (T := (pk11 (xs (4 * t + 2)) (xs (4 * t + 3)))) hb9 hRB t1 t2 t3 t4
  have hr9 : n + hd b9 ≤ 4096 := by rw [← z1]; exact hr8
  refine lv_aload_n hx hb dL_law_564 rfl (lv_at hl 1 rfl) ?_
  refine lv_aload_n hx hb dL_law_565 rfl (lv_at hl 0 rfl) ?_
  refine lv_iload hx hb dL_law_566 (lv_at hl 4 rfl) ?_
  refine lv_iconst (v := 1) hx hb dL_law_568 (by decide) ?_
  refine lv_iadd hx hb dL_law_569 ?_
  have e_1 : (nI (4 * t) + (1 : Int32)) = nI (4 * t + 1) := nI_add (4 * t) 1
  rw [e_1]
  refine va_sld hx hb hXs hbl hbA hS (vp_in_nI (by omega) (by omega)) dL_law_570 ?_
  rw [nI_clamp (by omega)]
  rw [e1]
  refine lv_aload_n hx hb dL_law_571 rfl (lv_at hl 0 rfl) ?_
  refine lv_iload hx hb dL_law_572 (lv_at hl 4 rfl) ?_
  refine lv_iconst (v := 2) hx hb dL_law_574 (by decide) ?_
  refine lv_iadd hx hb dL_law_575 ?_
  have e_2 : (nI (4 * t) + (2 : Int32)) = nI (4 * t + 2) := nI_add (4 * t) 2
  rw [e_2]
  refine va_sld hx hb hXs hbl hbA hS (vp_in_nI (by omega) (by omega)) dL_law_576 ?_
  rw [nI_clamp (by omega)]
  refine lv_aload_n hx hb dL_law_577 rfl (lv_at hl 0 rfl) ?_
  refine lv_iload hx hb dL_law_578 (lv_at hl 4 rfl) ?_
  refine lv_iconst (v := 3) hx hb dL_law_580 (by decide) ?_
  refine lv_iadd hx hb dL_law_581 ?_
  have e_3 : (nI (4 * t) + (3 : Int32)) = nI (4 * t + 3) := nI_add (4 * t) 3
  rw [e_3]
  refine va_sld hx hb hXs hbl hbA hS (vp_in_nI (by omega) (by omega)) dL_law_582 ?_
  rw [nI_clamp (by omega)]
  refine lv_aload_n hx hb dL_law_583 rfl (lv_at hl 3 rfl) ?_
  have hP : va_P (dC, dI) vwCl ((w0 h a b0 cB cJ f g (nI n) (nI c) zg (nI k) ++ wo o cO go) ++ w1 h1 a1 b1 cI cK fb g zt (nI n) (nI c) so nu ty hh pa ch9 zk zl zh zp zq (nI k)) H := hP.sub [0, 1, 2, 6, 3, 4, 5] rfl
  have hD : va_D (fun q : Nat => s.heap.size ≤ q) ((w0 h a b0 cB cJ f g (nI n) (nI c) zg (nI k) ++ wo o cO go) ++ w1 h1 a1 b1 cI cK fb g zt (nI n) (nI c) so nu ty hh pa ch9 zk zl zh zp zq (nI k)) := hD.sub [0, 1, 2, 6, 3, 4, 5] (by decide) rfl
  refine ghi (wc := w0 h a b0 cB cJ f g (nI n) (nI c) zg (nI k) ++ wo o cO go) (wr := w1 h1 a1 b1 cI cK fb g zt (nI n) (nI c) so nu ty hh pa ch9 zk zl zh zp zq (nI k)) (As := [.ref h, .int 11, .int (xs (4 * t + 2)), .int (xs (4 * t + 3)), .ref o]) (rest := []) ⟨hx, hb, hml, hown, hts⟩ (c_L_pack l hst sa dC dI tk tw h a b0 cB cJ o cO go _ f g (nI c) zg (nI k) n 11 (xs (4 * t + 2)) (xs (4 * t + 3)) (by decide) (by decide) (fun _ => h8) (fun z => absurd z (by decide)) b9 hb9 hs9 hr9) (vx_cwSW 5 hts gL_law_L_pack rfl rfl rfl (by decide +kernel) ⟨Nat.le_of_ble_eq_true rfl, Nat.le_of_ble_eq_true rfl⟩) hKh hP hD hS hA hZ hX rfl hl.1 rfl (Nat.le_of_ble_eq_true rfl) dL_law_584 ⟨by show _ ≤ 1042; omega, by show _ ≤ 16674; omega⟩ (fun r_4 u_6 H locs hw_5 hP hD hS => ?_)
  have hP : va_P (dC, dI) vwCl ((w0 h a b0 cB cJ (apR (apR (apR f n (nI b9).toInt64 1) (n + 1) (nO 11 (xs (4 * t + 2)) (xs (4 * t + 3))) (wd b9)) (n + 1 + wd b9) (xs (4 * t + 3)).toInt64 (tW b9)) g (nI (n + hd b9)) (nI c) zg (nI k) ++ wo o cO (vp_updL go 0 ((nI (hd b9)).toInt64))) ++ w1 h1 a1 b1 cI cK fb g zt (nI n) (nI c) so nu ty hh pa ch9 zk zl zh zp zq (nI k)) H := hP
  have hD : va_D (fun q : Nat => s.heap.size ≤ q) ((w0 h a b0 cB cJ (apR (apR (apR f n (nI b9).toInt64 1) (n + 1) (nO 11 (xs (4 * t + 2)) (xs (4 * t + 3))) (wd b9)) (n + 1 + wd b9) (xs (4 * t + 3)).toInt64 (tW b9)) g (nI (n + hd b9)) (nI c) zg (nI k) ++ wo o cO (vp_updL go 0 ((nI (hd b9)).toInt64))) ++ w1 h1 a1 b1 cI cK fb g zt (nI n) (nI c) so nu ty hh pa ch9 zk zl zh zp zq (nI k)) := hD
  obtain rfl : r_4 = 0 := hw_5
  refine lv_istore (lv' := [(5, .int 0), (0, .ref b), (1, .ref h), (2, .ref h1), (3, .ref o), (4, .int (nI (4 * t)))]) hx hb dL_law_587 hl (by decide) rfl (fun ls hl => ?_)
  refine lv_aload_n hx hb dL_law_589 rfl (lv_at hl 3 rfl) ?_
  refine lv_aload_n hx hb dL_law_590 rfl (lv_at hl 1 rfl) ?_
  refine lv_iload hx hb dL_law_591 (lv_at hl 5 rfl) ?_
  refine lv_iconst (v := 1) hx hb dL_law_593 (by decide) ?_
  refine lv_iadd hx hb dL_law_594 ?_
  have e_7 : (nI (4 * t) + (1 : Int32)) = nI (4 * t + 1) := nI_add (4 * t) 1
  rw [e_7]
  refine va_sld hx hb hXs hbl hbA hS (vp_in_nI (by omega) (by omega)) dL_law_595 ?_
  rw [nI_clamp (by omega)]
  rw [e1]
  refine lv_aload_n hx hb dL_law_596 rfl (lv_at hl 1 rfl) ?_
  refine lv_iload hx hb dL_law_597 (lv_at hl 5 rfl) ?_
  refine lv_iconst (v := 2) hx hb dL_law_599 (by decide) ?_
  refine lv_iadd hx hb dL_law_600 ?_
  have e_8 : (nI (4 * t) + (2 : Int32)) = nI (4 * t + 2) := nI_add (4 * t) 2
  rw [e_8]
  refine va_sld hx hb hXs hbl hbA hS (vp_in_nI (by omega) (by omega)) dL_law_601 ?_
  rw [nI_clamp (by omega)]
  refine lv_aload_n hx hb dL_law_602 rfl (lv_at hl 1 rfl) ?_
  refine lv_iload hx hb dL_law_603 (lv_at hl 5 rfl) ?_
  refine lv_iconst (v := 3) hx hb dL_law_605 (by decide) ?_
  refine lv_iadd hx hb dL_law_606 ?_
  have e_9 : (nI (4 * t) + (3 : Int32)) = nI (4 * t + 3) := nI_add (4 * t) 3
  rw [e_9]
  refine va_sld hx hb hXs hbl hbA hS (vp_in_nI (by omega) (by omega)) dL_law_607 ?_
  rw [nI_clamp (by omega)]
  have hP : va_P (dC, dI) vwCl (w1 h1 a1 b1 cI cK fb g zt (nI n) (nI c) so nu ty hh pa ch9 zk zl zh zp zq (nI k) ++ (w0 h a b0 cB cJ (apR (apR (apR f n (nI b9).toInt64 1) (n + 1) (nO 11 (xs (4 * t + 2)) (xs (4 * t + 3))) (wd b9)) (n + 1 + wd b9) (xs (4 * t + 3)).toInt64 (tW b9)) g (nI (n + hd b9)) (nI c) zg (nI k) ++ wo o cO (vp_updL go 0 ((nI (hd b9)).toInt64)))) H := hP.sub [4, 5, 6, 0, 1, 2, 3] rfl
  have hD : va_D (fun q : Nat => s.heap.size ≤ q) (w1 h1 a1 b1 cI cK fb g zt (nI n) (nI c) so nu ty hh pa ch9 zk zl zh zp zq (nI k) ++ (w0 h a b0 cB cJ (apR (apR (apR f n (nI b9).toInt64 1) (n + 1) (nO 11 (xs (4 * t + 2)) (xs (4 * t + 3))) (wd b9)) (n + 1 + wd b9) (xs (4 * t + 3)).toInt64 (tW b9)) g (nI (n + hd b9)) (nI c) zg (nI k) ++ wo o cO (vp_updL go 0 ((nI (hd b9)).toInt64)))) := hD.sub [4, 5, 6, 0, 1, 2, 3] (by decide) rfl
  refine gji (wc := w1 h1 a1 b1 cI cK fb g zt (nI n) (nI c) so nu ty hh pa ch9 zk zl zh zp zq (nI k)) (wr := w0 h a b0 cB cJ (apR (apR (apR f n (nI b9).toInt64 1) (n + 1) (nO 11 (xs (4 * t + 2)) (xs (4 * t + 3))) (wd b9)) (n + 1 + wd b9) (xs (4 * t + 3)).toInt64 (tW b9)) g (nI (n + hd b9)) (nI c) zg (nI k) ++ wo o cO (vp_updL go 0 ((nI (hd b9)).toInt64))) (As := [.int 11, .int (xs (4 * t + 2)), .int (xs (4 * t + 3))]) (rest := []) ⟨hx, hb, hml, hown, hts⟩ (c_X1_pack_11 l dC dI tk tw h1 a1 b1 cI cK _ fb g zt (nI c) so nu ty hh pa ch9 zk zl zh zp zq (nI k) n (xs (4 * t + 2)) (xs (4 * t + 3)) h8 hr8) (cwV 3 hts gL_law_X1_pack rfl rfl rfl (by decide +kernel) ⟨Nat.le_of_ble_eq_true rfl, Nat.le_of_ble_eq_true rfl⟩) hKm hP hD hS hA hZ (q0 := 0) (ci := 1) rfl rfl rfl rfl hl.1 rfl (Nat.le_of_ble_eq_true rfl) dL_law_608 ⟨by show _ ≤ 1042; omega, by show _ ≤ 16674; omega⟩ (fun r_10 u_12 H locs hw_11 hP hD hS => ?_)
  have hP : va_P (dC, dI) vwCl (w1 h1 a1 b1 cI cK (phF fb n (pk11 (xs (4 * t + 2)) (xs (4 * t + 3)))) g 0 (nI (n + phL (pk11 (xs (4 * t + 2)) (xs (4 * t + 3))))) (nI c) so nu ty hh pa ch9 zk zl zh zp zq (nI k) ++ (w0 h a b0 cB cJ (apR (apR (apR f n (nI b9).toInt64 1) (n + 1) (nO 11 (xs (4 * t + 2)) (xs (4 * t + 3))) (wd b9)) (n + 1 + wd b9) (xs (4 * t + 3)).toInt64 (tW b9)) g (nI (n + hd b9)) (nI c) zg (nI k) ++ wo o cO (vp_updL go 0 ((nI (hd b9)).toInt64)))) H := hP
  have hD : va_D (fun q : Nat => s.heap.size ≤ q) (w1 h1 a1 b1 cI cK (phF fb n (pk11 (xs (4 * t + 2)) (xs (4 * t + 3)))) g 0 (nI (n + phL (pk11 (xs (4 * t + 2)) (xs (4 * t + 3))))) (nI c) so nu ty hh pa ch9 zk zl zh zp zq (nI k) ++ (w0 h a b0 cB cJ (apR (apR (apR f n (nI b9).toInt64 1) (n + 1) (nO 11 (xs (4 * t + 2)) (xs (4 * t + 3))) (wd b9)) (n + 1 + wd b9) (xs (4 * t + 3)).toInt64 (tW b9)) g (nI (n + hd b9)) (nI c) zg (nI k) ++ wo o cO (vp_updL go 0 ((nI (hd b9)).toInt64)))) := hD
  obtain rfl : r_10 = nI (phL (pk11 (xs (4 * t + 2)) (xs (4 * t + 3)))) := hw_11
  rw [z1] at hP hD
  have hP : va_P (dC, dI) vwCl (w1 h1 a1 b1 cI cK (phF fb n (pk11 (xs (4 * t + 2)) (xs (4 * t + 3)))) g 0 (nI (n + hd b9)) (nI c) so nu ty hh pa ch9 zk zl zh zp zq (nI k) ++ (w0 h a b0 cB cJ (apR (apR (apR f n (nI b9).toInt64 1) (n + 1) (nO 11 (xs (4 * t + 2)) (xs (4 * t + 3))) (wd b9)) (n + 1 + wd b9) (xs (4 * t + 3)).toInt64 (tW b9)) g (nI (n + hd b9)) (nI c) zg (nI k) ++ wo o cO (vp_updL go 0 ((nI (hd b9)).toInt64)))) H := hP
  have hD : va_D (fun q : Nat => s.heap.size ≤ q) (w1 h1 a1 b1 cI cK (phF fb n (pk11 (xs (4 * t + 2)) (xs (4 * t + 3)))) g 0 (nI (n + hd b9)) (nI c) so nu ty hh pa ch9 zk zl zh zp zq (nI k) ++ (w0 h a b0 cB cJ (apR (apR (apR f n (nI b9).toInt64 1) (n + 1) (nO 11 (xs (4 * t + 2)) (xs (4 * t + 3))) (wd b9)) (n + 1 + wd b9) (xs (4 * t + 3)).toInt64 (tW b9)) g (nI (n + hd b9)) (nI c) zg (nI k) ++ wo o cO (vp_updL go 0 ((nI (hd b9)).toInt64)))) := hD
  refine lv_istore (lv' := [(6, .int (nI (phL (pk11 (xs (4 * t + 2)) (xs (4 * t + 3)))))), (5, .int 0), (0, .ref b), (1, .ref h), (2, .ref h1), (3, .ref o), (4, .int (nI (4 * t)))]) hx hb dL_law_611 hl (by decide) rfl (fun ls hl => ?_)
  refine lv_aload_n hx hb dL_law_613 rfl (lv_at hl 4 rfl) ?_
  refine gji (wc := w1 h1 a1 b1 cI cK (phF fb n (pk11 (xs (4 * t + 2)) (xs (4 * t + 3)))) g 0 (nI (n + hd b9)) (nI c) so nu ty hh pa ch9 zk zl zh zp zq (nI k)) (wr := w0 h a b0 cB cJ (apR (apR (apR f n (nI b9).toInt64 1) (n + 1) (nO 11 (xs (4 * t + 2)) (xs (4 * t + 3))) (wd b9)) (n + 1 + wd b9) (xs (4 * t + 3)).toInt64 (tW b9)) g (nI (n + hd b9)) (nI c) zg (nI k) ++ wo o cO (vp_updL go 0 ((nI (hd b9)).toInt64))) (As := []) (rest := []) ⟨hx, hb, hml, hown, hts⟩ (c_X1_thrown l dC dI tk tw h1 a1 b1 cI cK _ (phF fb n (pk11 (xs (4 * t + 2)) (xs (4 * t + 3)))) g 0 (nI (n + hd b9)) (nI c) so nu ty hh pa ch9 zk zl zh zp zq (nI k) ) (cwV 0 hts gL_law_X1_thrown rfl rfl rfl (by decide +kernel) ⟨Nat.le_of_ble_eq_true rfl, Nat.le_of_ble_eq_true rfl⟩) hKm hP hD hS hA hZ (q0 := 0) (ci := 1) rfl rfl rfl rfl hl.1 rfl (Nat.le_of_ble_eq_true rfl) dL_law_614 ⟨by show _ ≤ 1042; omega, by show _ ≤ 16674; omega⟩ (fun r_13 u_15 H locs hw_14 hP hD hS => ?_)
  have hP : va_P (dC, dI) vwCl (w1 h1 a1 b1 cI cK (phF fb n (pk11 (xs (4 * t + 2)) (xs (4 * t + 3)))) g 0 (nI (n + hd b9)) (nI c) so nu ty hh pa ch9 zk zl zh zp zq (nI k) ++ (w0 h a b0 cB cJ (apR (apR (apR f n (nI b9).toInt64 1) (n + 1) (nO 11 (xs (4 * t + 2)) (xs (4 * t + 3))) (wd b9)) (n + 1 + wd b9) (xs (4 * t + 3)).toInt64 (tW b9)) g (nI (n + hd b9)) (nI c) zg (nI k) ++ wo o cO (vp_updL go 0 ((nI (hd b9)).toInt64)))) H := hP
  have hD : va_D (fun q : Nat => s.heap.size ≤ q) (w1 h1 a1 b1 cI cK (phF fb n (pk11 (xs (4 * t + 2)) (xs (4 * t + 3)))) g 0 (nI (n + hd b9)) (nI c) so nu ty hh pa ch9 zk zl zh zp zq (nI k) ++ (w0 h a b0 cB cJ (apR (apR (apR f n (nI b9).toInt64 1) (n + 1) (nO 11 (xs (4 * t + 2)) (xs (4 * t + 3))) (wd b9)) (n + 1 + wd b9) (xs (4 * t + 3)).toInt64 (tW b9)) g (nI (n + hd b9)) (nI c) zg (nI k) ++ wo o cO (vp_updL go 0 ((nI (hd b9)).toInt64)))) := hD
  obtain rfl : r_13 = 0 := hw_14
  refine lv_iload hx hb dL_law_617 (lv_at hl 1 rfl) ?_
  refine lv_icmp_eq (tgt := 624) hx hb dL_law_619 (by decide) (fun c_16 => ?_) (fun c_16 => ?_)
  · skip
    refine lv_iload hx hb dL_law_624 (lv_at hl 1 rfl) ?_
    refine lv_if_ne (tgt := 641) hx hb dL_law_626 (by decide) (fun c_17 => ?_) (fun c_17 => ?_)
    · skip
      exact absurd (by decide) c_17
    · skip
      refine lv_aload_n hx hb dL_law_629 rfl (lv_at hl 5 rfl) ?_
      refine lv_iconst (v := 0) hx hb dL_law_630 (by decide) ?_
      refine va_lald hx hb hK hP 6 4 rfl rfl vp01 dL_law_631 ?_
      have e_18 : (vp_updL go 0 ((nI (hd b9)).toInt64) (0 : Int32).toNatClampNeg : Int64) = ((nI (hd b9)).toInt64) := pk_uLs
      rw [e_18]
      refine lv_iload hx hb dL_law_632 (lv_at hl 0 rfl) ?_
      refine lv_i2l hx hb dL_law_634 rfl ?_
      refine W.lcmp hx hb dL_law_635 ?_
      refine lv_if_eq (tgt := 641) hx hb dL_law_636 (by decide) (fun c_19 => ?_) (fun c_19 => ?_)
      · skip
        have c_19 := (lg_cmp_eq ((nI (hd b9)).toInt64) ((nI (phL (pk11 (xs (4 * t + 2)) (xs (4 * t + 3))))).toInt64)).mp c_19
        refine lv_goto (tgt := 644) hx hb dL_law_641 (by decide) ?_
        have hP : va_P (dC, dI) vwCl (w0 h a b0 cB cJ (apR (apR (apR f n (nI b9).toInt64 1) (n + 1) (nO 11 (xs (4 * t + 2)) (xs (4 * t + 3))) (wd b9)) (n + 1 + wd b9) (xs (4 * t + 3)).toInt64 (tW b9)) g (nI (n + hd b9)) (nI c) zg (nI k) ++ (w1 h1 a1 b1 cI cK (phF fb n (pk11 (xs (4 * t + 2)) (xs (4 * t + 3)))) g 0 (nI (n + hd b9)) (nI c) so nu ty hh pa ch9 zk zl zh zp zq (nI k) ++ wo o cO (vp_updL go 0 ((nI (hd b9)).toInt64)))) H := hP.sub [3, 4, 5, 0, 1, 2, 6] rfl
        have hD : va_D (fun q : Nat => s.heap.size ≤ q) (w0 h a b0 cB cJ (apR (apR (apR f n (nI b9).toInt64 1) (n + 1) (nO 11 (xs (4 * t + 2)) (xs (4 * t + 3))) (wd b9)) (n + 1 + wd b9) (xs (4 * t + 3)).toInt64 (tW b9)) g (nI (n + hd b9)) (nI c) zg (nI k) ++ (w1 h1 a1 b1 cI cK (phF fb n (pk11 (xs (4 * t + 2)) (xs (4 * t + 3)))) g 0 (nI (n + hd b9)) (nI c) so nu ty hh pa ch9 zk zl zh zp zq (nI k) ++ wo o cO (vp_updL go 0 ((nI (hd b9)).toInt64)))) := hD.sub [3, 4, 5, 0, 1, 2, 6] (by decide) rfl
        refine W.widen (k := 7 + t + 1) (n := 8416 + 6 * (t + 1)) (by omega) (by omega) ?_
        exact K _ _ _ ⟨n + hd b9, c, k, apR (apR (apR f n (nI b9).toInt64 1) (n + 1) (nO 11 (xs (4 * t + 2)) (xs (4 * t + 3))) (wd b9)) (n + 1 + wd b9) (xs (4 * t + 3)).toInt64 (tW b9), phF fb n (pk11 (xs (4 * t + 2)) (xs (4 * t + 3))), g, zg, 0, so, nu, ty, hh, pa, ch9, zk, zl, zh, zp, zq, vp_updL go 0 ((nI (hd b9)).toInt64), hr9, (by omega), hk, z2, (GV_mono hG (fun j hj => by rw [apR_lo _ _ _ _ (by omega), apR_lo _ _ _ _ (by omega), apR_lo _ _ _ _ (by omega)]) (Nat.le_refl _)), hP, hD, hS, lv_sub hl [2, 3, 4, 5, 6] rfl⟩
      · skip
        have c_19 := (not_congr (lg_cmp_eq ((nI (hd b9)).toInt64) ((nI (phL (pk11 (xs (4 * t + 2)) (xs (4 * t + 3))))).toInt64))).mp c_19
        exact absurd (by rw [z1]) c_19
  · skip
    exact absurd rfl c_16
set_option maxHeartbeats 4000000 in
set_option maxRecDepth 100000 in
theorem op_pack_f11 {p : Program} {e : Env} {s : State} {m : MethodId} {below : List Frame} {meth : Method} {cd : Code} {l : Launch} {b L : Nat} {xs : Nat → Int32} {dC : Nat → ClassId} {dI : Nat → Nat → Nat} {tk tw : Nat} {sa : Nat → Nat} {cB cJ cI cK cO : ClassId} {h a b0 h1 a1 b1 o t : Nat} {H : Heap} {locs : List Loc} {ls : Array Slot} (CX : LC l p s m meth cd b L xs dC dI tk tw sa cB cJ cI cK cO) (ht4 : 4 * t + 4 ≤ L) (K : ∀ (H : Heap) (locs : List Loc) (ls : Array Slot), LI s b dC dI h a b0 cB cJ h1 a1 b1 cI cK o cO t H locs ls → W p l e room_1 s m #[Value.ref b] below meth cd H locs (7 + t + 1) (8416 + 6 * (t + 1)) (lw_Z below #[Value.ref b] s) (F0 m 644 ls [])) (n : Nat) (c : Nat) (k : Nat) (f : Nat → Int32) (fb : Nat → Int32) (g : Nat → Int64) (zg : Int32) (zt : Int32) (so : Int32) (nu : Int64) (ty : Int32) (hh : Int32) (pa : Int64) (ch9 : Int64) (zk : Int32) (zl : Int32) (zh : Int32) (zp : Int32) (zq : Int32) (go : Nat → Int64) (hn : n ≤ 4096) (hc : c ≤ n) (hk : k ≤ 100) (hRB : RB n f fb) (hG : GV f c zg zk zl zh zp zq) (hP : va_P (dC, dI) vwCl (w0 h a b0 cB cJ f g (nI n) (nI c) zg (nI k) ++ (w1 h1 a1 b1 cI cK fb g zt (nI n) (nI c) so nu ty hh pa ch9 zk zl zh zp zq (nI k) ++ wo o cO go)) H) (hD : va_D (fun q : Nat => s.heap.size ≤ q) (w0 h a b0 cB cJ f g (nI n) (nI c) zg (nI k) ++ (w1 h1 a1 b1 cI cK fb g zt (nI n) (nI c) so nu ty hh pa ch9 zk zl zh zp zq (nI k) ++ wo o cO go))) (hS : va_S (fun q : Nat => s.heap.size ≤ q) s.heap H locs) (hl : lv_has ls 8 [(0, .ref b), (1, .ref h), (2, .ref h1), (3, .ref o), (4, .int (nI (4 * t)))]) (e1 : xs (4 * t + 1) = 11) (h8 : ¬ xs (4 * t + 2) < 0) (hr8 : 4096 < n + phL (pk11 (xs (4 * t + 2)) (xs (4 * t + 3)))) : W p l e room_1 s m #[Value.ref b] below meth cd H locs (7 + t) (8416 + 6 * t) (lw_Z below #[Value.ref b] s) (F0 m 564 ls []) := by
  obtain ⟨⟨hx, hb, hr, hml, hown, hts, hXs, hbl, hlocks⟩, hst, hL, hK, hZ, hX⟩ := CX
  have hA : ∀ q : Nat, s.heap.size ≤ q → (fun q : Nat => s.heap.size ≤ q) q := fun _ h => h
  have hbA : ¬ (fun q : Nat => s.heap.size ≤ q) b := Nat.not_le.mpr hbl
  have hKx := hK.sub (tys' := t0 cB cJ) [0, 1] rfl
  have hKm := hK.sub (tys' := t1 cI cK) [2, 3] rfl
  have hKh := hK.sub (tys' := th cB cJ cO) [0, 1, 4] rfl
  obtain ⟨b9, hb9, hs9, t1, t2, t3, t4⟩ := pkE_11 (xs (4 * t + 3)) h8
  obtain ⟨z1, z2⟩ := RB_pack (k := 11) (lo := (xs (4 * t + 2))) (hi := (xs (4 * t + 3))) (T := (pk11 (xs (4 * t + 2)) (xs (4 * t + 3)))) hb9 hRB t1 t2 t3 t4
  have hr9 : 4096 < n + hd b9 := by rw [← z1]; exact hr8
  refine lv_aload_n hx hb dL_law_564 rfl (lv_at hl 1 rfl) ?_
  refine lv_aload_n hx hb dL_law_565 rfl (lv_at hl 0 rfl) ?_
  refine lv_iload hx hb dL_law_566 (lv_at hl 4 rfl) ?_
  refine lv_iconst (v := 1) hx hb dL_law_568 (by decide) ?_
  refine lv_iadd hx hb dL_law_569 ?_
  have e_1 : (nI (4 * t) + (1 : Int32)) = nI (4 * t + 1) := nI_add (4 * t) 1
  rw [e_1]
  refine va_sld hx hb hXs hbl hbA hS (vp_in_nI (by omega) (by omega)) dL_law_570 ?_
  rw [nI_clamp (by omega)]
  rw [e1]
  refine lv_aload_n hx hb dL_law_571 rfl (lv_at hl 0 rfl) ?_
  refine lv_iload hx hb dL_law_572 (lv_at hl 4 rfl) ?_
  refine lv_iconst (v := 2) hx hb dL_law_574 (by decide) ?_
  refine lv_iadd hx hb dL_law_575 ?_
  have e_2 : (nI (4 * t) + (2 : Int32)) = nI (4 * t + 2) := nI_add (4 * t) 2
  rw [e_2]
  refine va_sld hx hb hXs hbl hbA hS (vp_in_nI (by omega) (by omega)) dL_law_576 ?_
  rw [nI_clamp (by omega)]
  refine lv_aload_n hx hb dL_law_577 rfl (lv_at hl 0 rfl) ?_
  refine lv_iload hx hb dL_law_578 (lv_at hl 4 rfl) ?_
  refine lv_iconst (v := 3) hx hb dL_law_580 (by decide) ?_
  refine lv_iadd hx hb dL_law_581 ?_
  have e_3 : (nI (4 * t) + (3 : Int32)) = nI (4 * t + 3) := nI_add (4 * t) 3
  rw [e_3]
  refine va_sld hx hb hXs hbl hbA hS (vp_in_nI (by omega) (by omega)) dL_law_582 ?_
  rw [nI_clamp (by omega)]
  refine lv_aload_n hx hb dL_law_583 rfl (lv_at hl 3 rfl) ?_
  have hP : va_P (dC, dI) vwCl ((w0 h a b0 cB cJ f g (nI n) (nI c) zg (nI k) ++ wo o cO go) ++ w1 h1 a1 b1 cI cK fb g zt (nI n) (nI c) so nu ty hh pa ch9 zk zl zh zp zq (nI k)) H := hP.sub [0, 1, 2, 6, 3, 4, 5] rfl
  have hD : va_D (fun q : Nat => s.heap.size ≤ q) ((w0 h a b0 cB cJ f g (nI n) (nI c) zg (nI k) ++ wo o cO go) ++ w1 h1 a1 b1 cI cK fb g zt (nI n) (nI c) so nu ty hh pa ch9 zk zl zh zp zq (nI k)) := hD.sub [0, 1, 2, 6, 3, 4, 5] (by decide) rfl
  refine ghi (wc := w0 h a b0 cB cJ f g (nI n) (nI c) zg (nI k) ++ wo o cO go) (wr := w1 h1 a1 b1 cI cK fb g zt (nI n) (nI c) so nu ty hh pa ch9 zk zl zh zp zq (nI k)) (As := [.ref h, .int 11, .int (xs (4 * t + 2)), .int (xs (4 * t + 3)), .ref o]) (rest := []) ⟨hx, hb, hml, hown, hts⟩ (c_L_pack_f l hst sa dC dI tk tw h a b0 cB cJ o cO go _ f g (nI c) zg (nI k) n hn 11 (xs (4 * t + 2)) (xs (4 * t + 3)) (by decide) (by decide) (fun _ => h8) (fun z => absurd z (by decide)) b9 hb9 hs9 hr9) (vx_cwSW 5 hts gL_law_L_pack rfl rfl rfl (by decide +kernel) ⟨Nat.le_of_ble_eq_true rfl, Nat.le_of_ble_eq_true rfl⟩) hKh hP hD hS hA hZ hX rfl hl.1 rfl (Nat.le_of_ble_eq_true rfl) dL_law_584 ⟨by show _ ≤ 1042; omega, by show _ ≤ 16674; omega⟩ (fun r_4 u_6 H locs hw_5 hP hD hS => ?_)
  have hP : va_P (dC, dI) vwCl ((w0 h a b0 cB cJ f g (nI n) (nI c) zg (nI k) ++ wo o cO go) ++ w1 h1 a1 b1 cI cK fb g zt (nI n) (nI c) so nu ty hh pa ch9 zk zl zh zp zq (nI k)) H := hP
  have hD : va_D (fun q : Nat => s.heap.size ≤ q) ((w0 h a b0 cB cJ f g (nI n) (nI c) zg (nI k) ++ wo o cO go) ++ w1 h1 a1 b1 cI cK fb g zt (nI n) (nI c) so nu ty hh pa ch9 zk zl zh zp zq (nI k)) := hD
  obtain rfl : r_4 = 2 := hw_5
  refine lv_istore (lv' := [(5, .int 2), (0, .ref b), (1, .ref h), (2, .ref h1), (3, .ref o), (4, .int (nI (4 * t)))]) hx hb dL_law_587 hl (by decide) rfl (fun ls hl => ?_)
  refine lv_aload_n hx hb dL_law_589 rfl (lv_at hl 3 rfl) ?_
  refine lv_aload_n hx hb dL_law_590 rfl (lv_at hl 1 rfl) ?_
  refine lv_iload hx hb dL_law_591 (lv_at hl 5 rfl) ?_
  refine lv_iconst (v := 1) hx hb dL_law_593 (by decide) ?_
  refine lv_iadd hx hb dL_law_594 ?_
  have e_7 : (nI (4 * t) + (1 : Int32)) = nI (4 * t + 1) := nI_add (4 * t) 1
  rw [e_7]
  refine va_sld hx hb hXs hbl hbA hS (vp_in_nI (by omega) (by omega)) dL_law_595 ?_
  rw [nI_clamp (by omega)]
  rw [e1]
  refine lv_aload_n hx hb dL_law_596 rfl (lv_at hl 1 rfl) ?_
  refine lv_iload hx hb dL_law_597 (lv_at hl 5 rfl) ?_
  refine lv_iconst (v := 2) hx hb dL_law_599 (by decide) ?_
  refine lv_iadd hx hb dL_law_600 ?_
  have e_8 : (nI (4 * t) + (2 : Int32)) = nI (4 * t + 2) := nI_add (4 * t) 2
  rw [e_8]
  refine va_sld hx hb hXs hbl hbA hS (vp_in_nI (by omega) (by omega)) dL_law_601 ?_
  rw [nI_clamp (by omega)]
  refine lv_aload_n hx hb dL_law_602 rfl (lv_at hl 1 rfl) ?_
  refine lv_iload hx hb dL_law_603 (lv_at hl 5 rfl) ?_
  refine lv_iconst (v := 3) hx hb dL_law_605 (by decide) ?_
  refine lv_iadd hx hb dL_law_606 ?_
  have e_9 : (nI (4 * t) + (3 : Int32)) = nI (4 * t + 3) := nI_add (4 * t) 3
  rw [e_9]
  refine va_sld hx hb hXs hbl hbA hS (vp_in_nI (by omega) (by omega)) dL_law_607 ?_
  rw [nI_clamp (by omega)]
  have hP : va_P (dC, dI) vwCl (w1 h1 a1 b1 cI cK fb g zt (nI n) (nI c) so nu ty hh pa ch9 zk zl zh zp zq (nI k) ++ (w0 h a b0 cB cJ f g (nI n) (nI c) zg (nI k) ++ wo o cO go)) H := hP.sub [4, 5, 6, 0, 1, 2, 3] rfl
  have hD : va_D (fun q : Nat => s.heap.size ≤ q) (w1 h1 a1 b1 cI cK fb g zt (nI n) (nI c) so nu ty hh pa ch9 zk zl zh zp zq (nI k) ++ (w0 h a b0 cB cJ f g (nI n) (nI c) zg (nI k) ++ wo o cO go)) := hD.sub [4, 5, 6, 0, 1, 2, 3] (by decide) rfl
  refine gji (wc := w1 h1 a1 b1 cI cK fb g zt (nI n) (nI c) so nu ty hh pa ch9 zk zl zh zp zq (nI k)) (wr := w0 h a b0 cB cJ f g (nI n) (nI c) zg (nI k) ++ wo o cO go) (As := [.int 11, .int (xs (4 * t + 2)), .int (xs (4 * t + 3))]) (rest := []) ⟨hx, hb, hml, hown, hts⟩ (c_X1_pack_11f l dC dI tk tw h1 a1 b1 cI cK _ fb g zt (nI c) so nu ty hh pa ch9 zk zl zh zp zq (nI k) n hn (xs (4 * t + 2)) (xs (4 * t + 3)) h8 hr8) (cwV 3 hts gL_law_X1_pack rfl rfl rfl (by decide +kernel) ⟨Nat.le_of_ble_eq_true rfl, Nat.le_of_ble_eq_true rfl⟩) hKm hP hD hS hA hZ (q0 := 0) (ci := 1) rfl rfl rfl rfl hl.1 rfl (Nat.le_of_ble_eq_true rfl) dL_law_608 ⟨by show _ ≤ 1042; omega, by show _ ≤ 16674; omega⟩ (fun r_10 u_12 H locs hw_11 hP hD hS => ?_)
  have hP : va_P (dC, dI) vwCl (w1 h1 a1 b1 cI cK fb g 2 (nI n) (nI c) so nu ty hh pa ch9 zk zl zh zp zq (nI k) ++ (w0 h a b0 cB cJ f g (nI n) (nI c) zg (nI k) ++ wo o cO go)) H := hP
  have hD : va_D (fun q : Nat => s.heap.size ≤ q) (w1 h1 a1 b1 cI cK fb g 2 (nI n) (nI c) so nu ty hh pa ch9 zk zl zh zp zq (nI k) ++ (w0 h a b0 cB cJ f g (nI n) (nI c) zg (nI k) ++ wo o cO go)) := hD
  refine lv_istore (lv' := [(6, .int r_10), (5, .int 2), (0, .ref b), (1, .ref h), (2, .ref h1), (3, .ref o), (4, .int (nI (4 * t)))]) hx hb dL_law_611 hl (by decide) rfl (fun ls hl => ?_)
  refine lv_aload_n hx hb dL_law_613 rfl (lv_at hl 4 rfl) ?_
  refine gji (wc := w1 h1 a1 b1 cI cK fb g 2 (nI n) (nI c) so nu ty hh pa ch9 zk zl zh zp zq (nI k)) (wr := w0 h a b0 cB cJ f g (nI n) (nI c) zg (nI k) ++ wo o cO go) (As := []) (rest := []) ⟨hx, hb, hml, hown, hts⟩ (c_X1_thrown l dC dI tk tw h1 a1 b1 cI cK _ fb g 2 (nI n) (nI c) so nu ty hh pa ch9 zk zl zh zp zq (nI k) ) (cwV 0 hts gL_law_X1_thrown rfl rfl rfl (by decide +kernel) ⟨Nat.le_of_ble_eq_true rfl, Nat.le_of_ble_eq_true rfl⟩) hKm hP hD hS hA hZ (q0 := 0) (ci := 1) rfl rfl rfl rfl hl.1 rfl (Nat.le_of_ble_eq_true rfl) dL_law_614 ⟨by show _ ≤ 1042; omega, by show _ ≤ 16674; omega⟩ (fun r_13 u_15 H locs hw_14 hP hD hS => ?_)
  have hP : va_P (dC, dI) vwCl (w1 h1 a1 b1 cI cK fb g 2 (nI n) (nI c) so nu ty hh pa ch9 zk zl zh zp zq (nI k) ++ (w0 h a b0 cB cJ f g (nI n) (nI c) zg (nI k) ++ wo o cO go)) H := hP
  have hD : va_D (fun q : Nat => s.heap.size ≤ q) (w1 h1 a1 b1 cI cK fb g 2 (nI n) (nI c) so nu ty hh pa ch9 zk zl zh zp zq (nI k) ++ (w0 h a b0 cB cJ f g (nI n) (nI c) zg (nI k) ++ wo o cO go)) := hD
  obtain rfl : r_13 = 2 := hw_14
  refine lv_iload hx hb dL_law_617 (lv_at hl 1 rfl) ?_
  refine lv_icmp_eq (tgt := 624) hx hb dL_law_619 (by decide) (fun c_16 => ?_) (fun c_16 => ?_)
  · skip
    refine lv_iload hx hb dL_law_624 (lv_at hl 1 rfl) ?_
    refine lv_if_ne (tgt := 641) hx hb dL_law_626 (by decide) (fun c_17 => ?_) (fun c_17 => ?_)
    · skip
      refine lv_goto (tgt := 644) hx hb dL_law_641 (by decide) ?_
      have hP : va_P (dC, dI) vwCl (w0 h a b0 cB cJ f g (nI n) (nI c) zg (nI k) ++ (w1 h1 a1 b1 cI cK fb g 2 (nI n) (nI c) so nu ty hh pa ch9 zk zl zh zp zq (nI k) ++ wo o cO go)) H := hP.sub [3, 4, 5, 0, 1, 2, 6] rfl
      have hD : va_D (fun q : Nat => s.heap.size ≤ q) (w0 h a b0 cB cJ f g (nI n) (nI c) zg (nI k) ++ (w1 h1 a1 b1 cI cK fb g 2 (nI n) (nI c) so nu ty hh pa ch9 zk zl zh zp zq (nI k) ++ wo o cO go)) := hD.sub [3, 4, 5, 0, 1, 2, 6] (by decide) rfl
      refine W.widen (k := 7 + t + 1) (n := 8416 + 6 * (t + 1)) (by omega) (by omega) ?_
      exact K _ _ _ ⟨n, c, k, f, fb, g, zg, 2, so, nu, ty, hh, pa, ch9, zk, zl, zh, zp, zq, go, hn, hc, hk, hRB, hG, hP, hD, hS, lv_sub hl [2, 3, 4, 5, 6] rfl⟩
    · skip
      exact absurd c_17 (by decide)
  · skip
    exact absurd rfl c_16
set_option maxHeartbeats 4000000 in
set_option maxRecDepth 100000 in
theorem op_pack_g12 {p : Program} {e : Env} {s : State} {m : MethodId} {below : List Frame} {meth : Method} {cd : Code} {l : Launch} {b L : Nat} {xs : Nat → Int32} {dC : Nat → ClassId} {dI : Nat → Nat → Nat} {tk tw : Nat} {sa : Nat → Nat} {cB cJ cI cK cO : ClassId} {h a b0 h1 a1 b1 o t : Nat} {H : Heap} {locs : List Loc} {ls : Array Slot} (CX : LC l p s m meth cd b L xs dC dI tk tw sa cB cJ cI cK cO) (ht4 : 4 * t + 4 ≤ L) (K : ∀ (H : Heap) (locs : List Loc) (ls : Array Slot), LI s b dC dI h a b0 cB cJ h1 a1 b1 cI cK o cO t H locs ls → W p l e room_1 s m #[Value.ref b] below meth cd H locs (7 + t + 1) (8416 + 6 * (t + 1)) (lw_Z below #[Value.ref b] s) (F0 m 644 ls [])) (n : Nat) (c : Nat) (k : Nat) (f : Nat → Int32) (fb : Nat → Int32) (g : Nat → Int64) (zg : Int32) (zt : Int32) (so : Int32) (nu : Int64) (ty : Int32) (hh : Int32) (pa : Int64) (ch9 : Int64) (zk : Int32) (zl : Int32) (zh : Int32) (zp : Int32) (zq : Int32) (go : Nat → Int64) (hn : n ≤ 4096) (hc : c ≤ n) (hk : k ≤ 100) (hRB : RB n f fb) (hG : GV f c zg zk zl zh zp zq) (hP : va_P (dC, dI) vwCl (w0 h a b0 cB cJ f g (nI n) (nI c) zg (nI k) ++ (w1 h1 a1 b1 cI cK fb g zt (nI n) (nI c) so nu ty hh pa ch9 zk zl zh zp zq (nI k) ++ wo o cO go)) H) (hD : va_D (fun q : Nat => s.heap.size ≤ q) (w0 h a b0 cB cJ f g (nI n) (nI c) zg (nI k) ++ (w1 h1 a1 b1 cI cK fb g zt (nI n) (nI c) so nu ty hh pa ch9 zk zl zh zp zq (nI k) ++ wo o cO go))) (hS : va_S (fun q : Nat => s.heap.size ≤ q) s.heap H locs) (hl : lv_has ls 8 [(0, .ref b), (1, .ref h), (2, .ref h1), (3, .ref o), (4, .int (nI (4 * t)))]) (e1 : xs (4 * t + 1) = 12) (h8 : ¬ xs (4 * t + 2) < 0) (hh1 : ¬ xs (4 * t + 3) < -128) (hh2 : ¬ 127 < xs (4 * t + 3)) (hr8 : n + phL (pk12 (xs (4 * t + 2)) (xs (4 * t + 3))) ≤ 4096) : W p l e room_1 s m #[Value.ref b] below meth cd H locs (7 + t) (8416 + 6 * t) (lw_Z below #[Value.ref b] s) (F0 m 564 ls []) := by
  obtain ⟨⟨hx, hb, hr, hml, hown, hts, hXs, hbl, hlocks⟩, hst, hL, hK, hZ, hX⟩ := CX
  have hA : ∀ q : Nat, s.heap.size ≤ q → (fun q : Nat => s.heap.size ≤ q) q := fun _ h => h
  have hbA : ¬ (fun q : Nat => s.heap.size ≤ q) b := Nat.not_le.mpr hbl
  have hKx := hK.sub (tys' := t0 cB cJ) [0, 1] rfl
  have hKm := hK.sub (tys' := t1 cI cK) [2, 3] rfl
  have hKh := hK.sub (tys' := th cB cJ cO) [0, 1, 4] rfl
  obtain ⟨b9, hb9, hs9, t1, t2, t3, t4⟩ := pkE_12 (xs (4 * t + 3)) h8
  obtain ⟨z1, z2⟩ := RB_pack (k := 12) (lo := (xs (4 * t + 2))) (hi := (xs (4 * t + 3))) (T := (pk12 (xs (4 * t + 2)) (xs (4 * t + 3)))) hb9 hRB t1 t2 t3 t4
  have hr9 : n + hd b9 ≤ 4096 := by rw [← z1]; exact hr8
  refine lv_aload_n hx hb dL_law_564 rfl (lv_at hl 1 rfl) ?_
  refine lv_aload_n hx hb dL_law_565 rfl (lv_at hl 0 rfl) ?_
  refine lv_iload hx hb dL_law_566 (lv_at hl 4 rfl) ?_
  refine lv_iconst (v := 1) hx hb dL_law_568 (by decide) ?_
  refine lv_iadd hx hb dL_law_569 ?_
  have e_1 : (nI (4 * t) + (1 : Int32)) = nI (4 * t + 1) := nI_add (4 * t) 1
  rw [e_1]
  refine va_sld hx hb hXs hbl hbA hS (vp_in_nI (by omega) (by omega)) dL_law_570 ?_
  rw [nI_clamp (by omega)]
  rw [e1]
  refine lv_aload_n hx hb dL_law_571 rfl (lv_at hl 0 rfl) ?_
  refine lv_iload hx hb dL_law_572 (lv_at hl 4 rfl) ?_
  refine lv_iconst (v := 2) hx hb dL_law_574 (by decide) ?_
  refine lv_iadd hx hb dL_law_575 ?_
  have e_2 : (nI (4 * t) + (2 : Int32)) = nI (4 * t + 2) := nI_add (4 * t) 2
  rw [e_2]
  refine va_sld hx hb hXs hbl hbA hS (vp_in_nI (by omega) (by omega)) dL_law_576 ?_
  rw [nI_clamp (by omega)]
  refine lv_aload_n hx hb dL_law_577 rfl (lv_at hl 0 rfl) ?_
  refine lv_iload hx hb dL_law_578 (lv_at hl 4 rfl) ?_
  refine lv_iconst (v := 3) hx hb dL_law_580 (by decide) ?_
  refine lv_iadd hx hb dL_law_581 ?_
  have e_3 : (nI (4 * t) + (3 : Int32)) = nI (4 * t + 3) := nI_add (4 * t) 3
  rw [e_3]
  refine va_sld hx hb hXs hbl hbA hS (vp_in_nI (by omega) (by omega)) dL_law_582 ?_
  rw [nI_clamp (by omega)]
  refine lv_aload_n hx hb dL_law_583 rfl (lv_at hl 3 rfl) ?_
  have hP : va_P (dC, dI) vwCl ((w0 h a b0 cB cJ f g (nI n) (nI c) zg (nI k) ++ wo o cO go) ++ w1 h1 a1 b1 cI cK fb g zt (nI n) (nI c) so nu ty hh pa ch9 zk zl zh zp zq (nI k)) H := hP.sub [0, 1, 2, 6, 3, 4, 5] rfl
  have hD : va_D (fun q : Nat => s.heap.size ≤ q) ((w0 h a b0 cB cJ f g (nI n) (nI c) zg (nI k) ++ wo o cO go) ++ w1 h1 a1 b1 cI cK fb g zt (nI n) (nI c) so nu ty hh pa ch9 zk zl zh zp zq (nI k)) := hD.sub [0, 1, 2, 6, 3, 4, 5] (by decide) rfl
  refine ghi (wc := w0 h a b0 cB cJ f g (nI n) (nI c) zg (nI k) ++ wo o cO go) (wr := w1 h1 a1 b1 cI cK fb g zt (nI n) (nI c) so nu ty hh pa ch9 zk zl zh zp zq (nI k)) (As := [.ref h, .int 12, .int (xs (4 * t + 2)), .int (xs (4 * t + 3)), .ref o]) (rest := []) ⟨hx, hb, hml, hown, hts⟩ (c_L_pack l hst sa dC dI tk tw h a b0 cB cJ o cO go _ f g (nI c) zg (nI k) n 12 (xs (4 * t + 2)) (xs (4 * t + 3)) (by decide) (by decide) (fun _ => h8) (fun _ => ⟨hh1, hh2⟩) b9 hb9 hs9 hr9) (vx_cwSW 5 hts gL_law_L_pack rfl rfl rfl (by decide +kernel) ⟨Nat.le_of_ble_eq_true rfl, Nat.le_of_ble_eq_true rfl⟩) hKh hP hD hS hA hZ hX rfl hl.1 rfl (Nat.le_of_ble_eq_true rfl) dL_law_584 ⟨by show _ ≤ 1042; omega, by show _ ≤ 16674; omega⟩ (fun r_4 u_6 H locs hw_5 hP hD hS => ?_)
  have hP : va_P (dC, dI) vwCl ((w0 h a b0 cB cJ (apR (apR (apR f n (nI b9).toInt64 1) (n + 1) (nO 12 (xs (4 * t + 2)) (xs (4 * t + 3))) (wd b9)) (n + 1 + wd b9) (xs (4 * t + 3)).toInt64 (tW b9)) g (nI (n + hd b9)) (nI c) zg (nI k) ++ wo o cO (vp_updL go 0 ((nI (hd b9)).toInt64))) ++ w1 h1 a1 b1 cI cK fb g zt (nI n) (nI c) so nu ty hh pa ch9 zk zl zh zp zq (nI k)) H := hP
  have hD : va_D (fun q : Nat => s.heap.size ≤ q) ((w0 h a b0 cB cJ (apR (apR (apR f n (nI b9).toInt64 1) (n + 1) (nO 12 (xs (4 * t + 2)) (xs (4 * t + 3))) (wd b9)) (n + 1 + wd b9) (xs (4 * t + 3)).toInt64 (tW b9)) g (nI (n + hd b9)) (nI c) zg (nI k) ++ wo o cO (vp_updL go 0 ((nI (hd b9)).toInt64))) ++ w1 h1 a1 b1 cI cK fb g zt (nI n) (nI c) so nu ty hh pa ch9 zk zl zh zp zq (nI k)) := hD
  obtain rfl : r_4 = 0 := hw_5
  refine lv_istore (lv' := [(5, .int 0), (0, .ref b), (1, .ref h), (2, .ref h1), (3, .ref o), (4, .int (nI (4 * t)))]) hx hb dL_law_587 hl (by decide) rfl (fun ls hl => ?_)
  refine lv_aload_n hx hb dL_law_589 rfl (lv_at hl 3 rfl) ?_
  refine lv_aload_n hx hb dL_law_590 rfl (lv_at hl 1 rfl) ?_
  refine lv_iload hx hb dL_law_591 (lv_at hl 5 rfl) ?_
  refine lv_iconst (v := 1) hx hb dL_law_593 (by decide) ?_
  refine lv_iadd hx hb dL_law_594 ?_
  have e_7 : (nI (4 * t) + (1 : Int32)) = nI (4 * t + 1) := nI_add (4 * t) 1
  rw [e_7]
  refine va_sld hx hb hXs hbl hbA hS (vp_in_nI (by omega) (by omega)) dL_law_595 ?_
  rw [nI_clamp (by omega)]
  rw [e1]
  refine lv_aload_n hx hb dL_law_596 rfl (lv_at hl 1 rfl) ?_
  refine lv_iload hx hb dL_law_597 (lv_at hl 5 rfl) ?_
  refine lv_iconst (v := 2) hx hb dL_law_599 (by decide) ?_
  refine lv_iadd hx hb dL_law_600 ?_
  have e_8 : (nI (4 * t) + (2 : Int32)) = nI (4 * t + 2) := nI_add (4 * t) 2
  rw [e_8]
  refine va_sld hx hb hXs hbl hbA hS (vp_in_nI (by omega) (by omega)) dL_law_601 ?_
  rw [nI_clamp (by omega)]
  refine lv_aload_n hx hb dL_law_602 rfl (lv_at hl 1 rfl) ?_
  refine lv_iload hx hb dL_law_603 (lv_at hl 5 rfl) ?_
  refine lv_iconst (v := 3) hx hb dL_law_605 (by decide) ?_
  refine lv_iadd hx hb dL_law_606 ?_
  have e_9 : (nI (4 * t) + (3 : Int32)) = nI (4 * t + 3) := nI_add (4 * t) 3
  rw [e_9]
  refine va_sld hx hb hXs hbl hbA hS (vp_in_nI (by omega) (by omega)) dL_law_607 ?_
  rw [nI_clamp (by omega)]
  have hP : va_P (dC, dI) vwCl (w1 h1 a1 b1 cI cK fb g zt (nI n) (nI c) so nu ty hh pa ch9 zk zl zh zp zq (nI k) ++ (w0 h a b0 cB cJ (apR (apR (apR f n (nI b9).toInt64 1) (n + 1) (nO 12 (xs (4 * t + 2)) (xs (4 * t + 3))) (wd b9)) (n + 1 + wd b9) (xs (4 * t + 3)).toInt64 (tW b9)) g (nI (n + hd b9)) (nI c) zg (nI k) ++ wo o cO (vp_updL go 0 ((nI (hd b9)).toInt64)))) H := hP.sub [4, 5, 6, 0, 1, 2, 3] rfl
  have hD : va_D (fun q : Nat => s.heap.size ≤ q) (w1 h1 a1 b1 cI cK fb g zt (nI n) (nI c) so nu ty hh pa ch9 zk zl zh zp zq (nI k) ++ (w0 h a b0 cB cJ (apR (apR (apR f n (nI b9).toInt64 1) (n + 1) (nO 12 (xs (4 * t + 2)) (xs (4 * t + 3))) (wd b9)) (n + 1 + wd b9) (xs (4 * t + 3)).toInt64 (tW b9)) g (nI (n + hd b9)) (nI c) zg (nI k) ++ wo o cO (vp_updL go 0 ((nI (hd b9)).toInt64)))) := hD.sub [4, 5, 6, 0, 1, 2, 3] (by decide) rfl
  refine gji (wc := w1 h1 a1 b1 cI cK fb g zt (nI n) (nI c) so nu ty hh pa ch9 zk zl zh zp zq (nI k)) (wr := w0 h a b0 cB cJ (apR (apR (apR f n (nI b9).toInt64 1) (n + 1) (nO 12 (xs (4 * t + 2)) (xs (4 * t + 3))) (wd b9)) (n + 1 + wd b9) (xs (4 * t + 3)).toInt64 (tW b9)) g (nI (n + hd b9)) (nI c) zg (nI k) ++ wo o cO (vp_updL go 0 ((nI (hd b9)).toInt64))) (As := [.int 12, .int (xs (4 * t + 2)), .int (xs (4 * t + 3))]) (rest := []) ⟨hx, hb, hml, hown, hts⟩ (c_X1_pack_12 l dC dI tk tw h1 a1 b1 cI cK _ fb g zt (nI c) so nu ty hh pa ch9 zk zl zh zp zq (nI k) n (xs (4 * t + 2)) (xs (4 * t + 3)) h8 hh1 hh2 hr8) (cwV 3 hts gL_law_X1_pack rfl rfl rfl (by decide +kernel) ⟨Nat.le_of_ble_eq_true rfl, Nat.le_of_ble_eq_true rfl⟩) hKm hP hD hS hA hZ (q0 := 0) (ci := 1) rfl rfl rfl rfl hl.1 rfl (Nat.le_of_ble_eq_true rfl) dL_law_608 ⟨by show _ ≤ 1042; omega, by show _ ≤ 16674; omega⟩ (fun r_10 u_12 H locs hw_11 hP hD hS => ?_)
  have hP : va_P (dC, dI) vwCl (w1 h1 a1 b1 cI cK (phF fb n (pk12 (xs (4 * t + 2)) (xs (4 * t + 3)))) g 0 (nI (n + phL (pk12 (xs (4 * t + 2)) (xs (4 * t + 3))))) (nI c) so nu ty hh pa ch9 zk zl zh zp zq (nI k) ++ (w0 h a b0 cB cJ (apR (apR (apR f n (nI b9).toInt64 1) (n + 1) (nO 12 (xs (4 * t + 2)) (xs (4 * t + 3))) (wd b9)) (n + 1 + wd b9) (xs (4 * t + 3)).toInt64 (tW b9)) g (nI (n + hd b9)) (nI c) zg (nI k) ++ wo o cO (vp_updL go 0 ((nI (hd b9)).toInt64)))) H := hP
  have hD : va_D (fun q : Nat => s.heap.size ≤ q) (w1 h1 a1 b1 cI cK (phF fb n (pk12 (xs (4 * t + 2)) (xs (4 * t + 3)))) g 0 (nI (n + phL (pk12 (xs (4 * t + 2)) (xs (4 * t + 3))))) (nI c) so nu ty hh pa ch9 zk zl zh zp zq (nI k) ++ (w0 h a b0 cB cJ (apR (apR (apR f n (nI b9).toInt64 1) (n + 1) (nO 12 (xs (4 * t + 2)) (xs (4 * t + 3))) (wd b9)) (n + 1 + wd b9) (xs (4 * t + 3)).toInt64 (tW b9)) g (nI (n + hd b9)) (nI c) zg (nI k) ++ wo o cO (vp_updL go 0 ((nI (hd b9)).toInt64)))) := hD
  obtain rfl : r_10 = nI (phL (pk12 (xs (4 * t + 2)) (xs (4 * t + 3)))) := hw_11
  rw [z1] at hP hD
  have hP : va_P (dC, dI) vwCl (w1 h1 a1 b1 cI cK (phF fb n (pk12 (xs (4 * t + 2)) (xs (4 * t + 3)))) g 0 (nI (n + hd b9)) (nI c) so nu ty hh pa ch9 zk zl zh zp zq (nI k) ++ (w0 h a b0 cB cJ (apR (apR (apR f n (nI b9).toInt64 1) (n + 1) (nO 12 (xs (4 * t + 2)) (xs (4 * t + 3))) (wd b9)) (n + 1 + wd b9) (xs (4 * t + 3)).toInt64 (tW b9)) g (nI (n + hd b9)) (nI c) zg (nI k) ++ wo o cO (vp_updL go 0 ((nI (hd b9)).toInt64)))) H := hP
  have hD : va_D (fun q : Nat => s.heap.size ≤ q) (w1 h1 a1 b1 cI cK (phF fb n (pk12 (xs (4 * t + 2)) (xs (4 * t + 3)))) g 0 (nI (n + hd b9)) (nI c) so nu ty hh pa ch9 zk zl zh zp zq (nI k) ++ (w0 h a b0 cB cJ (apR (apR (apR f n (nI b9).toInt64 1) (n + 1) (nO 12 (xs (4 * t + 2)) (xs (4 * t + 3))) (wd b9)) (n + 1 + wd b9) (xs (4 * t + 3)).toInt64 (tW b9)) g (nI (n + hd b9)) (nI c) zg (nI k) ++ wo o cO (vp_updL go 0 ((nI (hd b9)).toInt64)))) := hD
  refine lv_istore (lv' := [(6, .int (nI (phL (pk12 (xs (4 * t + 2)) (xs (4 * t + 3)))))), (5, .int 0), (0, .ref b), (1, .ref h), (2, .ref h1), (3, .ref o), (4, .int (nI (4 * t)))]) hx hb dL_law_611 hl (by decide) rfl (fun ls hl => ?_)
  refine lv_aload_n hx hb dL_law_613 rfl (lv_at hl 4 rfl) ?_
  refine gji (wc := w1 h1 a1 b1 cI cK (phF fb n (pk12 (xs (4 * t + 2)) (xs (4 * t + 3)))) g 0 (nI (n + hd b9)) (nI c) so nu ty hh pa ch9 zk zl zh zp zq (nI k)) (wr := w0 h a b0 cB cJ (apR (apR (apR f n (nI b9).toInt64 1) (n + 1) (nO 12 (xs (4 * t + 2)) (xs (4 * t + 3))) (wd b9)) (n + 1 + wd b9) (xs (4 * t + 3)).toInt64 (tW b9)) g (nI (n + hd b9)) (nI c) zg (nI k) ++ wo o cO (vp_updL go 0 ((nI (hd b9)).toInt64))) (As := []) (rest := []) ⟨hx, hb, hml, hown, hts⟩ (c_X1_thrown l dC dI tk tw h1 a1 b1 cI cK _ (phF fb n (pk12 (xs (4 * t + 2)) (xs (4 * t + 3)))) g 0 (nI (n + hd b9)) (nI c) so nu ty hh pa ch9 zk zl zh zp zq (nI k) ) (cwV 0 hts gL_law_X1_thrown rfl rfl rfl (by decide +kernel) ⟨Nat.le_of_ble_eq_true rfl, Nat.le_of_ble_eq_true rfl⟩) hKm hP hD hS hA hZ (q0 := 0) (ci := 1) rfl rfl rfl rfl hl.1 rfl (Nat.le_of_ble_eq_true rfl) dL_law_614 ⟨by show _ ≤ 1042; omega, by show _ ≤ 16674; omega⟩ (fun r_13 u_15 H locs hw_14 hP hD hS => ?_)
  have hP : va_P (dC, dI) vwCl (w1 h1 a1 b1 cI cK (phF fb n (pk12 (xs (4 * t + 2)) (xs (4 * t + 3)))) g 0 (nI (n + hd b9)) (nI c) so nu ty hh pa ch9 zk zl zh zp zq (nI k) ++ (w0 h a b0 cB cJ (apR (apR (apR f n (nI b9).toInt64 1) (n + 1) (nO 12 (xs (4 * t + 2)) (xs (4 * t + 3))) (wd b9)) (n + 1 + wd b9) (xs (4 * t + 3)).toInt64 (tW b9)) g (nI (n + hd b9)) (nI c) zg (nI k) ++ wo o cO (vp_updL go 0 ((nI (hd b9)).toInt64)))) H := hP
  have hD : va_D (fun q : Nat => s.heap.size ≤ q) (w1 h1 a1 b1 cI cK (phF fb n (pk12 (xs (4 * t + 2)) (xs (4 * t + 3)))) g 0 (nI (n + hd b9)) (nI c) so nu ty hh pa ch9 zk zl zh zp zq (nI k) ++ (w0 h a b0 cB cJ (apR (apR (apR f n (nI b9).toInt64 1) (n + 1) (nO 12 (xs (4 * t + 2)) (xs (4 * t + 3))) (wd b9)) (n + 1 + wd b9) (xs (4 * t + 3)).toInt64 (tW b9)) g (nI (n + hd b9)) (nI c) zg (nI k) ++ wo o cO (vp_updL go 0 ((nI (hd b9)).toInt64)))) := hD
  obtain rfl : r_13 = 0 := hw_14
  refine lv_iload hx hb dL_law_617 (lv_at hl 1 rfl) ?_
  refine lv_icmp_eq (tgt := 624) hx hb dL_law_619 (by decide) (fun c_16 => ?_) (fun c_16 => ?_)
  · skip
    refine lv_iload hx hb dL_law_624 (lv_at hl 1 rfl) ?_
    refine lv_if_ne (tgt := 641) hx hb dL_law_626 (by decide) (fun c_17 => ?_) (fun c_17 => ?_)
    · skip
      exact absurd (by decide) c_17
    · skip
      refine lv_aload_n hx hb dL_law_629 rfl (lv_at hl 5 rfl) ?_
      refine lv_iconst (v := 0) hx hb dL_law_630 (by decide) ?_
      refine va_lald hx hb hK hP 6 4 rfl rfl vp01 dL_law_631 ?_
      have e_18 : (vp_updL go 0 ((nI (hd b9)).toInt64) (0 : Int32).toNatClampNeg : Int64) = ((nI (hd b9)).toInt64) := pk_uLs
      rw [e_18]
      refine lv_iload hx hb dL_law_632 (lv_at hl 0 rfl) ?_
      refine lv_i2l hx hb dL_law_634 rfl ?_
      refine W.lcmp hx hb dL_law_635 ?_
      refine lv_if_eq (tgt := 641) hx hb dL_law_636 (by decide) (fun c_19 => ?_) (fun c_19 => ?_)
      · skip
        have c_19 := (lg_cmp_eq ((nI (hd b9)).toInt64) ((nI (phL (pk12 (xs (4 * t + 2)) (xs (4 * t + 3))))).toInt64)).mp c_19
        refine lv_goto (tgt := 644) hx hb dL_law_641 (by decide) ?_
        have hP : va_P (dC, dI) vwCl (w0 h a b0 cB cJ (apR (apR (apR f n (nI b9).toInt64 1) (n + 1) (nO 12 (xs (4 * t + 2)) (xs (4 * t + 3))) (wd b9)) (n + 1 + wd b9) (xs (4 * t + 3)).toInt64 (tW b9)) g (nI (n + hd b9)) (nI c) zg (nI k) ++ (w1 h1 a1 b1 cI cK (phF fb n (pk12 (xs (4 * t + 2)) (xs (4 * t + 3)))) g 0 (nI (n + hd b9)) (nI c) so nu ty hh pa ch9 zk zl zh zp zq (nI k) ++ wo o cO (vp_updL go 0 ((nI (hd b9)).toInt64)))) H := hP.sub [3, 4, 5, 0, 1, 2, 6] rfl
        have hD : va_D (fun q : Nat => s.heap.size ≤ q) (w0 h a b0 cB cJ (apR (apR (apR f n (nI b9).toInt64 1) (n + 1) (nO 12 (xs (4 * t + 2)) (xs (4 * t + 3))) (wd b9)) (n + 1 + wd b9) (xs (4 * t + 3)).toInt64 (tW b9)) g (nI (n + hd b9)) (nI c) zg (nI k) ++ (w1 h1 a1 b1 cI cK (phF fb n (pk12 (xs (4 * t + 2)) (xs (4 * t + 3)))) g 0 (nI (n + hd b9)) (nI c) so nu ty hh pa ch9 zk zl zh zp zq (nI k) ++ wo o cO (vp_updL go 0 ((nI (hd b9)).toInt64)))) := hD.sub [3, 4, 5, 0, 1, 2, 6] (by decide) rfl
        refine W.widen (k := 7 + t + 1) (n := 8416 + 6 * (t + 1)) (by omega) (by omega) ?_
        exact K _ _ _ ⟨n + hd b9, c, k, apR (apR (apR f n (nI b9).toInt64 1) (n + 1) (nO 12 (xs (4 * t + 2)) (xs (4 * t + 3))) (wd b9)) (n + 1 + wd b9) (xs (4 * t + 3)).toInt64 (tW b9), phF fb n (pk12 (xs (4 * t + 2)) (xs (4 * t + 3))), g, zg, 0, so, nu, ty, hh, pa, ch9, zk, zl, zh, zp, zq, vp_updL go 0 ((nI (hd b9)).toInt64), hr9, (by omega), hk, z2, (GV_mono hG (fun j hj => by rw [apR_lo _ _ _ _ (by omega), apR_lo _ _ _ _ (by omega), apR_lo _ _ _ _ (by omega)]) (Nat.le_refl _)), hP, hD, hS, lv_sub hl [2, 3, 4, 5, 6] rfl⟩
      · skip
        have c_19 := (not_congr (lg_cmp_eq ((nI (hd b9)).toInt64) ((nI (phL (pk12 (xs (4 * t + 2)) (xs (4 * t + 3))))).toInt64))).mp c_19
        exact absurd (by rw [z1]) c_19
  · skip
    exact absurd rfl c_16
set_option maxHeartbeats 4000000 in
set_option maxRecDepth 100000 in
theorem op_pack_f12 {p : Program} {e : Env} {s : State} {m : MethodId} {below : List Frame} {meth : Method} {cd : Code} {l : Launch} {b L : Nat} {xs : Nat → Int32} {dC : Nat → ClassId} {dI : Nat → Nat → Nat} {tk tw : Nat} {sa : Nat → Nat} {cB cJ cI cK cO : ClassId} {h a b0 h1 a1 b1 o t : Nat} {H : Heap} {locs : List Loc} {ls : Array Slot} (CX : LC l p s m meth cd b L xs dC dI tk tw sa cB cJ cI cK cO) (ht4 : 4 * t + 4 ≤ L) (K : ∀ (H : Heap) (locs : List Loc) (ls : Array Slot), LI s b dC dI h a b0 cB cJ h1 a1 b1 cI cK o cO t H locs ls → W p l e room_1 s m #[Value.ref b] below meth cd H locs (7 + t + 1) (8416 + 6 * (t + 1)) (lw_Z below #[Value.ref b] s) (F0 m 644 ls [])) (n : Nat) (c : Nat) (k : Nat) (f : Nat → Int32) (fb : Nat → Int32) (g : Nat → Int64) (zg : Int32) (zt : Int32) (so : Int32) (nu : Int64) (ty : Int32) (hh : Int32) (pa : Int64) (ch9 : Int64) (zk : Int32) (zl : Int32) (zh : Int32) (zp : Int32) (zq : Int32) (go : Nat → Int64) (hn : n ≤ 4096) (hc : c ≤ n) (hk : k ≤ 100) (hRB : RB n f fb) (hG : GV f c zg zk zl zh zp zq) (hP : va_P (dC, dI) vwCl (w0 h a b0 cB cJ f g (nI n) (nI c) zg (nI k) ++ (w1 h1 a1 b1 cI cK fb g zt (nI n) (nI c) so nu ty hh pa ch9 zk zl zh zp zq (nI k) ++ wo o cO go)) H) (hD : va_D (fun q : Nat => s.heap.size ≤ q) (w0 h a b0 cB cJ f g (nI n) (nI c) zg (nI k) ++ (w1 h1 a1 b1 cI cK fb g zt (nI n) (nI c) so nu ty hh pa ch9 zk zl zh zp zq (nI k) ++ wo o cO go))) (hS : va_S (fun q : Nat => s.heap.size ≤ q) s.heap H locs) (hl : lv_has ls 8 [(0, .ref b), (1, .ref h), (2, .ref h1), (3, .ref o), (4, .int (nI (4 * t)))]) (e1 : xs (4 * t + 1) = 12) (h8 : ¬ xs (4 * t + 2) < 0) (hh1 : ¬ xs (4 * t + 3) < -128) (hh2 : ¬ 127 < xs (4 * t + 3)) (hr8 : 4096 < n + phL (pk12 (xs (4 * t + 2)) (xs (4 * t + 3)))) : W p l e room_1 s m #[Value.ref b] below meth cd H locs (7 + t) (8416 + 6 * t) (lw_Z below #[Value.ref b] s) (F0 m 564 ls []) := by
  obtain ⟨⟨hx, hb, hr, hml, hown, hts, hXs, hbl, hlocks⟩, hst, hL, hK, hZ, hX⟩ := CX
  have hA : ∀ q : Nat, s.heap.size ≤ q → (fun q : Nat => s.heap.size ≤ q) q := fun _ h => h
  have hbA : ¬ (fun q : Nat => s.heap.size ≤ q) b := Nat.not_le.mpr hbl
  have hKx := hK.sub (tys' := t0 cB cJ) [0, 1] rfl
  have hKm := hK.sub (tys' := t1 cI cK) [2, 3] rfl
  have hKh := hK.sub (tys' := th cB cJ cO) [0, 1, 4] rfl
  obtain ⟨b9, hb9, hs9, t1, t2, t3, t4⟩ := pkE_12 (xs (4 * t + 3)) h8
  obtain ⟨z1, z2⟩ := RB_pack (k := 12) (lo := (xs (4 * t + 2))) (hi := (xs (4 * t + 3))) (T := (pk12 (xs (4 * t + 2)) (xs (4 * t + 3)))) hb9 hRB t1 t2 t3 t4
  have hr9 : 4096 < n + hd b9 := by rw [← z1]; exact hr8
  refine lv_aload_n hx hb dL_law_564 rfl (lv_at hl 1 rfl) ?_
  refine lv_aload_n hx hb dL_law_565 rfl (lv_at hl 0 rfl) ?_
  refine lv_iload hx hb dL_law_566 (lv_at hl 4 rfl) ?_
  refine lv_iconst (v := 1) hx hb dL_law_568 (by decide) ?_
  refine lv_iadd hx hb dL_law_569 ?_
  have e_1 : (nI (4 * t) + (1 : Int32)) = nI (4 * t + 1) := nI_add (4 * t) 1
  rw [e_1]
  refine va_sld hx hb hXs hbl hbA hS (vp_in_nI (by omega) (by omega)) dL_law_570 ?_
  rw [nI_clamp (by omega)]
  rw [e1]
  refine lv_aload_n hx hb dL_law_571 rfl (lv_at hl 0 rfl) ?_
  refine lv_iload hx hb dL_law_572 (lv_at hl 4 rfl) ?_
  refine lv_iconst (v := 2) hx hb dL_law_574 (by decide) ?_
  refine lv_iadd hx hb dL_law_575 ?_
  have e_2 : (nI (4 * t) + (2 : Int32)) = nI (4 * t + 2) := nI_add (4 * t) 2
  rw [e_2]
  refine va_sld hx hb hXs hbl hbA hS (vp_in_nI (by omega) (by omega)) dL_law_576 ?_
  rw [nI_clamp (by omega)]
  refine lv_aload_n hx hb dL_law_577 rfl (lv_at hl 0 rfl) ?_
  refine lv_iload hx hb dL_law_578 (lv_at hl 4 rfl) ?_
  refine lv_iconst (v := 3) hx hb dL_law_580 (by decide) ?_
  refine lv_iadd hx hb dL_law_581 ?_
  have e_3 : (nI (4 * t) + (3 : Int32)) = nI (4 * t + 3) := nI_add (4 * t) 3
  rw [e_3]
  refine va_sld hx hb hXs hbl hbA hS (vp_in_nI (by omega) (by omega)) dL_law_582 ?_
  rw [nI_clamp (by omega)]
  refine lv_aload_n hx hb dL_law_583 rfl (lv_at hl 3 rfl) ?_
  have hP : va_P (dC, dI) vwCl ((w0 h a b0 cB cJ f g (nI n) (nI c) zg (nI k) ++ wo o cO go) ++ w1 h1 a1 b1 cI cK fb g zt (nI n) (nI c) so nu ty hh pa ch9 zk zl zh zp zq (nI k)) H := hP.sub [0, 1, 2, 6, 3, 4, 5] rfl
  have hD : va_D (fun q : Nat => s.heap.size ≤ q) ((w0 h a b0 cB cJ f g (nI n) (nI c) zg (nI k) ++ wo o cO go) ++ w1 h1 a1 b1 cI cK fb g zt (nI n) (nI c) so nu ty hh pa ch9 zk zl zh zp zq (nI k)) := hD.sub [0, 1, 2, 6, 3, 4, 5] (by decide) rfl
  refine ghi (wc := w0 h a b0 cB cJ f g (nI n) (nI c) zg (nI k) ++ wo o cO go) (wr := w1 h1 a1 b1 cI cK fb g zt (nI n) (nI c) so nu ty hh pa ch9 zk zl zh zp zq (nI k)) (As := [.ref h, .int 12, .int (xs (4 * t + 2)), .int (xs (4 * t + 3)), .ref o]) (rest := []) ⟨hx, hb, hml, hown, hts⟩ (c_L_pack_f l hst sa dC dI tk tw h a b0 cB cJ o cO go _ f g (nI c) zg (nI k) n hn 12 (xs (4 * t + 2)) (xs (4 * t + 3)) (by decide) (by decide) (fun _ => h8) (fun _ => ⟨hh1, hh2⟩) b9 hb9 hs9 hr9) (vx_cwSW 5 hts gL_law_L_pack rfl rfl rfl (by decide +kernel) ⟨Nat.le_of_ble_eq_true rfl, Nat.le_of_ble_eq_true rfl⟩) hKh hP hD hS hA hZ hX rfl hl.1 rfl (Nat.le_of_ble_eq_true rfl) dL_law_584 ⟨by show _ ≤ 1042; omega, by show _ ≤ 16674; omega⟩ (fun r_4 u_6 H locs hw_5 hP hD hS => ?_)
  have hP : va_P (dC, dI) vwCl ((w0 h a b0 cB cJ f g (nI n) (nI c) zg (nI k) ++ wo o cO go) ++ w1 h1 a1 b1 cI cK fb g zt (nI n) (nI c) so nu ty hh pa ch9 zk zl zh zp zq (nI k)) H := hP
  have hD : va_D (fun q : Nat => s.heap.size ≤ q) ((w0 h a b0 cB cJ f g (nI n) (nI c) zg (nI k) ++ wo o cO go) ++ w1 h1 a1 b1 cI cK fb g zt (nI n) (nI c) so nu ty hh pa ch9 zk zl zh zp zq (nI k)) := hD
  obtain rfl : r_4 = 2 := hw_5
  refine lv_istore (lv' := [(5, .int 2), (0, .ref b), (1, .ref h), (2, .ref h1), (3, .ref o), (4, .int (nI (4 * t)))]) hx hb dL_law_587 hl (by decide) rfl (fun ls hl => ?_)
  refine lv_aload_n hx hb dL_law_589 rfl (lv_at hl 3 rfl) ?_
  refine lv_aload_n hx hb dL_law_590 rfl (lv_at hl 1 rfl) ?_
  refine lv_iload hx hb dL_law_591 (lv_at hl 5 rfl) ?_
  refine lv_iconst (v := 1) hx hb dL_law_593 (by decide) ?_
  refine lv_iadd hx hb dL_law_594 ?_
  have e_7 : (nI (4 * t) + (1 : Int32)) = nI (4 * t + 1) := nI_add (4 * t) 1
  rw [e_7]
  refine va_sld hx hb hXs hbl hbA hS (vp_in_nI (by omega) (by omega)) dL_law_595 ?_
  rw [nI_clamp (by omega)]
  rw [e1]
  refine lv_aload_n hx hb dL_law_596 rfl (lv_at hl 1 rfl) ?_
  refine lv_iload hx hb dL_law_597 (lv_at hl 5 rfl) ?_
  refine lv_iconst (v := 2) hx hb dL_law_599 (by decide) ?_
  refine lv_iadd hx hb dL_law_600 ?_
  have e_8 : (nI (4 * t) + (2 : Int32)) = nI (4 * t + 2) := nI_add (4 * t) 2
  rw [e_8]
  refine va_sld hx hb hXs hbl hbA hS (vp_in_nI (by omega) (by omega)) dL_law_601 ?_
  rw [nI_clamp (by omega)]
  refine lv_aload_n hx hb dL_law_602 rfl (lv_at hl 1 rfl) ?_
  refine lv_iload hx hb dL_law_603 (lv_at hl 5 rfl) ?_
  refine lv_iconst (v := 3) hx hb dL_law_605 (by decide) ?_
  refine lv_iadd hx hb dL_law_606 ?_
  have e_9 : (nI (4 * t) + (3 : Int32)) = nI (4 * t + 3) := nI_add (4 * t) 3
  rw [e_9]
  refine va_sld hx hb hXs hbl hbA hS (vp_in_nI (by omega) (by omega)) dL_law_607 ?_
  rw [nI_clamp (by omega)]
  have hP : va_P (dC, dI) vwCl (w1 h1 a1 b1 cI cK fb g zt (nI n) (nI c) so nu ty hh pa ch9 zk zl zh zp zq (nI k) ++ (w0 h a b0 cB cJ f g (nI n) (nI c) zg (nI k) ++ wo o cO go)) H := hP.sub [4, 5, 6, 0, 1, 2, 3] rfl
  have hD : va_D (fun q : Nat => s.heap.size ≤ q) (w1 h1 a1 b1 cI cK fb g zt (nI n) (nI c) so nu ty hh pa ch9 zk zl zh zp zq (nI k) ++ (w0 h a b0 cB cJ f g (nI n) (nI c) zg (nI k) ++ wo o cO go)) := hD.sub [4, 5, 6, 0, 1, 2, 3] (by decide) rfl
  refine gji (wc := w1 h1 a1 b1 cI cK fb g zt (nI n) (nI c) so nu ty hh pa ch9 zk zl zh zp zq (nI k)) (wr := w0 h a b0 cB cJ f g (nI n) (nI c) zg (nI k) ++ wo o cO go) (As := [.int 12, .int (xs (4 * t + 2)), .int (xs (4 * t + 3))]) (rest := []) ⟨hx, hb, hml, hown, hts⟩ (c_X1_pack_12f l dC dI tk tw h1 a1 b1 cI cK _ fb g zt (nI c) so nu ty hh pa ch9 zk zl zh zp zq (nI k) n hn (xs (4 * t + 2)) (xs (4 * t + 3)) h8 hh1 hh2 hr8) (cwV 3 hts gL_law_X1_pack rfl rfl rfl (by decide +kernel) ⟨Nat.le_of_ble_eq_true rfl, Nat.le_of_ble_eq_true rfl⟩) hKm hP hD hS hA hZ (q0 := 0) (ci := 1) rfl rfl rfl rfl hl.1 rfl (Nat.le_of_ble_eq_true rfl) dL_law_608 ⟨by show _ ≤ 1042; omega, by show _ ≤ 16674; omega⟩ (fun r_10 u_12 H locs hw_11 hP hD hS => ?_)
  have hP : va_P (dC, dI) vwCl (w1 h1 a1 b1 cI cK fb g 2 (nI n) (nI c) so nu ty hh pa ch9 zk zl zh zp zq (nI k) ++ (w0 h a b0 cB cJ f g (nI n) (nI c) zg (nI k) ++ wo o cO go)) H := hP
  have hD : va_D (fun q : Nat => s.heap.size ≤ q) (w1 h1 a1 b1 cI cK fb g 2 (nI n) (nI c) so nu ty hh pa ch9 zk zl zh zp zq (nI k) ++ (w0 h a b0 cB cJ f g (nI n) (nI c) zg (nI k) ++ wo o cO go)) := hD
  refine lv_istore (lv' := [(6, .int r_10), (5, .int 2), (0, .ref b), (1, .ref h), (2, .ref h1), (3, .ref o), (4, .int (nI (4 * t)))]) hx hb dL_law_611 hl (by decide) rfl (fun ls hl => ?_)
  refine lv_aload_n hx hb dL_law_613 rfl (lv_at hl 4 rfl) ?_
  refine gji (wc := w1 h1 a1 b1 cI cK fb g 2 (nI n) (nI c) so nu ty hh pa ch9 zk zl zh zp zq (nI k)) (wr := w0 h a b0 cB cJ f g (nI n) (nI c) zg (nI k) ++ wo o cO go) (As := []) (rest := []) ⟨hx, hb, hml, hown, hts⟩ (c_X1_thrown l dC dI tk tw h1 a1 b1 cI cK _ fb g 2 (nI n) (nI c) so nu ty hh pa ch9 zk zl zh zp zq (nI k) ) (cwV 0 hts gL_law_X1_thrown rfl rfl rfl (by decide +kernel) ⟨Nat.le_of_ble_eq_true rfl, Nat.le_of_ble_eq_true rfl⟩) hKm hP hD hS hA hZ (q0 := 0) (ci := 1) rfl rfl rfl rfl hl.1 rfl (Nat.le_of_ble_eq_true rfl) dL_law_614 ⟨by show _ ≤ 1042; omega, by show _ ≤ 16674; omega⟩ (fun r_13 u_15 H locs hw_14 hP hD hS => ?_)
  have hP : va_P (dC, dI) vwCl (w1 h1 a1 b1 cI cK fb g 2 (nI n) (nI c) so nu ty hh pa ch9 zk zl zh zp zq (nI k) ++ (w0 h a b0 cB cJ f g (nI n) (nI c) zg (nI k) ++ wo o cO go)) H := hP
  have hD : va_D (fun q : Nat => s.heap.size ≤ q) (w1 h1 a1 b1 cI cK fb g 2 (nI n) (nI c) so nu ty hh pa ch9 zk zl zh zp zq (nI k) ++ (w0 h a b0 cB cJ f g (nI n) (nI c) zg (nI k) ++ wo o cO go)) := hD
  obtain rfl : r_13 = 2 := hw_14
  refine lv_iload hx hb dL_law_617 (lv_at hl 1 rfl) ?_
  refine lv_icmp_eq (tgt := 624) hx hb dL_law_619 (by decide) (fun c_16 => ?_) (fun c_16 => ?_)
  · skip
    refine lv_iload hx hb dL_law_624 (lv_at hl 1 rfl) ?_
    refine lv_if_ne (tgt := 641) hx hb dL_law_626 (by decide) (fun c_17 => ?_) (fun c_17 => ?_)
    · skip
      refine lv_goto (tgt := 644) hx hb dL_law_641 (by decide) ?_
      have hP : va_P (dC, dI) vwCl (w0 h a b0 cB cJ f g (nI n) (nI c) zg (nI k) ++ (w1 h1 a1 b1 cI cK fb g 2 (nI n) (nI c) so nu ty hh pa ch9 zk zl zh zp zq (nI k) ++ wo o cO go)) H := hP.sub [3, 4, 5, 0, 1, 2, 6] rfl
      have hD : va_D (fun q : Nat => s.heap.size ≤ q) (w0 h a b0 cB cJ f g (nI n) (nI c) zg (nI k) ++ (w1 h1 a1 b1 cI cK fb g 2 (nI n) (nI c) so nu ty hh pa ch9 zk zl zh zp zq (nI k) ++ wo o cO go)) := hD.sub [3, 4, 5, 0, 1, 2, 6] (by decide) rfl
      refine W.widen (k := 7 + t + 1) (n := 8416 + 6 * (t + 1)) (by omega) (by omega) ?_
      exact K _ _ _ ⟨n, c, k, f, fb, g, zg, 2, so, nu, ty, hh, pa, ch9, zk, zl, zh, zp, zq, go, hn, hc, hk, hRB, hG, hP, hD, hS, lv_sub hl [2, 3, 4, 5, 6] rfl⟩
    · skip
      exact absurd c_17 (by decide)
  · skip
    exact absurd rfl c_16
