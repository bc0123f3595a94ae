theorem py_none (f : Nat → Int32) (i : Int32) : (if i < 0 then (-1 : Int32) else if i < nI 0 then f (0 + i.toNatClampNeg) else -1) = -1 := by
  by_cases h : i < 0
  · rw [if_pos h]
  · rw [if_neg h, if_neg (show ¬ i < nI 0 from h)]
theorem py_agree {n a v : Nat} {f fb : Nat → Int32} (hn : n ≤ 4096) (hRB : RB n f fb) (h : a + hd (bY f a) + v ≤ n) (hv : pl (bY f) a = nI v) (i : Int32) : py f a i = (if i < 0 then -1 else if i < nI v then fb (a + hd (bY f a) + i.toNatClampNeg) else -1) := by
  unfold py
  rw [hv]
  by_cases h1 : i < 0
  · rw [if_pos h1, if_pos h1]
  · rw [if_neg h1, if_neg h1]
    by_cases h2 : i < nI v
    · rw [if_pos h2, if_pos h2]
      obtain ⟨j, hj, rfl⟩ := nI_of h1
      rw [nI_clamp hj]
      by_cases h3 : v < 2 ^ 31
      · have h4 := (nI_ltI hj h3).mp h2
        exact (hRB _ (by omega)).1.symm
      · omega
    · rw [if_neg h2, if_neg h2]
set_option maxHeartbeats 4000000 in
set_option maxRecDepth 100000 in
theorem op_feed_g {p : Program} {e : Env} {s : State} {m : MethodId} {below : List Frame} {meth : Method} {cd : Code} {l : Launch} {b L : Nat} {xs : Nat → Int32} {dC : Nat → ClassId} {dI : Nat → Nat → Nat} {tk tw : Nat} {sa : Nat → Nat} {cB cJ cI cK cO : ClassId} {h a b0 h1 a1 b1 o t : Nat} {H : Heap} {locs : List Loc} {ls : Array Slot} (CX : LC l p s m meth cd b L xs dC dI tk tw sa cB cJ cI cK cO) (ht4 : 4 * t + 4 ≤ L) (K : ∀ (H : Heap) (locs : List Loc) (ls : Array Slot), LI s b dC dI h a b0 cB cJ h1 a1 b1 cI cK o cO t H locs ls → W p l e room_1 s m #[Value.ref b] below meth cd H locs (7 + t + 1) (8416 + 6 * (t + 1)) (lw_Z below #[Value.ref b] s) (F0 m 644 ls [])) (n : Nat) (c : Nat) (k : Nat) (f : Nat → Int32) (fb : Nat → Int32) (g : Nat → Int64) (zg : Int32) (zt : Int32) (so : Int32) (nu : Int64) (ty : Int32) (hh : Int32) (pa : Int64) (ch9 : Int64) (zk : Int32) (zl : Int32) (zh : Int32) (zp : Int32) (zq : Int32) (go : Nat → Int64) (hn : n ≤ 4096) (hc : c ≤ n) (hk : k ≤ 100) (hRB : RB n f fb) (hG : GV f c zg zk zl zh zp zq) (hP : va_P (dC, dI) vwCl (w0 h a b0 cB cJ f g (nI n) (nI c) zg (nI k) ++ (w1 h1 a1 b1 cI cK fb g zt (nI n) (nI c) so nu ty hh pa ch9 zk zl zh zp zq (nI k) ++ wo o cO go)) H) (hD : va_D (fun q : Nat => s.heap.size ≤ q) (w0 h a b0 cB cJ f g (nI n) (nI c) zg (nI k) ++ (w1 h1 a1 b1 cI cK fb g zt (nI n) (nI c) so nu ty hh pa ch9 zk zl zh zp zq (nI k) ++ wo o cO go))) (hS : va_S (fun q : Nat => s.heap.size ≤ q) s.heap H locs) (hl : lv_has ls 8 [(0, .ref b), (1, .ref h), (2, .ref h1), (3, .ref o), (4, .int (nI (4 * t)))]) (hlt : n < 4096) (v : Nat) (hv : v < 256) (e1 : xs (4 * t + 1) = nI v) : W p l e room_1 s m #[Value.ref b] below meth cd H locs (7 + t) (8416 + 6 * t) (lw_Z below #[Value.ref b] s) (F0 m 112 ls []) := by
  obtain ⟨⟨hx, hb, hr, hml, hown, hts, hXs, hbl, hlocks⟩, hst, hL, hK, hZ, hX⟩ := CX
  have hA : ∀ q : Nat, s.heap.size ≤ q → (fun q : Nat => s.heap.size ≤ q) q := fun _ h => h
  have hbA : ¬ (fun q : Nat => s.heap.size ≤ q) b := Nat.not_le.mpr hbl
  have hKx := hK.sub (tys' := t0 cB cJ) [0, 1] rfl
  have hKm := hK.sub (tys' := t1 cI cK) [2, 3] rfl
  have hKh := hK.sub (tys' := th cB cJ cO) [0, 1, 4] rfl
  refine lv_aload_n hx hb dL_law_112 rfl (lv_at hl 1 rfl) ?_
  refine lv_aload_n hx hb dL_law_113 rfl (lv_at hl 0 rfl) ?_
  refine lv_iload hx hb dL_law_114 (lv_at hl 4 rfl) ?_
  refine lv_iconst (v := 1) hx hb dL_law_116 (by decide) ?_
  refine lv_iadd hx hb dL_law_117 ?_
  have e_1 : (nI (4 * t) + (1 : Int32)) = nI (4 * t + 1) := nI_add (4 * t) 1
  rw [e_1]
  refine va_sld hx hb hXs hbl hbA hS (vp_in_nI (by omega) (by omega)) dL_law_118 ?_
  rw [nI_clamp (by omega)]
  rw [e1]
  refine lv_aload_n hx hb dL_law_119 rfl (lv_at hl 3 rfl) ?_
  have hP : va_P (dC, dI) vwCl ((w0 h a b0 cB cJ f g (nI n) (nI c) zg (nI k) ++ wo o cO go) ++ w1 h1 a1 b1 cI cK fb g zt (nI n) (nI c) so nu ty hh pa ch9 zk zl zh zp zq (nI k)) H := hP.sub [0, 1, 2, 6, 3, 4, 5] rfl
  have hD : va_D (fun q : Nat => s.heap.size ≤ q) ((w0 h a b0 cB cJ f g (nI n) (nI c) zg (nI k) ++ wo o cO go) ++ w1 h1 a1 b1 cI cK fb g zt (nI n) (nI c) so nu ty hh pa ch9 zk zl zh zp zq (nI k)) := hD.sub [0, 1, 2, 6, 3, 4, 5] (by decide) rfl
  refine ghi (wc := w0 h a b0 cB cJ f g (nI n) (nI c) zg (nI k) ++ wo o cO go) (wr := w1 h1 a1 b1 cI cK fb g zt (nI n) (nI c) so nu ty hh pa ch9 zk zl zh zp zq (nI k)) (As := [.ref h, .int (nI v), .ref o]) (rest := []) ⟨hx, hb, hml, hown, hts⟩ (c_L_feed l hst sa dC dI tk tw h a b0 cB cJ o cO go _ f g (nI c) zg (nI k) n hlt v hv) (vx_cwSW 3 hts gL_law_L_feed rfl rfl rfl (by decide +kernel) ⟨Nat.le_of_ble_eq_true rfl, Nat.le_of_ble_eq_true rfl⟩) hKh hP hD hS hA hZ hX rfl hl.1 rfl (Nat.le_of_ble_eq_true rfl) dL_law_120 ⟨by show _ ≤ 1042; omega, by show _ ≤ 16674; omega⟩ (fun r_2 u_4 H locs hw_3 hP hD hS => ?_)
  have hP : va_P (dC, dI) vwCl ((w0 h a b0 cB cJ (apR f n (nI v).toInt64 1) g (nI (n + 1)) (nI c) zg (nI k) ++ wo o cO (vp_updL go 0 ((nI (n + 1)).toInt64))) ++ w1 h1 a1 b1 cI cK fb g zt (nI n) (nI c) so nu ty hh pa ch9 zk zl zh zp zq (nI k)) H := hP
  have hD : va_D (fun q : Nat => s.heap.size ≤ q) ((w0 h a b0 cB cJ (apR f n (nI v).toInt64 1) g (nI (n + 1)) (nI c) zg (nI k) ++ wo o cO (vp_updL go 0 ((nI (n + 1)).toInt64))) ++ w1 h1 a1 b1 cI cK fb g zt (nI n) (nI c) so nu ty hh pa ch9 zk zl zh zp zq (nI k)) := hD
  obtain rfl : r_2 = 0 := hw_3
  refine lv_istore (lv' := [(5, .int 0), (0, .ref b), (1, .ref h), (2, .ref h1), (3, .ref o), (4, .int (nI (4 * t)))]) hx hb dL_law_123 hl (by decide) rfl (fun ls hl => ?_)
  refine lv_aload_n hx hb dL_law_125 rfl (lv_at hl 3 rfl) ?_
  refine lv_aload_n hx hb dL_law_126 rfl (lv_at hl 1 rfl) ?_
  refine lv_iload hx hb dL_law_127 (lv_at hl 5 rfl) ?_
  refine lv_iconst (v := 1) hx hb dL_law_129 (by decide) ?_
  refine lv_iadd hx hb dL_law_130 ?_
  have e_5 : (nI (4 * t) + (1 : Int32)) = nI (4 * t + 1) := nI_add (4 * t) 1
  rw [e_5]
  refine va_sld hx hb hXs hbl hbA hS (vp_in_nI (by omega) (by omega)) dL_law_131 ?_
  rw [nI_clamp (by omega)]
  rw [e1]
  have hP : va_P (dC, dI) vwCl (w1 h1 a1 b1 cI cK fb g zt (nI n) (nI c) so nu ty hh pa ch9 zk zl zh zp zq (nI k) ++ (w0 h a b0 cB cJ (apR f n (nI v).toInt64 1) g (nI (n + 1)) (nI c) zg (nI k) ++ wo o cO (vp_updL go 0 ((nI (n + 1)).toInt64)))) H := hP.sub [4, 5, 6, 0, 1, 2, 3] rfl
  have hD : va_D (fun q : Nat => s.heap.size ≤ q) (w1 h1 a1 b1 cI cK fb g zt (nI n) (nI c) so nu ty hh pa ch9 zk zl zh zp zq (nI k) ++ (w0 h a b0 cB cJ (apR f n (nI v).toInt64 1) g (nI (n + 1)) (nI c) zg (nI k) ++ wo o cO (vp_updL go 0 ((nI (n + 1)).toInt64)))) := hD.sub [4, 5, 6, 0, 1, 2, 3] (by decide) rfl
  refine gji (wc := w1 h1 a1 b1 cI cK fb g zt (nI n) (nI c) so nu ty hh pa ch9 zk zl zh zp zq (nI k)) (wr := w0 h a b0 cB cJ (apR f n (nI v).toInt64 1) g (nI (n + 1)) (nI c) zg (nI k) ++ wo o cO (vp_updL go 0 ((nI (n + 1)).toInt64))) (As := [.int (nI v)]) (rest := []) ⟨hx, hb, hml, hown, hts⟩ (c_X1_feed l dC dI tk tw h1 a1 b1 cI cK _ fb g zt (nI c) so nu ty hh pa ch9 zk zl zh zp zq (nI k) n hlt v hv) (cwV 1 hts gL_law_X1_feed rfl rfl rfl (by decide +kernel) ⟨Nat.le_of_ble_eq_true rfl, Nat.le_of_ble_eq_true rfl⟩) hKm hP hD hS hA hZ (q0 := 0) (ci := 1) rfl rfl rfl rfl hl.1 rfl (Nat.le_of_ble_eq_true rfl) dL_law_132 ⟨by show _ ≤ 1042; omega, by show _ ≤ 16674; omega⟩ (fun r_6 u_8 H locs hw_7 hP hD hS => ?_)
  have hP : va_P (dC, dI) vwCl (w1 h1 a1 b1 cI cK (upd fb n (nI v)) g 0 (nI (n + 1)) (nI c) so nu ty hh pa ch9 zk zl zh zp zq (nI k) ++ (w0 h a b0 cB cJ (apR f n (nI v).toInt64 1) g (nI (n + 1)) (nI c) zg (nI k) ++ wo o cO (vp_updL go 0 ((nI (n + 1)).toInt64)))) H := hP
  have hD : va_D (fun q : Nat => s.heap.size ≤ q) (w1 h1 a1 b1 cI cK (upd fb n (nI v)) g 0 (nI (n + 1)) (nI c) so nu ty hh pa ch9 zk zl zh zp zq (nI k) ++ (w0 h a b0 cB cJ (apR f n (nI v).toInt64 1) g (nI (n + 1)) (nI c) zg (nI k) ++ wo o cO (vp_updL go 0 ((nI (n + 1)).toInt64)))) := hD
  obtain rfl : r_6 = nI (n + 1) := hw_7
  refine lv_istore (lv' := [(6, .int (nI (n + 1))), (5, .int 0), (0, .ref b), (1, .ref h), (2, .ref h1), (3, .ref o), (4, .int (nI (4 * t)))]) hx hb dL_law_135 hl (by decide) rfl (fun ls hl => ?_)
  refine lv_aload_n hx hb dL_law_137 rfl (lv_at hl 4 rfl) ?_
  refine gji (wc := w1 h1 a1 b1 cI cK (upd fb n (nI v)) g 0 (nI (n + 1)) (nI c) so nu ty hh pa ch9 zk zl zh zp zq (nI k)) (wr := w0 h a b0 cB cJ (apR f n (nI v).toInt64 1) g (nI (n + 1)) (nI c) zg (nI k) ++ wo o cO (vp_updL go 0 ((nI (n + 1)).toInt64))) (As := []) (rest := []) ⟨hx, hb, hml, hown, hts⟩ (c_X1_thrown l dC dI tk tw h1 a1 b1 cI cK _ (upd fb n (nI v)) g 0 (nI (n + 1)) (nI c) so nu ty hh pa ch9 zk zl zh zp zq (nI k) ) (cwV 0 hts gL_law_X1_thrown rfl rfl rfl (by decide +kernel) ⟨Nat.le_of_ble_eq_true rfl, Nat.le_of_ble_eq_true rfl⟩) hKm hP hD hS hA hZ (q0 := 0) (ci := 1) rfl rfl rfl rfl hl.1 rfl (Nat.le_of_ble_eq_true rfl) dL_law_138 ⟨by show _ ≤ 1042; omega, by show _ ≤ 16674; omega⟩ (fun r_9 u_11 H locs hw_10 hP hD hS => ?_)
  have hP : va_P (dC, dI) vwCl (w1 h1 a1 b1 cI cK (upd fb n (nI v)) g 0 (nI (n + 1)) (nI c) so nu ty hh pa ch9 zk zl zh zp zq (nI k) ++ (w0 h a b0 cB cJ (apR f n (nI v).toInt64 1) g (nI (n + 1)) (nI c) zg (nI k) ++ wo o cO (vp_updL go 0 ((nI (n + 1)).toInt64)))) H := hP
  have hD : va_D (fun q : Nat => s.heap.size ≤ q) (w1 h1 a1 b1 cI cK (upd fb n (nI v)) g 0 (nI (n + 1)) (nI c) so nu ty hh pa ch9 zk zl zh zp zq (nI k) ++ (w0 h a b0 cB cJ (apR f n (nI v).toInt64 1) g (nI (n + 1)) (nI c) zg (nI k) ++ wo o cO (vp_updL go 0 ((nI (n + 1)).toInt64)))) := hD
  obtain rfl : r_9 = 0 := hw_10
  refine lv_iload hx hb dL_law_141 (lv_at hl 1 rfl) ?_
  refine lv_icmp_eq (tgt := 148) hx hb dL_law_143 (by decide) (fun c_12 => ?_) (fun c_12 => ?_)
  · skip
    refine lv_iload hx hb dL_law_148 (lv_at hl 1 rfl) ?_
    refine lv_if_ne (tgt := 165) hx hb dL_law_150 (by decide) (fun c_13 => ?_) (fun c_13 => ?_)
    · skip
      exact absurd (by decide) c_13
    · skip
      refine lv_aload_n hx hb dL_law_153 rfl (lv_at hl 5 rfl) ?_
      refine lv_iconst (v := 0) hx hb dL_law_154 (by decide) ?_
      refine va_lald hx hb hK hP 6 4 rfl rfl vp01 dL_law_155 ?_
      have e_14 : (vp_updL go 0 ((nI (n + 1)).toInt64) (0 : Int32).toNatClampNeg : Int64) = ((nI (n + 1)).toInt64) := pk_uLs
      rw [e_14]
      refine lv_iload hx hb dL_law_156 (lv_at hl 0 rfl) ?_
      refine lv_i2l hx hb dL_law_158 rfl ?_
      refine W.lcmp hx hb dL_law_159 ?_
      refine lv_if_eq (tgt := 165) hx hb dL_law_160 (by decide) (fun c_15 => ?_) (fun c_15 => ?_)
      · skip
        have c_15 := (lg_cmp_eq ((nI (n + 1)).toInt64) ((nI (n + 1)).toInt64)).mp c_15
        refine lv_goto (tgt := 644) hx hb dL_law_165 (by decide) ?_
        have hP : va_P (dC, dI) vwCl (w0 h a b0 cB cJ (apR f n (nI v).toInt64 1) g (nI (n + 1)) (nI c) zg (nI k) ++ (w1 h1 a1 b1 cI cK (upd fb n (nI v)) g 0 (nI (n + 1)) (nI c) so nu ty hh pa ch9 zk zl zh zp zq (nI k) ++ wo o cO (vp_updL go 0 ((nI (n + 1)).toInt64)))) H := hP.sub [3, 4, 5, 0, 1, 2, 6] rfl
        have hD : va_D (fun q : Nat => s.heap.size ≤ q) (w0 h a b0 cB cJ (apR f n (nI v).toInt64 1) g (nI (n + 1)) (nI c) zg (nI k) ++ (w1 h1 a1 b1 cI cK (upd fb n (nI v)) g 0 (nI (n + 1)) (nI c) so nu ty hh pa ch9 zk zl zh zp zq (nI k) ++ wo o cO (vp_updL go 0 ((nI (n + 1)).toInt64)))) := hD.sub [3, 4, 5, 0, 1, 2, 6] (by decide) rfl
        refine W.widen (k := 7 + t + 1) (n := 8416 + 6 * (t + 1)) (by omega) (by omega) ?_
        exact K _ _ _ ⟨n + 1, c, k, apR f n (nI v).toInt64 1, upd fb n (nI v), g, zg, 0, so, nu, ty, hh, pa, ch9, zk, zl, zh, zp, zq, vp_updL go 0 ((nI (n + 1)).toInt64), hlt, (by omega), hk, (RB_upd hRB (nI v).toInt64 (i := 0) (by decide) (by rw [by8_b hv])), (GV_mono hG (fun j hj => apR_lo 1 n f j (by omega)) (Nat.le_refl _)), hP, hD, hS, lv_sub hl [2, 3, 4, 5, 6] rfl⟩
      · skip
        have c_15 := (not_congr (lg_cmp_eq ((nI (n + 1)).toInt64) ((nI (n + 1)).toInt64))).mp c_15
        exact absurd (rfl) c_15
  · skip
    exact absurd rfl c_12
set_option maxHeartbeats 4000000 in
set_option maxRecDepth 100000 in
theorem op_feed_f {p : Program} {e : Env} {s : State} {m : MethodId} {below : List Frame} {meth : Method} {cd : Code} {l : Launch} {b L : Nat} {xs : Nat → Int32} {dC : Nat → ClassId} {dI : Nat → Nat → Nat} {tk tw : Nat} {sa : Nat → Nat} {cB cJ cI cK cO : ClassId} {h a b0 h1 a1 b1 o t : Nat} {H : Heap} {locs : List Loc} {ls : Array Slot} (CX : LC l p s m meth cd b L xs dC dI tk tw sa cB cJ cI cK cO) (ht4 : 4 * t + 4 ≤ L) (K : ∀ (H : Heap) (locs : List Loc) (ls : Array Slot), LI s b dC dI h a b0 cB cJ h1 a1 b1 cI cK o cO t H locs ls → W p l e room_1 s m #[Value.ref b] below meth cd H locs (7 + t + 1) (8416 + 6 * (t + 1)) (lw_Z below #[Value.ref b] s) (F0 m 644 ls [])) (c : Nat) (k : Nat) (f : Nat → Int32) (fb : Nat → Int32) (g : Nat → Int64) (zg : Int32) (zt : Int32) (so : Int32) (nu : Int64) (ty : Int32) (hh : Int32) (pa : Int64) (ch9 : Int64) (zk : Int32) (zl : Int32) (zh : Int32) (zp : Int32) (zq : Int32) (go : Nat → Int64) (hn : 4096 ≤ 4096) (hc : c ≤ 4096) (hk : k ≤ 100) (hRB : RB 4096 f fb) (hG : GV f c zg zk zl zh zp zq) (hP : va_P (dC, dI) vwCl (w0 h a b0 cB cJ f g (nI 4096) (nI c) zg (nI k) ++ (w1 h1 a1 b1 cI cK fb g zt (nI 4096) (nI c) so nu ty hh pa ch9 zk zl zh zp zq (nI k) ++ wo o cO go)) H) (hD : va_D (fun q : Nat => s.heap.size ≤ q) (w0 h a b0 cB cJ f g (nI 4096) (nI c) zg (nI k) ++ (w1 h1 a1 b1 cI cK fb g zt (nI 4096) (nI c) so nu ty hh pa ch9 zk zl zh zp zq (nI k) ++ wo o cO go))) (hS : va_S (fun q : Nat => s.heap.size ≤ q) s.heap H locs) (hl : lv_has ls 8 [(0, .ref b), (1, .ref h), (2, .ref h1), (3, .ref o), (4, .int (nI (4 * t)))]) (v : Nat) (hv : v < 256) (e1 : xs (4 * t + 1) = nI v) : W p l e room_1 s m #[Value.ref b] below meth cd H locs (7 + t) (8416 + 6 * t) (lw_Z below #[Value.ref b] s) (F0 m 112 ls []) := by
  obtain ⟨⟨hx, hb, hr, hml, hown, hts, hXs, hbl, hlocks⟩, hst, hL, hK, hZ, hX⟩ := CX
  have hA : ∀ q : Nat, s.heap.size ≤ q → (fun q : Nat => s.heap.size ≤ q) q := fun _ h => h
  have hbA : ¬ (fun q : Nat => s.heap.size ≤ q) b := Nat.not_le.mpr hbl
  have hKx := hK.sub (tys' := t0 cB cJ) [0, 1] rfl
  have hKm := hK.sub (tys' := t1 cI cK) [2, 3] rfl
  have hKh := hK.sub (tys' := th cB cJ cO) [0, 1, 4] rfl
  refine lv_aload_n hx hb dL_law_112 rfl (lv_at hl 1 rfl) ?_
  refine lv_aload_n hx hb dL_law_113 rfl (lv_at hl 0 rfl) ?_
  refine lv_iload hx hb dL_law_114 (lv_at hl 4 rfl) ?_
  refine lv_iconst (v := 1) hx hb dL_law_116 (by decide) ?_
  refine lv_iadd hx hb dL_law_117 ?_
  have e_1 : (nI (4 * t) + (1 : Int32)) = nI (4 * t + 1) := nI_add (4 * t) 1
  rw [e_1]
  refine va_sld hx hb hXs hbl hbA hS (vp_in_nI (by omega) (by omega)) dL_law_118 ?_
  rw [nI_clamp (by omega)]
  rw [e1]
  refine lv_aload_n hx hb dL_law_119 rfl (lv_at hl 3 rfl) ?_
  have hP : va_P (dC, dI) vwCl ((w0 h a b0 cB cJ f g (nI 4096) (nI c) zg (nI k) ++ wo o cO go) ++ w1 h1 a1 b1 cI cK fb g zt (nI 4096) (nI c) so nu ty hh pa ch9 zk zl zh zp zq (nI k)) H := hP.sub [0, 1, 2, 6, 3, 4, 5] rfl
  have hD : va_D (fun q : Nat => s.heap.size ≤ q) ((w0 h a b0 cB cJ f g (nI 4096) (nI c) zg (nI k) ++ wo o cO go) ++ w1 h1 a1 b1 cI cK fb g zt (nI 4096) (nI c) so nu ty hh pa ch9 zk zl zh zp zq (nI k)) := hD.sub [0, 1, 2, 6, 3, 4, 5] (by decide) rfl
  refine ghi (wc := w0 h a b0 cB cJ f g (nI 4096) (nI c) zg (nI k) ++ wo o cO go) (wr := w1 h1 a1 b1 cI cK fb g zt (nI 4096) (nI c) so nu ty hh pa ch9 zk zl zh zp zq (nI k)) (As := [.ref h, .int (nI v), .ref o]) (rest := []) ⟨hx, hb, hml, hown, hts⟩ (c_L_feed_f l hst sa dC dI tk tw h a b0 cB cJ o cO go _ f g (nI c) zg (nI k) v hv) (vx_cwSW 3 hts gL_law_L_feed rfl rfl rfl (by decide +kernel) ⟨Nat.le_of_ble_eq_true rfl, Nat.le_of_ble_eq_true rfl⟩) hKh hP hD hS hA hZ hX rfl hl.1 rfl (Nat.le_of_ble_eq_true rfl) dL_law_120 ⟨by show _ ≤ 1042; omega, by show _ ≤ 16674; omega⟩ (fun r_2 u_4 H locs hw_3 hP hD hS => ?_)
  have hP : va_P (dC, dI) vwCl ((w0 h a b0 cB cJ f g (nI 4096) (nI c) zg (nI k) ++ wo o cO go) ++ w1 h1 a1 b1 cI cK fb g zt (nI 4096) (nI c) so nu ty hh pa ch9 zk zl zh zp zq (nI k)) H := hP
  have hD : va_D (fun q : Nat => s.heap.size ≤ q) ((w0 h a b0 cB cJ f g (nI 4096) (nI c) zg (nI k) ++ wo o cO go) ++ w1 h1 a1 b1 cI cK fb g zt (nI 4096) (nI c) so nu ty hh pa ch9 zk zl zh zp zq (nI k)) := hD
  obtain rfl : r_2 = 2 := hw_3
  refine lv_istore (lv' := [(5, .int 2), (0, .ref b), (1, .ref h), (2, .ref h1), (3, .ref o), (4, .int (nI (4 * t)))]) hx hb dL_law_123 hl (by decide) rfl (fun ls hl => ?_)
  refine lv_aload_n hx hb dL_law_125 rfl (lv_at hl 3 rfl) ?_
  refine lv_aload_n hx hb dL_law_126 rfl (lv_at hl 1 rfl) ?_
  refine lv_iload hx hb dL_law_127 (lv_at hl 5 rfl) ?_
  refine lv_iconst (v := 1) hx hb dL_law_129 (by decide) ?_
  refine lv_iadd hx hb dL_law_130 ?_
  have e_5 : (nI (4 * t) + (1 : Int32)) = nI (4 * t + 1) := nI_add (4 * t) 1
  rw [e_5]
  refine va_sld hx hb hXs hbl hbA hS (vp_in_nI (by omega) (by omega)) dL_law_131 ?_
  rw [nI_clamp (by omega)]
  rw [e1]
  have hP : va_P (dC, dI) vwCl (w1 h1 a1 b1 cI cK fb g zt (nI 4096) (nI c) so nu ty hh pa ch9 zk zl zh zp zq (nI k) ++ (w0 h a b0 cB cJ f g (nI 4096) (nI c) zg (nI k) ++ wo o cO go)) H := hP.sub [4, 5, 6, 0, 1, 2, 3] rfl
  have hD : va_D (fun q : Nat => s.heap.size ≤ q) (w1 h1 a1 b1 cI cK fb g zt (nI 4096) (nI c) so nu ty hh pa ch9 zk zl zh zp zq (nI k) ++ (w0 h a b0 cB cJ f g (nI 4096) (nI c) zg (nI k) ++ wo o cO go)) := hD.sub [4, 5, 6, 0, 1, 2, 3] (by decide) rfl
  refine gji (wc := w1 h1 a1 b1 cI cK fb g zt (nI 4096) (nI c) so nu ty hh pa ch9 zk zl zh zp zq (nI k)) (wr := w0 h a b0 cB cJ f g (nI 4096) (nI c) zg (nI k) ++ wo o cO go) (As := [.int (nI v)]) (rest := []) ⟨hx, hb, hml, hown, hts⟩ (c_X1_feed_f l dC dI tk tw h1 a1 b1 cI cK _ fb g zt (nI c) so nu ty hh pa ch9 zk zl zh zp zq (nI k) v hv) (cwV 1 hts gL_law_X1_feed rfl rfl rfl (by decide +kernel) ⟨Nat.le_of_ble_eq_true rfl, Nat.le_of_ble_eq_true rfl⟩) hKm hP hD hS hA hZ (q0 := 0) (ci := 1) rfl rfl rfl rfl hl.1 rfl (Nat.le_of_ble_eq_true rfl) dL_law_132 ⟨by show _ ≤ 1042; omega, by show _ ≤ 16674; omega⟩ (fun r_6 u_8 H locs hw_7 hP hD hS => ?_)
  have hP : va_P (dC, dI) vwCl (w1 h1 a1 b1 cI cK fb g 2 (nI 4096) (nI c) so nu ty hh pa ch9 zk zl zh zp zq (nI k) ++ (w0 h a b0 cB cJ f g (nI 4096) (nI c) zg (nI k) ++ wo o cO go)) H := hP
  have hD : va_D (fun q : Nat => s.heap.size ≤ q) (w1 h1 a1 b1 cI cK fb g 2 (nI 4096) (nI c) so nu ty hh pa ch9 zk zl zh zp zq (nI k) ++ (w0 h a b0 cB cJ f g (nI 4096) (nI c) zg (nI k) ++ wo o cO go)) := hD
  refine lv_istore (lv' := [(6, .int r_6), (5, .int 2), (0, .ref b), (1, .ref h), (2, .ref h1), (3, .ref o), (4, .int (nI (4 * t)))]) hx hb dL_law_135 hl (by decide) rfl (fun ls hl => ?_)
  refine lv_aload_n hx hb dL_law_137 rfl (lv_at hl 4 rfl) ?_
  refine gji (wc := w1 h1 a1 b1 cI cK fb g 2 (nI 4096) (nI c) so nu ty hh pa ch9 zk zl zh zp zq (nI k)) (wr := w0 h a b0 cB cJ f g (nI 4096) (nI c) zg (nI k) ++ wo o cO go) (As := []) (rest := []) ⟨hx, hb, hml, hown, hts⟩ (c_X1_thrown l dC dI tk tw h1 a1 b1 cI cK _ fb g 2 (nI 4096) (nI c) so nu ty hh pa ch9 zk zl zh zp zq (nI k) ) (cwV 0 hts gL_law_X1_thrown rfl rfl rfl (by decide +kernel) ⟨Nat.le_of_ble_eq_true rfl, Nat.le_of_ble_eq_true rfl⟩) hKm hP hD hS hA hZ (q0 := 0) (ci := 1) rfl rfl rfl rfl hl.1 rfl (Nat.le_of_ble_eq_true rfl) dL_law_138 ⟨by show _ ≤ 1042; omega, by show _ ≤ 16674; omega⟩ (fun r_9 u_11 H locs hw_10 hP hD hS => ?_)
  have hP : va_P (dC, dI) vwCl (w1 h1 a1 b1 cI cK fb g 2 (nI 4096) (nI c) so nu ty hh pa ch9 zk zl zh zp zq (nI k) ++ (w0 h a b0 cB cJ f g (nI 4096) (nI c) zg (nI k) ++ wo o cO go)) H := hP
  have hD : va_D (fun q : Nat => s.heap.size ≤ q) (w1 h1 a1 b1 cI cK fb g 2 (nI 4096) (nI c) so nu ty hh pa ch9 zk zl zh zp zq (nI k) ++ (w0 h a b0 cB cJ f g (nI 4096) (nI c) zg (nI k) ++ wo o cO go)) := hD
  obtain rfl : r_9 = 2 := hw_10
  refine lv_iload hx hb dL_law_141 (lv_at hl 1 rfl) ?_
  refine lv_icmp_eq (tgt := 148) hx hb dL_law_143 (by decide) (fun c_12 => ?_) (fun c_12 => ?_)
  · skip
    refine lv_iload hx hb dL_law_148 (lv_at hl 1 rfl) ?_
    refine lv_if_ne (tgt := 165) hx hb dL_law_150 (by decide) (fun c_13 => ?_) (fun c_13 => ?_)
    · skip
      refine lv_goto (tgt := 644) hx hb dL_law_165 (by decide) ?_
      have hP : va_P (dC, dI) vwCl (w0 h a b0 cB cJ f g (nI 4096) (nI c) zg (nI k) ++ (w1 h1 a1 b1 cI cK fb g 2 (nI 4096) (nI c) so nu ty hh pa ch9 zk zl zh zp zq (nI k) ++ wo o cO go)) H := hP.sub [3, 4, 5, 0, 1, 2, 6] rfl
      have hD : va_D (fun q : Nat => s.heap.size ≤ q) (w0 h a b0 cB cJ f g (nI 4096) (nI c) zg (nI k) ++ (w1 h1 a1 b1 cI cK fb g 2 (nI 4096) (nI c) so nu ty hh pa ch9 zk zl zh zp zq (nI k) ++ wo o cO go)) := hD.sub [3, 4, 5, 0, 1, 2, 6] (by decide) rfl
      refine W.widen (k := 7 + t + 1) (n := 8416 + 6 * (t + 1)) (by omega) (by omega) ?_
      exact K _ _ _ ⟨4096, c, k, f, fb, g, zg, 2, so, nu, ty, hh, pa, ch9, zk, zl, zh, zp, zq, go, hn, hc, hk, hRB, hG, hP, hD, hS, lv_sub hl [2, 3, 4, 5, 6] rfl⟩
    · skip
      exact absurd c_13 (by decide)
  · skip
    exact absurd rfl c_12
set_option maxHeartbeats 4000000 in
set_option maxRecDepth 100000 in
theorem op_feed_b {p : Program} {e : Env} {s : State} {m : MethodId} {below : List Frame} {meth : Method} {cd : Code} {l : Launch} {b L : Nat} {xs : Nat → Int32} {dC : Nat → ClassId} {dI : Nat → Nat → Nat} {tk tw : Nat} {sa : Nat → Nat} {cB cJ cI cK cO : ClassId} {h a b0 h1 a1 b1 o t : Nat} {H : Heap} {locs : List Loc} {ls : Array Slot} (CX : LC l p s m meth cd b L xs dC dI tk tw sa cB cJ cI cK cO) (ht4 : 4 * t + 4 ≤ L) (K : ∀ (H : Heap) (locs : List Loc) (ls : Array Slot), LI s b dC dI h a b0 cB cJ h1 a1 b1 cI cK o cO t H locs ls → W p l e room_1 s m #[Value.ref b] below meth cd H locs (7 + t + 1) (8416 + 6 * (t + 1)) (lw_Z below #[Value.ref b] s) (F0 m 644 ls [])) (n : Nat) (c : Nat) (k : Nat) (f : Nat → Int32) (fb : Nat → Int32) (g : Nat → Int64) (zg : Int32) (zt : Int32) (so : Int32) (nu : Int64) (ty : Int32) (hh : Int32) (pa : Int64) (ch9 : Int64) (zk : Int32) (zl : Int32) (zh : Int32) (zp : Int32) (zq : Int32) (go : Nat → Int64) (hn : n ≤ 4096) (hc : c ≤ n) (hk : k ≤ 100) (hRB : RB n f fb) (hG : GV f c zg zk zl zh zp zq) (hP : va_P (dC, dI) vwCl (w0 h a b0 cB cJ f g (nI n) (nI c) zg (nI k) ++ (w1 h1 a1 b1 cI cK fb g zt (nI n) (nI c) so nu ty hh pa ch9 zk zl zh zp zq (nI k) ++ wo o cO go)) H) (hD : va_D (fun q : Nat => s.heap.size ≤ q) (w0 h a b0 cB cJ f g (nI n) (nI c) zg (nI k) ++ (w1 h1 a1 b1 cI cK fb g zt (nI n) (nI c) so nu ty hh pa ch9 zk zl zh zp zq (nI k) ++ wo o cO go))) (hS : va_S (fun q : Nat => s.heap.size ≤ q) s.heap H locs) (hl : lv_has ls 8 [(0, .ref b), (1, .ref h), (2, .ref h1), (3, .ref o), (4, .int (nI (4 * t)))]) (hb9 : xs (4 * t + 1) < 0 ∨ 255 < xs (4 * t + 1)) : W p l e room_1 s m #[Value.ref b] below meth cd H locs (7 + t) (8416 + 6 * t) (lw_Z below #[Value.ref b] s) (F0 m 112 ls []) := by
  obtain ⟨⟨hx, hb, hr, hml, hown, hts, hXs, hbl, hlocks⟩, hst, hL, hK, hZ, hX⟩ := CX
  have hA : ∀ q : Nat, s.heap.size ≤ q → (fun q : Nat => s.heap.size ≤ q) q := fun _ h => h
  have hbA : ¬ (fun q : Nat => s.heap.size ≤ q) b := Nat.not_le.mpr hbl
  have hKx := hK.sub (tys' := t0 cB cJ) [0, 1] rfl
  have hKm := hK.sub (tys' := t1 cI cK) [2, 3] rfl
  have hKh := hK.sub (tys' := th cB cJ cO) [0, 1, 4] rfl
  refine lv_aload_n hx hb dL_law_112 rfl (lv_at hl 1 rfl) ?_
  refine lv_aload_n hx hb dL_law_113 rfl (lv_at hl 0 rfl) ?_
  refine lv_iload hx hb dL_law_114 (lv_at hl 4 rfl) ?_
  refine lv_iconst (v := 1) hx hb dL_law_116 (by decide) ?_
  refine lv_iadd hx hb dL_law_117 ?_
  have e_1 : (nI (4 * t) + (1 : Int32)) = nI (4 * t + 1) := nI_add (4 * t) 1
  rw [e_1]
  refine va_sld hx hb hXs hbl hbA hS (vp_in_nI (by omega) (by omega)) dL_law_118 ?_
  rw [nI_clamp (by omega)]
  refine lv_aload_n hx hb dL_law_119 rfl (lv_at hl 3 rfl) ?_
  have hP : va_P (dC, dI) vwCl ((w0 h a b0 cB cJ f g (nI n) (nI c) zg (nI k) ++ wo o cO go) ++ w1 h1 a1 b1 cI cK fb g zt (nI n) (nI c) so nu ty hh pa ch9 zk zl zh zp zq (nI k)) H := hP.sub [0, 1, 2, 6, 3, 4, 5] rfl
  have hD : va_D (fun q : Nat => s.heap.size ≤ q) ((w0 h a b0 cB cJ f g (nI n) (nI c) zg (nI k) ++ wo o cO go) ++ w1 h1 a1 b1 cI cK fb g zt (nI n) (nI c) so nu ty hh pa ch9 zk zl zh zp zq (nI k)) := hD.sub [0, 1, 2, 6, 3, 4, 5] (by decide) rfl
  refine ghi (wc := w0 h a b0 cB cJ f g (nI n) (nI c) zg (nI k) ++ wo o cO go) (wr := w1 h1 a1 b1 cI cK fb g zt (nI n) (nI c) so nu ty hh pa ch9 zk zl zh zp zq (nI k)) (As := [.ref h, .int (xs (4 * t + 1)), .ref o]) (rest := []) ⟨hx, hb, hml, hown, hts⟩ (c_L_feed_b l hst sa dC dI tk tw h a b0 cB cJ o cO go _ f g (nI n) (nI c) zg (nI k) (xs (4 * t + 1)) hb9) (vx_cwSW 3 hts gL_law_L_feed rfl rfl rfl (by decide +kernel) ⟨Nat.le_of_ble_eq_true rfl, Nat.le_of_ble_eq_true rfl⟩) hKh hP hD hS hA hZ hX rfl hl.1 rfl (Nat.le_of_ble_eq_true rfl) dL_law_120 ⟨by show _ ≤ 1042; omega, by show _ ≤ 16674; omega⟩ (fun r_2 u_4 H locs hw_3 hP hD hS => ?_)
  have hP : va_P (dC, dI) vwCl ((w0 h a b0 cB cJ f g (nI n) (nI c) zg (nI k) ++ wo o cO go) ++ w1 h1 a1 b1 cI cK fb g zt (nI n) (nI c) so nu ty hh pa ch9 zk zl zh zp zq (nI k)) H := hP
  have hD : va_D (fun q : Nat => s.heap.size ≤ q) ((w0 h a b0 cB cJ f g (nI n) (nI c) zg (nI k) ++ wo o cO go) ++ w1 h1 a1 b1 cI cK fb g zt (nI n) (nI c) so nu ty hh pa ch9 zk zl zh zp zq (nI k)) := hD
  obtain rfl : r_2 = 1 := hw_3
  refine lv_istore (lv' := [(5, .int 1), (0, .ref b), (1, .ref h), (2, .ref h1), (3, .ref o), (4, .int (nI (4 * t)))]) hx hb dL_law_123 hl (by decide) rfl (fun ls hl => ?_)
  refine lv_aload_n hx hb dL_law_125 rfl (lv_at hl 3 rfl) ?_
  refine lv_aload_n hx hb dL_law_126 rfl (lv_at hl 1 rfl) ?_
  refine lv_iload hx hb dL_law_127 (lv_at hl 5 rfl) ?_
  refine lv_iconst (v := 1) hx hb dL_law_129 (by decide) ?_
  refine lv_iadd hx hb dL_law_130 ?_
  have e_5 : (nI (4 * t) + (1 : Int32)) = nI (4 * t + 1) := nI_add (4 * t) 1
  rw [e_5]
  refine va_sld hx hb hXs hbl hbA hS (vp_in_nI (by omega) (by omega)) dL_law_131 ?_
  rw [nI_clamp (by omega)]
  have hP : va_P (dC, dI) vwCl (w1 h1 a1 b1 cI cK fb g zt (nI n) (nI c) so nu ty hh pa ch9 zk zl zh zp zq (nI k) ++ (w0 h a b0 cB cJ f g (nI n) (nI c) zg (nI k) ++ wo o cO go)) H := hP.sub [4, 5, 6, 0, 1, 2, 3] rfl
  have hD : va_D (fun q : Nat => s.heap.size ≤ q) (w1 h1 a1 b1 cI cK fb g zt (nI n) (nI c) so nu ty hh pa ch9 zk zl zh zp zq (nI k) ++ (w0 h a b0 cB cJ f g (nI n) (nI c) zg (nI k) ++ wo o cO go)) := hD.sub [4, 5, 6, 0, 1, 2, 3] (by decide) rfl
  refine gji (wc := w1 h1 a1 b1 cI cK fb g zt (nI n) (nI c) so nu ty hh pa ch9 zk zl zh zp zq (nI k)) (wr := w0 h a b0 cB cJ f g (nI n) (nI c) zg (nI k) ++ wo o cO go) (As := [.int (xs (4 * t + 1))]) (rest := []) ⟨hx, hb, hml, hown, hts⟩ (c_X1_feed_b l dC dI tk tw h1 a1 b1 cI cK _ fb g zt (nI n) (nI c) so nu ty hh pa ch9 zk zl zh zp zq (nI k) (xs (4 * t + 1)) hb9) (cwV 1 hts gL_law_X1_feed rfl rfl rfl (by decide +kernel) ⟨Nat.le_of_ble_eq_true rfl, Nat.le_of_ble_eq_true rfl⟩) hKm hP hD hS hA hZ (q0 := 0) (ci := 1) rfl rfl rfl rfl hl.1 rfl (Nat.le_of_ble_eq_true rfl) dL_law_132 ⟨by show _ ≤ 1042; omega, by show _ ≤ 16674; omega⟩ (fun r_6 u_8 H locs hw_7 hP hD hS => ?_)
  have hP : va_P (dC, dI) vwCl (w1 h1 a1 b1 cI cK fb g 1 (nI n) (nI c) so nu ty hh pa ch9 zk zl zh zp zq (nI k) ++ (w0 h a b0 cB cJ f g (nI n) (nI c) zg (nI k) ++ wo o cO go)) H := hP
  have hD : va_D (fun q : Nat => s.heap.size ≤ q) (w1 h1 a1 b1 cI cK fb g 1 (nI n) (nI c) so nu ty hh pa ch9 zk zl zh zp zq (nI k) ++ (w0 h a b0 cB cJ f g (nI n) (nI c) zg (nI k) ++ wo o cO go)) := hD
  refine lv_istore (lv' := [(6, .int r_6), (5, .int 1), (0, .ref b), (1, .ref h), (2, .ref h1), (3, .ref o), (4, .int (nI (4 * t)))]) hx hb dL_law_135 hl (by decide) rfl (fun ls hl => ?_)
  refine lv_aload_n hx hb dL_law_137 rfl (lv_at hl 4 rfl) ?_
  refine gji (wc := w1 h1 a1 b1 cI cK fb g 1 (nI n) (nI c) so nu ty hh pa ch9 zk zl zh zp zq (nI k)) (wr := w0 h a b0 cB cJ f g (nI n) (nI c) zg (nI k) ++ wo o cO go) (As := []) (rest := []) ⟨hx, hb, hml, hown, hts⟩ (c_X1_thrown l dC dI tk tw h1 a1 b1 cI cK _ fb g 1 (nI n) (nI c) so nu ty hh pa ch9 zk zl zh zp zq (nI k) ) (cwV 0 hts gL_law_X1_thrown rfl rfl rfl (by decide +kernel) ⟨Nat.le_of_ble_eq_true rfl, Nat.le_of_ble_eq_true rfl⟩) hKm hP hD hS hA hZ (q0 := 0) (ci := 1) rfl rfl rfl rfl hl.1 rfl (Nat.le_of_ble_eq_true rfl) dL_law_138 ⟨by show _ ≤ 1042; omega, by show _ ≤ 16674; omega⟩ (fun r_9 u_11 H locs hw_10 hP hD hS => ?_)
  have hP : va_P (dC, dI) vwCl (w1 h1 a1 b1 cI cK fb g 1 (nI n) (nI c) so nu ty hh pa ch9 zk zl zh zp zq (nI k) ++ (w0 h a b0 cB cJ f g (nI n) (nI c) zg (nI k) ++ wo o cO go)) H := hP
  have hD : va_D (fun q : Nat => s.heap.size ≤ q) (w1 h1 a1 b1 cI cK fb g 1 (nI n) (nI c) so nu ty hh pa ch9 zk zl zh zp zq (nI k) ++ (w0 h a b0 cB cJ f g (nI n) (nI c) zg (nI k) ++ wo o cO go)) := hD
  obtain rfl : r_9 = 1 := hw_10
  refine lv_iload hx hb dL_law_141 (lv_at hl 1 rfl) ?_
  refine lv_icmp_eq (tgt := 148) hx hb dL_law_143 (by decide) (fun c_12 => ?_) (fun c_12 => ?_)
  · skip
    refine lv_iload hx hb dL_law_148 (lv_at hl 1 rfl) ?_
    refine lv_if_ne (tgt := 165) hx hb dL_law_150 (by decide) (fun c_13 => ?_) (fun c_13 => ?_)
    · skip
      refine lv_goto (tgt := 644) hx hb dL_law_165 (by decide) ?_
      have hP : va_P (dC, dI) vwCl (w0 h a b0 cB cJ f g (nI n) (nI c) zg (nI k) ++ (w1 h1 a1 b1 cI cK fb g 1 (nI n) (nI c) so nu ty hh pa ch9 zk zl zh zp zq (nI k) ++ wo o cO go)) H := hP.sub [3, 4, 5, 0, 1, 2, 6] rfl
      have hD : va_D (fun q : Nat => s.heap.size ≤ q) (w0 h a b0 cB cJ f g (nI n) (nI c) zg (nI k) ++ (w1 h1 a1 b1 cI cK fb g 1 (nI n) (nI c) so nu ty hh pa ch9 zk zl zh zp zq (nI k) ++ wo o cO go)) := hD.sub [3, 4, 5, 0, 1, 2, 6] (by decide) rfl
      refine W.widen (k := 7 + t + 1) (n := 8416 + 6 * (t + 1)) (by omega) (by omega) ?_
      exact K _ _ _ ⟨n, c, k, f, fb, g, zg, 1, so, nu, ty, hh, pa, ch9, zk, zl, zh, zp, zq, go, hn, hc, hk, hRB, hG, hP, hD, hS, lv_sub hl [2, 3, 4, 5, 6] rfl⟩
    · skip
      exact absurd c_13 (by decide)
  · skip
    exact absurd rfl c_12
set_option maxHeartbeats 4000000 in
set_option maxRecDepth 100000 in
theorem op_put_g {p : Program} {e : Env} {s : State} {m : MethodId} {below : List Frame} {meth : Method} {cd : Code} {l : Launch} {b L : Nat} {xs : Nat → Int32} {dC : Nat → ClassId} {dI : Nat → Nat → Nat} {tk tw : Nat} {sa : Nat → Nat} {cB cJ cI cK cO : ClassId} {h a b0 h1 a1 b1 o t : Nat} {H : Heap} {locs : List Loc} {ls : Array Slot} (CX : LC l p s m meth cd b L xs dC dI tk tw sa cB cJ cI cK cO) (ht4 : 4 * t + 4 ≤ L) (K : ∀ (H : Heap) (locs : List Loc) (ls : Array Slot), LI s b dC dI h a b0 cB cJ h1 a1 b1 cI cK o cO t H locs ls → W p l e room_1 s m #[Value.ref b] below meth cd H locs (7 + t + 1) (8416 + 6 * (t + 1)) (lw_Z below #[Value.ref b] s) (F0 m 644 ls [])) (n : Nat) (c : Nat) (k : Nat) (f : Nat → Int32) (fb : Nat → Int32) (g : Nat → Int64) (zg : Int32) (zt : Int32) (so : Int32) (nu : Int64) (ty : Int32) (hh : Int32) (pa : Int64) (ch9 : Int64) (zk : Int32) (zl : Int32) (zh : Int32) (zp : Int32) (zq : Int32) (go : Nat → Int64) (hn : n ≤ 4096) (hc : c ≤ n) (hk : k ≤ 100) (hRB : RB n f fb) (hG : GV f c zg zk zl zh zp zq) (hP : va_P (dC, dI) vwCl (w0 h a b0 cB cJ f g (nI n) (nI c) zg (nI k) ++ (w1 h1 a1 b1 cI cK fb g zt (nI n) (nI c) so nu ty hh pa ch9 zk zl zh zp zq (nI k) ++ wo o cO go)) H) (hD : va_D (fun q : Nat => s.heap.size ≤ q) (w0 h a b0 cB cJ f g (nI n) (nI c) zg (nI k) ++ (w1 h1 a1 b1 cI cK fb g zt (nI n) (nI c) so nu ty hh pa ch9 zk zl zh zp zq (nI k) ++ wo o cO go))) (hS : va_S (fun q : Nat => s.heap.size ≤ q) s.heap H locs) (hl : lv_has ls 8 [(0, .ref b), (1, .ref h), (2, .ref h1), (3, .ref o), (4, .int (nI (4 * t)))]) (q : Nat) (hq : 1 ≤ q ∧ q ≤ 8) (hr9 : n + q ≤ 4096) (e3 : xs (4 * t + 3) = nI q) : W p l e room_1 s m #[Value.ref b] below meth cd H locs (7 + t) (8416 + 6 * t) (lw_Z below #[Value.ref b] s) (F0 m 168 ls []) := by
  obtain ⟨⟨hx, hb, hr, hml, hown, hts, hXs, hbl, hlocks⟩, hst, hL, hK, hZ, hX⟩ := CX
  have hA : ∀ q : Nat, s.heap.size ≤ q → (fun q : Nat => s.heap.size ≤ q) q := fun _ h => h
  have hbA : ¬ (fun q : Nat => s.heap.size ≤ q) b := Nat.not_le.mpr hbl
  have hKx := hK.sub (tys' := t0 cB cJ) [0, 1] rfl
  have hKm := hK.sub (tys' := t1 cI cK) [2, 3] rfl
  have hKh := hK.sub (tys' := th cB cJ cO) [0, 1, 4] rfl
  refine lv_aload_n hx hb dL_law_168 rfl (lv_at hl 1 rfl) ?_
  refine lv_aload_n hx hb dL_law_169 rfl (lv_at hl 0 rfl) ?_
  refine lv_iload hx hb dL_law_170 (lv_at hl 4 rfl) ?_
  refine lv_iconst (v := 1) hx hb dL_law_172 (by decide) ?_
  refine lv_iadd hx hb dL_law_173 ?_
  have e_1 : (nI (4 * t) + (1 : Int32)) = nI (4 * t + 1) := nI_add (4 * t) 1
  rw [e_1]
  refine va_sld hx hb hXs hbl hbA hS (vp_in_nI (by omega) (by omega)) dL_law_174 ?_
  rw [nI_clamp (by omega)]
  refine lv_i2l hx hb dL_law_175 rfl ?_
  refine lv_bipush (v := 32) hx hb dL_law_176 (by decide) ?_
  refine lv_lshl hx hb dL_law_178 rfl ?_
  refine lv_aload_n hx hb dL_law_179 rfl (lv_at hl 0 rfl) ?_
  refine lv_iload hx hb dL_law_180 (lv_at hl 4 rfl) ?_
  refine lv_iconst (v := 2) hx hb dL_law_182 (by decide) ?_
  refine lv_iadd hx hb dL_law_183 ?_
  have e_2 : (nI (4 * t) + (2 : Int32)) = nI (4 * t + 2) := nI_add (4 * t) 2
  rw [e_2]
  refine va_sld hx hb hXs hbl hbA hS (vp_in_nI (by omega) (by omega)) dL_law_184 ?_
  rw [nI_clamp (by omega)]
  refine lv_i2l hx hb dL_law_185 rfl ?_
  refine lv_ldc2 (v := 4294967295) hx hb hown (hts (.constantLong RL 49 (4294967295)) (by decide +kernel)) dL_law_186 ?_
  refine lv_land hx hb dL_law_189 ?_
  refine lv_lor hx hb dL_law_190 ?_
  have e_3 : ((((xs (4 * t + 1)).toInt64) <<< ((32 : Int32).toInt64 &&& 63)) ||| (((xs (4 * t + 2)).toInt64) &&& 4294967295) : Int64) = bo (xs (4 * t + 2)) (xs (4 * t + 1)) := rfl
  rw [e_3]
  refine lv_aload_n hx hb dL_law_191 rfl (lv_at hl 0 rfl) ?_
  refine lv_iload hx hb dL_law_192 (lv_at hl 4 rfl) ?_
  refine lv_iconst (v := 3) hx hb dL_law_194 (by decide) ?_
  refine lv_iadd hx hb dL_law_195 ?_
  have e_4 : (nI (4 * t) + (3 : Int32)) = nI (4 * t + 3) := nI_add (4 * t) 3
  rw [e_4]
  refine va_sld hx hb hXs hbl hbA hS (vp_in_nI (by omega) (by omega)) dL_law_196 ?_
  rw [nI_clamp (by omega)]
  rw [e3]
  refine lv_aload_n hx hb dL_law_197 rfl (lv_at hl 3 rfl) ?_
  have hP : va_P (dC, dI) vwCl ((w0 h a b0 cB cJ f g (nI n) (nI c) zg (nI k) ++ wo o cO go) ++ w1 h1 a1 b1 cI cK fb g zt (nI n) (nI c) so nu ty hh pa ch9 zk zl zh zp zq (nI k)) H := hP.sub [0, 1, 2, 6, 3, 4, 5] rfl
  have hD : va_D (fun q : Nat => s.heap.size ≤ q) ((w0 h a b0 cB cJ f g (nI n) (nI c) zg (nI k) ++ wo o cO go) ++ w1 h1 a1 b1 cI cK fb g zt (nI n) (nI c) so nu ty hh pa ch9 zk zl zh zp zq (nI k)) := hD.sub [0, 1, 2, 6, 3, 4, 5] (by decide) rfl
  refine ghi (wc := w0 h a b0 cB cJ f g (nI n) (nI c) zg (nI k) ++ wo o cO go) (wr := w1 h1 a1 b1 cI cK fb g zt (nI n) (nI c) so nu ty hh pa ch9 zk zl zh zp zq (nI k)) (As := [.ref h, .long (bo (xs (4 * t + 2)) (xs (4 * t + 1))), .int (nI q), .ref o]) (rest := []) ⟨hx, hb, hml, hown, hts⟩ (c_L_put l hst sa dC dI tk tw h a b0 cB cJ o cO go _ f g (nI c) zg (nI k) n hn q hq (bo (xs (4 * t + 2)) (xs (4 * t + 1))) hr9) (vx_cwSW 4 hts gL_law_L_put rfl rfl rfl (by decide +kernel) ⟨Nat.le_of_ble_eq_true rfl, Nat.le_of_ble_eq_true rfl⟩) hKh hP hD hS hA hZ hX rfl hl.1 rfl (Nat.le_of_ble_eq_true rfl) dL_law_198 ⟨by show _ ≤ 1042; omega, by show _ ≤ 16674; omega⟩ (fun r_5 u_7 H locs hw_6 hP hD hS => ?_)
  have hP : va_P (dC, dI) vwCl ((w0 h a b0 cB cJ (apR f n (bo (xs (4 * t + 2)) (xs (4 * t + 1))) q) g (nI (n + q)) (nI c) zg (nI k) ++ wo o cO (vp_updL go 0 ((nI (n + q)).toInt64))) ++ w1 h1 a1 b1 cI cK fb g zt (nI n) (nI c) so nu ty hh pa ch9 zk zl zh zp zq (nI k)) H := hP
  have hD : va_D (fun q : Nat => s.heap.size ≤ q) ((w0 h a b0 cB cJ (apR f n (bo (xs (4 * t + 2)) (xs (4 * t + 1))) q) g (nI (n + q)) (nI c) zg (nI k) ++ wo o cO (vp_updL go 0 ((nI (n + q)).toInt64))) ++ w1 h1 a1 b1 cI cK fb g zt (nI n) (nI c) so nu ty hh pa ch9 zk zl zh zp zq (nI k)) := hD
  obtain rfl : r_5 = 0 := hw_6
  refine lv_istore (lv' := [(5, .int 0), (0, .ref b), (1, .ref h), (2, .ref h1), (3, .ref o), (4, .int (nI (4 * t)))]) hx hb dL_law_201 hl (by decide) rfl (fun ls hl => ?_)
  refine lv_aload_n hx hb dL_law_203 rfl (lv_at hl 3 rfl) ?_
  refine lv_aload_n hx hb dL_law_204 rfl (lv_at hl 1 rfl) ?_
  refine lv_iload hx hb dL_law_205 (lv_at hl 5 rfl) ?_
  refine lv_iconst (v := 1) hx hb dL_law_207 (by decide) ?_
  refine lv_iadd hx hb dL_law_208 ?_
  have e_8 : (nI (4 * t) + (1 : Int32)) = nI (4 * t + 1) := nI_add (4 * t) 1
  rw [e_8]
  refine va_sld hx hb hXs hbl hbA hS (vp_in_nI (by omega) (by omega)) dL_law_209 ?_
  rw [nI_clamp (by omega)]
  refine lv_i2l hx hb dL_law_210 rfl ?_
  refine lv_bipush (v := 32) hx hb dL_law_211 (by decide) ?_
  refine lv_lshl hx hb dL_law_213 rfl ?_
  refine lv_aload_n hx hb dL_law_214 rfl (lv_at hl 1 rfl) ?_
  refine lv_iload hx hb dL_law_215 (lv_at hl 5 rfl) ?_
  refine lv_iconst (v := 2) hx hb dL_law_217 (by decide) ?_
  refine lv_iadd hx hb dL_law_218 ?_
  have e_9 : (nI (4 * t) + (2 : Int32)) = nI (4 * t + 2) := nI_add (4 * t) 2
  rw [e_9]
  refine va_sld hx hb hXs hbl hbA hS (vp_in_nI (by omega) (by omega)) dL_law_219 ?_
  rw [nI_clamp (by omega)]
  refine lv_i2l hx hb dL_law_220 rfl ?_
  refine lv_ldc2 (v := 4294967295) hx hb hown (hts (.constantLong RL 49 (4294967295)) (by decide +kernel)) dL_law_221 ?_
  refine lv_land hx hb dL_law_224 ?_
  refine lv_lor hx hb dL_law_225 ?_
  have e_10 : ((((xs (4 * t + 1)).toInt64) <<< ((32 : Int32).toInt64 &&& 63)) ||| (((xs (4 * t + 2)).toInt64) &&& 4294967295) : Int64) = bo (xs (4 * t + 2)) (xs (4 * t + 1)) := rfl
  rw [e_10]
  refine lv_aload_n hx hb dL_law_226 rfl (lv_at hl 1 rfl) ?_
  refine lv_iload hx hb dL_law_227 (lv_at hl 5 rfl) ?_
  refine lv_iconst (v := 3) hx hb dL_law_229 (by decide) ?_
  refine lv_iadd hx hb dL_law_230 ?_
  have e_11 : (nI (4 * t) + (3 : Int32)) = nI (4 * t + 3) := nI_add (4 * t) 3
  rw [e_11]
  refine va_sld hx hb hXs hbl hbA hS (vp_in_nI (by omega) (by omega)) dL_law_231 ?_
  rw [nI_clamp (by omega)]
  rw [e3]
  have hP : va_P (dC, dI) vwCl (w1 h1 a1 b1 cI cK fb g zt (nI n) (nI c) so nu ty hh pa ch9 zk zl zh zp zq (nI k) ++ (w0 h a b0 cB cJ (apR f n (bo (xs (4 * t + 2)) (xs (4 * t + 1))) q) g (nI (n + q)) (nI c) zg (nI k) ++ wo o cO (vp_updL go 0 ((nI (n + q)).toInt64)))) H := hP.sub [4, 5, 6, 0, 1, 2, 3] rfl
  have hD : va_D (fun q : Nat => s.heap.size ≤ q) (w1 h1 a1 b1 cI cK fb g zt (nI n) (nI c) so nu ty hh pa ch9 zk zl zh zp zq (nI k) ++ (w0 h a b0 cB cJ (apR f n (bo (xs (4 * t + 2)) (xs (4 * t + 1))) q) g (nI (n + q)) (nI c) zg (nI k) ++ wo o cO (vp_updL go 0 ((nI (n + q)).toInt64)))) := hD.sub [4, 5, 6, 0, 1, 2, 3] (by decide) rfl
  refine gji (wc := w1 h1 a1 b1 cI cK fb g zt (nI n) (nI c) so nu ty hh pa ch9 zk zl zh zp zq (nI k)) (wr := w0 h a b0 cB cJ (apR f n (bo (xs (4 * t + 2)) (xs (4 * t + 1))) q) g (nI (n + q)) (nI c) zg (nI k) ++ wo o cO (vp_updL go 0 ((nI (n + q)).toInt64))) (As := [.long (bo (xs (4 * t + 2)) (xs (4 * t + 1))), .int (nI q)]) (rest := []) ⟨hx, hb, hml, hown, hts⟩ (c_X1_put l dC dI tk tw h1 a1 b1 cI cK _ fb g zt (nI c) so nu ty hh pa ch9 zk zl zh zp zq (nI k) n hn q hq (bo (xs (4 * t + 2)) (xs (4 * t + 1))) hr9) (cwV 2 hts gL_law_X1_put rfl rfl rfl (by decide +kernel) ⟨Nat.le_of_ble_eq_true rfl, Nat.le_of_ble_eq_true rfl⟩) hKm hP hD hS hA hZ (q0 := 0) (ci := 1) rfl rfl rfl rfl hl.1 rfl (Nat.le_of_ble_eq_true rfl) dL_law_232 ⟨by show _ ≤ 1042; omega, by show _ ≤ 16674; omega⟩ (fun r_12 u_14 H locs hw_13 hP hD hS => ?_)
  have hP : va_P (dC, dI) vwCl (w1 h1 a1 b1 cI cK (apM fb n (bo (xs (4 * t + 2)) (xs (4 * t + 1))) q) g 0 (nI (n + q)) (nI c) so nu ty hh pa ch9 zk zl zh zp zq (nI k) ++ (w0 h a b0 cB cJ (apR f n (bo (xs (4 * t + 2)) (xs (4 * t + 1))) q) g (nI (n + q)) (nI c) zg (nI k) ++ wo o cO (vp_updL go 0 ((nI (n + q)).toInt64)))) H := hP
  have hD : va_D (fun q : Nat => s.heap.size ≤ q) (w1 h1 a1 b1 cI cK (apM fb n (bo (xs (4 * t + 2)) (xs (4 * t + 1))) q) g 0 (nI (n + q)) (nI c) so nu ty hh pa ch9 zk zl zh zp zq (nI k) ++ (w0 h a b0 cB cJ (apR f n (bo (xs (4 * t + 2)) (xs (4 * t + 1))) q) g (nI (n + q)) (nI c) zg (nI k) ++ wo o cO (vp_updL go 0 ((nI (n + q)).toInt64)))) := hD
  obtain rfl : r_12 = nI (n + q) := hw_13
  refine lv_istore (lv' := [(6, .int (nI (n + q))), (5, .int 0), (0, .ref b), (1, .ref h), (2, .ref h1), (3, .ref o), (4, .int (nI (4 * t)))]) hx hb dL_law_235 hl (by decide) rfl (fun ls hl => ?_)
  refine lv_aload_n hx hb dL_law_237 rfl (lv_at hl 4 rfl) ?_
  refine gji (wc := w1 h1 a1 b1 cI cK (apM fb n (bo (xs (4 * t + 2)) (xs (4 * t + 1))) q) g 0 (nI (n + q)) (nI c) so nu ty hh pa ch9 zk zl zh zp zq (nI k)) (wr := w0 h a b0 cB cJ (apR f n (bo (xs (4 * t + 2)) (xs (4 * t + 1))) q) g (nI (n + q)) (nI c) zg (nI k) ++ wo o cO (vp_updL go 0 ((nI (n + q)).toInt64))) (As := []) (rest := []) ⟨hx, hb, hml, hown, hts⟩ (c_X1_thrown l dC dI tk tw h1 a1 b1 cI cK _ (apM fb n (bo (xs (4 * t + 2)) (xs (4 * t + 1))) q) g 0 (nI (n + q)) (nI c) so nu ty hh pa ch9 zk zl zh zp zq (nI k) ) (cwV 0 hts gL_law_X1_thrown rfl rfl rfl (by decide +kernel) ⟨Nat.le_of_ble_eq_true rfl, Nat.le_of_ble_eq_true rfl⟩) hKm hP hD hS hA hZ (q0 := 0) (ci := 1) rfl rfl rfl rfl hl.1 rfl (Nat.le_of_ble_eq_true rfl) dL_law_238 ⟨by show _ ≤ 1042; omega, by show _ ≤ 16674; omega⟩ (fun r_15 u_17 H locs hw_16 hP hD hS => ?_)
  have hP : va_P (dC, dI) vwCl (w1 h1 a1 b1 cI cK (apM fb n (bo (xs (4 * t + 2)) (xs (4 * t + 1))) q) g 0 (nI (n + q)) (nI c) so nu ty hh pa ch9 zk zl zh zp zq (nI k) ++ (w0 h a b0 cB cJ (apR f n (bo (xs (4 * t + 2)) (xs (4 * t + 1))) q) g (nI (n + q)) (nI c) zg (nI k) ++ wo o cO (vp_updL go 0 ((nI (n + q)).toInt64)))) H := hP
  have hD : va_D (fun q : Nat => s.heap.size ≤ q) (w1 h1 a1 b1 cI cK (apM fb n (bo (xs (4 * t + 2)) (xs (4 * t + 1))) q) g 0 (nI (n + q)) (nI c) so nu ty hh pa ch9 zk zl zh zp zq (nI k) ++ (w0 h a b0 cB cJ (apR f n (bo (xs (4 * t + 2)) (xs (4 * t + 1))) q) g (nI (n + q)) (nI c) zg (nI k) ++ wo o cO (vp_updL go 0 ((nI (n + q)).toInt64)))) := hD
  obtain rfl : r_15 = 0 := hw_16
  refine lv_iload hx hb dL_law_241 (lv_at hl 1 rfl) ?_
  refine lv_icmp_eq (tgt := 248) hx hb dL_law_243 (by decide) (fun c_18 => ?_) (fun c_18 => ?_)
  · skip
    refine lv_iload hx hb dL_law_248 (lv_at hl 1 rfl) ?_
    refine lv_if_ne (tgt := 265) hx hb dL_law_250 (by decide) (fun c_19 => ?_) (fun c_19 => ?_)
    · skip
      exact absurd (by decide) c_19
    · skip
      refine lv_aload_n hx hb dL_law_253 rfl (lv_at hl 5 rfl) ?_
      refine lv_iconst (v := 0) hx hb dL_law_254 (by decide) ?_
      refine va_lald hx hb hK hP 6 4 rfl rfl vp01 dL_law_255 ?_
      have e_20 : (vp_updL go 0 ((nI (n + q)).toInt64) (0 : Int32).toNatClampNeg : Int64) = ((nI (n + q)).toInt64) := pk_uLs
      rw [e_20]
      refine lv_iload hx hb dL_law_256 (lv_at hl 0 rfl) ?_
      refine lv_i2l hx hb dL_law_258 rfl ?_
      refine W.lcmp hx hb dL_law_259 ?_
      refine lv_if_eq (tgt := 265) hx hb dL_law_260 (by decide) (fun c_21 => ?_) (fun c_21 => ?_)
      · skip
        have c_21 := (lg_cmp_eq ((nI (n + q)).toInt64) ((nI (n + q)).toInt64)).mp c_21
        refine lv_goto (tgt := 644) hx hb dL_law_265 (by decide) ?_
        have hP : va_P (dC, dI) vwCl (w0 h a b0 cB cJ (apR f n (bo (xs (4 * t + 2)) (xs (4 * t + 1))) q) g (nI (n + q)) (nI c) zg (nI k) ++ (w1 h1 a1 b1 cI cK (apM fb n (bo (xs (4 * t + 2)) (xs (4 * t + 1))) q) g 0 (nI (n + q)) (nI c) so nu ty hh pa ch9 zk zl zh zp zq (nI k) ++ wo o cO (vp_updL go 0 ((nI (n + q)).toInt64)))) H := hP.sub [3, 4, 5, 0, 1, 2, 6] rfl
        have hD : va_D (fun q : Nat => s.heap.size ≤ q) (w0 h a b0 cB cJ (apR f n (bo (xs (4 * t + 2)) (xs (4 * t + 1))) q) g (nI (n + q)) (nI c) zg (nI k) ++ (w1 h1 a1 b1 cI cK (apM fb n (bo (xs (4 * t + 2)) (xs (4 * t + 1))) q) g 0 (nI (n + q)) (nI c) so nu ty hh pa ch9 zk zl zh zp zq (nI k) ++ wo o cO (vp_updL go 0 ((nI (n + q)).toInt64)))) := hD.sub [3, 4, 5, 0, 1, 2, 6] (by decide) rfl
        refine W.widen (k := 7 + t + 1) (n := 8416 + 6 * (t + 1)) (by omega) (by omega) ?_
        exact K _ _ _ ⟨n + q, c, k, apR f n (bo (xs (4 * t + 2)) (xs (4 * t + 1))) q, apM fb n (bo (xs (4 * t + 2)) (xs (4 * t + 1))) q, g, zg, 0, so, nu, ty, hh, pa, ch9, zk, zl, zh, zp, zq, vp_updL go 0 ((nI (n + q)).toInt64), hr9, (by omega), hk, (RB_app q n f fb hq.2 (fun _ _ => rfl) hRB), (GV_mono hG (fun j hj => apR_lo q n f j (by omega)) (Nat.le_refl _)), hP, hD, hS, lv_sub hl [2, 3, 4, 5, 6] rfl⟩
      · skip
        have c_21 := (not_congr (lg_cmp_eq ((nI (n + q)).toInt64) ((nI (n + q)).toInt64))).mp c_21
        exact absurd (rfl) c_21
  · skip
    exact absurd rfl c_18
set_option maxHeartbeats 4000000 in
set_option maxRecDepth 100000 in
theorem op_put_f {p : Program} {e : Env} {s : State} {m : MethodId} {below : List Frame} {meth : Method} {cd : Code} {l : Launch} {b L : Nat} {xs : Nat → Int32} {dC : Nat → ClassId} {dI : Nat → Nat → Nat} {tk tw : Nat} {sa : Nat → Nat} {cB cJ cI cK cO : ClassId} {h a b0 h1 a1 b1 o t : Nat} {H : Heap} {locs : List Loc} {ls : Array Slot} (CX : LC l p s m meth cd b L xs dC dI tk tw sa cB cJ cI cK cO) (ht4 : 4 * t + 4 ≤ L) (K : ∀ (H : Heap) (locs : List Loc) (ls : Array Slot), LI s b dC dI h a b0 cB cJ h1 a1 b1 cI cK o cO t H locs ls → W p l e room_1 s m #[Value.ref b] below meth cd H locs (7 + t + 1) (8416 + 6 * (t + 1)) (lw_Z below #[Value.ref b] s) (F0 m 644 ls [])) (n : Nat) (c : Nat) (k : Nat) (f : Nat → Int32) (fb : Nat → Int32) (g : Nat → Int64) (zg : Int32) (zt : Int32) (so : Int32) (nu : Int64) (ty : Int32) (hh : Int32) (pa : Int64) (ch9 : Int64) (zk : Int32) (zl : Int32) (zh : Int32) (zp : Int32) (zq : Int32) (go : Nat → Int64) (hn : n ≤ 4096) (hc : c ≤ n) (hk : k ≤ 100) (hRB : RB n f fb) (hG : GV f c zg zk zl zh zp zq) (hP : va_P (dC, dI) vwCl (w0 h a b0 cB cJ f g (nI n) (nI c) zg (nI k) ++ (w1 h1 a1 b1 cI cK fb g zt (nI n) (nI c) so nu ty hh pa ch9 zk zl zh zp zq (nI k) ++ wo o cO go)) H) (hD : va_D (fun q : Nat => s.heap.size ≤ q) (w0 h a b0 cB cJ f g (nI n) (nI c) zg (nI k) ++ (w1 h1 a1 b1 cI cK fb g zt (nI n) (nI c) so nu ty hh pa ch9 zk zl zh zp zq (nI k) ++ wo o cO go))) (hS : va_S (fun q : Nat => s.heap.size ≤ q) s.heap H locs) (hl : lv_has ls 8 [(0, .ref b), (1, .ref h), (2, .ref h1), (3, .ref o), (4, .int (nI (4 * t)))]) (q : Nat) (hq : 1 ≤ q ∧ q ≤ 8) (hr9 : 4096 < n + q) (e3 : xs (4 * t + 3) = nI q) : W p l e room_1 s m #[Value.ref b] below meth cd H locs (7 + t) (8416 + 6 * t) (lw_Z below #[Value.ref b] s) (F0 m 168 ls []) := by
  obtain ⟨⟨hx, hb, hr, hml, hown, hts, hXs, hbl, hlocks⟩, hst, hL, hK, hZ, hX⟩ := CX
  have hA : ∀ q : Nat, s.heap.size ≤ q → (fun q : Nat => s.heap.size ≤ q) q := fun _ h => h
  have hbA : ¬ (fun q : Nat => s.heap.size ≤ q) b := Nat.not_le.mpr hbl
  have hKx := hK.sub (tys' := t0 cB cJ) [0, 1] rfl
  have hKm := hK.sub (tys' := t1 cI cK) [2, 3] rfl
  have hKh := hK.sub (tys' := th cB cJ cO) [0, 1, 4] rfl
  refine lv_aload_n hx hb dL_law_168 rfl (lv_at hl 1 rfl) ?_
  refine lv_aload_n hx hb dL_law_169 rfl (lv_at hl 0 rfl) ?_
  refine lv_iload hx hb dL_law_170 (lv_at hl 4 rfl) ?_
  refine lv_iconst (v := 1) hx hb dL_law_172 (by decide) ?_
  refine lv_iadd hx hb dL_law_173 ?_
  have e_1 : (nI (4 * t) + (1 : Int32)) = nI (4 * t + 1) := nI_add (4 * t) 1
  rw [e_1]
  refine va_sld hx hb hXs hbl hbA hS (vp_in_nI (by omega) (by omega)) dL_law_174 ?_
  rw [nI_clamp (by omega)]
  refine lv_i2l hx hb dL_law_175 rfl ?_
  refine lv_bipush (v := 32) hx hb dL_law_176 (by decide) ?_
  refine lv_lshl hx hb dL_law_178 rfl ?_
  refine lv_aload_n hx hb dL_law_179 rfl (lv_at hl 0 rfl) ?_
  refine lv_iload hx hb dL_law_180 (lv_at hl 4 rfl) ?_
  refine lv_iconst (v := 2) hx hb dL_law_182 (by decide) ?_
  refine lv_iadd hx hb dL_law_183 ?_
  have e_2 : (nI (4 * t) + (2 : Int32)) = nI (4 * t + 2) := nI_add (4 * t) 2
  rw [e_2]
  refine va_sld hx hb hXs hbl hbA hS (vp_in_nI (by omega) (by omega)) dL_law_184 ?_
  rw [nI_clamp (by omega)]
  refine lv_i2l hx hb dL_law_185 rfl ?_
  refine lv_ldc2 (v := 4294967295) hx hb hown (hts (.constantLong RL 49 (4294967295)) (by decide +kernel)) dL_law_186 ?_
  refine lv_land hx hb dL_law_189 ?_
  refine lv_lor hx hb dL_law_190 ?_
  have e_3 : ((((xs (4 * t + 1)).toInt64) <<< ((32 : Int32).toInt64 &&& 63)) ||| (((xs (4 * t + 2)).toInt64) &&& 4294967295) : Int64) = bo (xs (4 * t + 2)) (xs (4 * t + 1)) := rfl
  rw [e_3]
  refine lv_aload_n hx hb dL_law_191 rfl (lv_at hl 0 rfl) ?_
  refine lv_iload hx hb dL_law_192 (lv_at hl 4 rfl) ?_
  refine lv_iconst (v := 3) hx hb dL_law_194 (by decide) ?_
  refine lv_iadd hx hb dL_law_195 ?_
  have e_4 : (nI (4 * t) + (3 : Int32)) = nI (4 * t + 3) := nI_add (4 * t) 3
  rw [e_4]
  refine va_sld hx hb hXs hbl hbA hS (vp_in_nI (by omega) (by omega)) dL_law_196 ?_
  rw [nI_clamp (by omega)]
  rw [e3]
  refine lv_aload_n hx hb dL_law_197 rfl (lv_at hl 3 rfl) ?_
  have hP : va_P (dC, dI) vwCl ((w0 h a b0 cB cJ f g (nI n) (nI c) zg (nI k) ++ wo o cO go) ++ w1 h1 a1 b1 cI cK fb g zt (nI n) (nI c) so nu ty hh pa ch9 zk zl zh zp zq (nI k)) H := hP.sub [0, 1, 2, 6, 3, 4, 5] rfl
  have hD : va_D (fun q : Nat => s.heap.size ≤ q) ((w0 h a b0 cB cJ f g (nI n) (nI c) zg (nI k) ++ wo o cO go) ++ w1 h1 a1 b1 cI cK fb g zt (nI n) (nI c) so nu ty hh pa ch9 zk zl zh zp zq (nI k)) := hD.sub [0, 1, 2, 6, 3, 4, 5] (by decide) rfl
  refine ghi (wc := w0 h a b0 cB cJ f g (nI n) (nI c) zg (nI k) ++ wo o cO go) (wr := w1 h1 a1 b1 cI cK fb g zt (nI n) (nI c) so nu ty hh pa ch9 zk zl zh zp zq (nI k)) (As := [.ref h, .long (bo (xs (4 * t + 2)) (xs (4 * t + 1))), .int (nI q), .ref o]) (rest := []) ⟨hx, hb, hml, hown, hts⟩ (c_L_put_f l hst sa dC dI tk tw h a b0 cB cJ o cO go _ f g (nI c) zg (nI k) n hn q hq (bo (xs (4 * t + 2)) (xs (4 * t + 1))) hr9) (vx_cwSW 4 hts gL_law_L_put rfl rfl rfl (by decide +kernel) ⟨Nat.le_of_ble_eq_true rfl, Nat.le_of_ble_eq_true rfl⟩) hKh hP hD hS hA hZ hX rfl hl.1 rfl (Nat.le_of_ble_eq_true rfl) dL_law_198 ⟨by show _ ≤ 1042; omega, by show _ ≤ 16674; omega⟩ (fun r_5 u_7 H locs hw_6 hP hD hS => ?_)
  have hP : va_P (dC, dI) vwCl ((w0 h a b0 cB cJ f g (nI n) (nI c) zg (nI k) ++ wo o cO go) ++ w1 h1 a1 b1 cI cK fb g zt (nI n) (nI c) so nu ty hh pa ch9 zk zl zh zp zq (nI k)) H := hP
  have hD : va_D (fun q : Nat => s.heap.size ≤ q) ((w0 h a b0 cB cJ f g (nI n) (nI c) zg (nI k) ++ wo o cO go) ++ w1 h1 a1 b1 cI cK fb g zt (nI n) (nI c) so nu ty hh pa ch9 zk zl zh zp zq (nI k)) := hD
  obtain rfl : r_5 = 2 := hw_6
  refine lv_istore (lv' := [(5, .int 2), (0, .ref b), (1, .ref h), (2, .ref h1), (3, .ref o), (4, .int (nI (4 * t)))]) hx hb dL_law_201 hl (by decide) rfl (fun ls hl => ?_)
  refine lv_aload_n hx hb dL_law_203 rfl (lv_at hl 3 rfl) ?_
  refine lv_aload_n hx hb dL_law_204 rfl (lv_at hl 1 rfl) ?_
  refine lv_iload hx hb dL_law_205 (lv_at hl 5 rfl) ?_
  refine lv_iconst (v := 1) hx hb dL_law_207 (by decide) ?_
  refine lv_iadd hx hb dL_law_208 ?_
  have e_8 : (nI (4 * t) + (1 : Int32)) = nI (4 * t + 1) := nI_add (4 * t) 1
  rw [e_8]
  refine va_sld hx hb hXs hbl hbA hS (vp_in_nI (by omega) (by omega)) dL_law_209 ?_
  rw [nI_clamp (by omega)]
  refine lv_i2l hx hb dL_law_210 rfl ?_
  refine lv_bipush (v := 32) hx hb dL_law_211 (by decide) ?_
  refine lv_lshl hx hb dL_law_213 rfl ?_
  refine lv_aload_n hx hb dL_law_214 rfl (lv_at hl 1 rfl) ?_
  refine lv_iload hx hb dL_law_215 (lv_at hl 5 rfl) ?_
  refine lv_iconst (v := 2) hx hb dL_law_217 (by decide) ?_
  refine lv_iadd hx hb dL_law_218 ?_
  have e_9 : (nI (4 * t) + (2 : Int32)) = nI (4 * t + 2) := nI_add (4 * t) 2
  rw [e_9]
  refine va_sld hx hb hXs hbl hbA hS (vp_in_nI (by omega) (by omega)) dL_law_219 ?_
  rw [nI_clamp (by omega)]
  refine lv_i2l hx hb dL_law_220 rfl ?_
  refine lv_ldc2 (v := 4294967295) hx hb hown (hts (.constantLong RL 49 (4294967295)) (by decide +kernel)) dL_law_221 ?_
  refine lv_land hx hb dL_law_224 ?_
  refine lv_lor hx hb dL_law_225 ?_
  have e_10 : ((((xs (4 * t + 1)).toInt64) <<< ((32 : Int32).toInt64 &&& 63)) ||| (((xs (4 * t + 2)).toInt64) &&& 4294967295) : Int64) = bo (xs (4 * t + 2)) (xs (4 * t + 1)) := rfl
  rw [e_10]
  refine lv_aload_n hx hb dL_law_226 rfl (lv_at hl 1 rfl) ?_
  refine lv_iload hx hb dL_law_227 (lv_at hl 5 rfl) ?_
  refine lv_iconst (v := 3) hx hb dL_law_229 (by decide) ?_
  refine lv_iadd hx hb dL_law_230 ?_
  have e_11 : (nI (4 * t) + (3 : Int32)) = nI (4 * t + 3) := nI_add (4 * t) 3
  rw [e_11]
  refine va_sld hx hb hXs hbl hbA hS (vp_in_nI (by omega) (by omega)) dL_law_231 ?_
  rw [nI_clamp (by omega)]
  rw [e3]
  have hP : va_P (dC, dI) vwCl (w1 h1 a1 b1 cI cK fb g zt (nI n) (nI c) so nu ty hh pa ch9 zk zl zh zp zq (nI k) ++ (w0 h a b0 cB cJ f g (nI n) (nI c) zg (nI k) ++ wo o cO go)) H := hP.sub [4, 5, 6, 0, 1, 2, 3] rfl
  have hD : va_D (fun q : Nat => s.heap.size ≤ q) (w1 h1 a1 b1 cI cK fb g zt (nI n) (nI c) so nu ty hh pa ch9 zk zl zh zp zq (nI k) ++ (w0 h a b0 cB cJ f g (nI n) (nI c) zg (nI k) ++ wo o cO go)) := hD.sub [4, 5, 6, 0, 1, 2, 3] (by decide) rfl
  refine gji (wc := w1 h1 a1 b1 cI cK fb g zt (nI n) (nI c) so nu ty hh pa ch9 zk zl zh zp zq (nI k)) (wr := w0 h a b0 cB cJ f g (nI n) (nI c) zg (nI k) ++ wo o cO go) (As := [.long (bo (xs (4 * t + 2)) (xs (4 * t + 1))), .int (nI q)]) (rest := []) ⟨hx, hb, hml, hown, hts⟩ (c_X1_put_f l dC dI tk tw h1 a1 b1 cI cK _ fb g zt (nI c) so nu ty hh pa ch9 zk zl zh zp zq (nI k) n hn q hq (bo (xs (4 * t + 2)) (xs (4 * t + 1))) hr9) (cwV 2 hts gL_law_X1_put rfl rfl rfl (by decide +kernel) ⟨Nat.le_of_ble_eq_true rfl, Nat.le_of_ble_eq_true rfl⟩) hKm hP hD hS hA hZ (q0 := 0) (ci := 1) rfl rfl rfl rfl hl.1 rfl (Nat.le_of_ble_eq_true rfl) dL_law_232 ⟨by show _ ≤ 1042; omega, by show _ ≤ 16674; omega⟩ (fun r_12 u_14 H locs hw_13 hP hD hS => ?_)
  have hP : va_P (dC, dI) vwCl (w1 h1 a1 b1 cI cK fb g 2 (nI n) (nI c) so nu ty hh pa ch9 zk zl zh zp zq (nI k) ++ (w0 h a b0 cB cJ f g (nI n) (nI c) zg (nI k) ++ wo o cO go)) H := hP
  have hD : va_D (fun q : Nat => s.heap.size ≤ q) (w1 h1 a1 b1 cI cK fb g 2 (nI n) (nI c) so nu ty hh pa ch9 zk zl zh zp zq (nI k) ++ (w0 h a b0 cB cJ f g (nI n) (nI c) zg (nI k) ++ wo o cO go)) := hD
  refine lv_istore (lv' := [(6, .int r_12), (5, .int 2), (0, .ref b), (1, .ref h), (2, .ref h1), (3, .ref o), (4, .int (nI (4 * t)))]) hx hb dL_law_235 hl (by decide) rfl (fun ls hl => ?_)
  refine lv_aload_n hx hb dL_law_237 rfl (lv_at hl 4 rfl) ?_
  refine gji (wc := w1 h1 a1 b1 cI cK fb g 2 (nI n) (nI c) so nu ty hh pa ch9 zk zl zh zp zq (nI k)) (wr := w0 h a b0 cB cJ f g (nI n) (nI c) zg (nI k) ++ wo o cO go) (As := []) (rest := []) ⟨hx, hb, hml, hown, hts⟩ (c_X1_thrown l dC dI tk tw h1 a1 b1 cI cK _ fb g 2 (nI n) (nI c) so nu ty hh pa ch9 zk zl zh zp zq (nI k) ) (cwV 0 hts gL_law_X1_thrown rfl rfl rfl (by decide +kernel) ⟨Nat.le_of_ble_eq_true rfl, Nat.le_of_ble_eq_true rfl⟩) hKm hP hD hS hA hZ (q0 := 0) (ci := 1) rfl rfl rfl rfl hl.1 rfl (Nat.le_of_ble_eq_true rfl) dL_law_238 ⟨by show _ ≤ 1042; omega, by show _ ≤ 16674; omega⟩ (fun r_15 u_17 H locs hw_16 hP hD hS => ?_)
  have hP : va_P (dC, dI) vwCl (w1 h1 a1 b1 cI cK fb g 2 (nI n) (nI c) so nu ty hh pa ch9 zk zl zh zp zq (nI k) ++ (w0 h a b0 cB cJ f g (nI n) (nI c) zg (nI k) ++ wo o cO go)) H := hP
  have hD : va_D (fun q : Nat => s.heap.size ≤ q) (w1 h1 a1 b1 cI cK fb g 2 (nI n) (nI c) so nu ty hh pa ch9 zk zl zh zp zq (nI k) ++ (w0 h a b0 cB cJ f g (nI n) (nI c) zg (nI k) ++ wo o cO go)) := hD
  obtain rfl : r_15 = 2 := hw_16
  refine lv_iload hx hb dL_law_241 (lv_at hl 1 rfl) ?_
  refine lv_icmp_eq (tgt := 248) hx hb dL_law_243 (by decide) (fun c_18 => ?_) (fun c_18 => ?_)
  · skip
    refine lv_iload hx hb dL_law_248 (lv_at hl 1 rfl) ?_
    refine lv_if_ne (tgt := 265) hx hb dL_law_250 (by decide) (fun c_19 => ?_) (fun c_19 => ?_)
    · skip
      refine lv_goto (tgt := 644) hx hb dL_law_265 (by decide) ?_
      have hP : va_P (dC, dI) vwCl (w0 h a b0 cB cJ f g (nI n) (nI c) zg (nI k) ++ (w1 h1 a1 b1 cI cK fb g 2 (nI n) (nI c) so nu ty hh pa ch9 zk zl zh zp zq (nI k) ++ wo o cO go)) H := hP.sub [3, 4, 5, 0, 1, 2, 6] rfl
      have hD : va_D (fun q : Nat => s.heap.size ≤ q) (w0 h a b0 cB cJ f g (nI n) (nI c) zg (nI k) ++ (w1 h1 a1 b1 cI cK fb g 2 (nI n) (nI c) so nu ty hh pa ch9 zk zl zh zp zq (nI k) ++ wo o cO go)) := hD.sub [3, 4, 5, 0, 1, 2, 6] (by decide) rfl
      refine W.widen (k := 7 + t + 1) (n := 8416 + 6 * (t + 1)) (by omega) (by omega) ?_
      exact K _ _ _ ⟨n, c, k, f, fb, g, zg, 2, so, nu, ty, hh, pa, ch9, zk, zl, zh, zp, zq, go, hn, hc, hk, hRB, hG, hP, hD, hS, lv_sub hl [2, 3, 4, 5, 6] rfl⟩
    · skip
      exact absurd c_19 (by decide)
  · skip
    exact absurd rfl c_18
set_option maxHeartbeats 4000000 in
set_option maxRecDepth 100000 in
theorem op_put_b {p : Program} {e : Env} {s : State} {m : MethodId} {below : List Frame} {meth : Method} {cd : Code} {l : Launch} {b L : Nat} {xs : Nat → Int32} {dC : Nat → ClassId} {dI : Nat → Nat → Nat} {tk tw : Nat} {sa : Nat → Nat} {cB cJ cI cK cO : ClassId} {h a b0 h1 a1 b1 o t : Nat} {H : Heap} {locs : List Loc} {ls : Array Slot} (CX : LC l p s m meth cd b L xs dC dI tk tw sa cB cJ cI cK cO) (ht4 : 4 * t + 4 ≤ L) (K : ∀ (H : Heap) (locs : List Loc) (ls : Array Slot), LI s b dC dI h a b0 cB cJ h1 a1 b1 cI cK o cO t H locs ls → W p l e room_1 s m #[Value.ref b] below meth cd H locs (7 + t + 1) (8416 + 6 * (t + 1)) (lw_Z below #[Value.ref b] s) (F0 m 644 ls [])) (n : Nat) (c : Nat) (k : Nat) (f : Nat → Int32) (fb : Nat → Int32) (g : Nat → Int64) (zg : Int32) (zt : Int32) (so : Int32) (nu : Int64) (ty : Int32) (hh : Int32) (pa : Int64) (ch9 : Int64) (zk : Int32) (zl : Int32) (zh : Int32) (zp : Int32) (zq : Int32) (go : Nat → Int64) (hn : n ≤ 4096) (hc : c ≤ n) (hk : k ≤ 100) (hRB : RB n f fb) (hG : GV f c zg zk zl zh zp zq) (hP : va_P (dC, dI) vwCl (w0 h a b0 cB cJ f g (nI n) (nI c) zg (nI k) ++ (w1 h1 a1 b1 cI cK fb g zt (nI n) (nI c) so nu ty hh pa ch9 zk zl zh zp zq (nI k) ++ wo o cO go)) H) (hD : va_D (fun q : Nat => s.heap.size ≤ q) (w0 h a b0 cB cJ f g (nI n) (nI c) zg (nI k) ++ (w1 h1 a1 b1 cI cK fb g zt (nI n) (nI c) so nu ty hh pa ch9 zk zl zh zp zq (nI k) ++ wo o cO go))) (hS : va_S (fun q : Nat => s.heap.size ≤ q) s.heap H locs) (hl : lv_has ls 8 [(0, .ref b), (1, .ref h), (2, .ref h1), (3, .ref o), (4, .int (nI (4 * t)))]) (hb9 : xs (4 * t + 3) < 1 ∨ 8 < xs (4 * t + 3)) : W p l e room_1 s m #[Value.ref b] below meth cd H locs (7 + t) (8416 + 6 * t) (lw_Z below #[Value.ref b] s) (F0 m 168 ls []) := by
  obtain ⟨⟨hx, hb, hr, hml, hown, hts, hXs, hbl, hlocks⟩, hst, hL, hK, hZ, hX⟩ := CX
  have hA : ∀ q : Nat, s.heap.size ≤ q → (fun q : Nat => s.heap.size ≤ q) q := fun _ h => h
  have hbA : ¬ (fun q : Nat => s.heap.size ≤ q) b := Nat.not_le.mpr hbl
  have hKx := hK.sub (tys' := t0 cB cJ) [0, 1] rfl
  have hKm := hK.sub (tys' := t1 cI cK) [2, 3] rfl
  have hKh := hK.sub (tys' := th cB cJ cO) [0, 1, 4] rfl
  refine lv_aload_n hx hb dL_law_168 rfl (lv_at hl 1 rfl) ?_
  refine lv_aload_n hx hb dL_law_169 rfl (lv_at hl 0 rfl) ?_
  refine lv_iload hx hb dL_law_170 (lv_at hl 4 rfl) ?_
  refine lv_iconst (v := 1) hx hb dL_law_172 (by decide) ?_
  refine lv_iadd hx hb dL_law_173 ?_
  have e_1 : (nI (4 * t) + (1 : Int32)) = nI (4 * t + 1) := nI_add (4 * t) 1
  rw [e_1]
  refine va_sld hx hb hXs hbl hbA hS (vp_in_nI (by omega) (by omega)) dL_law_174 ?_
  rw [nI_clamp (by omega)]
  refine lv_i2l hx hb dL_law_175 rfl ?_
  refine lv_bipush (v := 32) hx hb dL_law_176 (by decide) ?_
  refine lv_lshl hx hb dL_law_178 rfl ?_
  refine lv_aload_n hx hb dL_law_179 rfl (lv_at hl 0 rfl) ?_
  refine lv_iload hx hb dL_law_180 (lv_at hl 4 rfl) ?_
  refine lv_iconst (v := 2) hx hb dL_law_182 (by decide) ?_
  refine lv_iadd hx hb dL_law_183 ?_
  have e_2 : (nI (4 * t) + (2 : Int32)) = nI (4 * t + 2) := nI_add (4 * t) 2
  rw [e_2]
  refine va_sld hx hb hXs hbl hbA hS (vp_in_nI (by omega) (by omega)) dL_law_184 ?_
  rw [nI_clamp (by omega)]
  refine lv_i2l hx hb dL_law_185 rfl ?_
  refine lv_ldc2 (v := 4294967295) hx hb hown (hts (.constantLong RL 49 (4294967295)) (by decide +kernel)) dL_law_186 ?_
  refine lv_land hx hb dL_law_189 ?_
  refine lv_lor hx hb dL_law_190 ?_
  have e_3 : ((((xs (4 * t + 1)).toInt64) <<< ((32 : Int32).toInt64 &&& 63)) ||| (((xs (4 * t + 2)).toInt64) &&& 4294967295) : Int64) = bo (xs (4 * t + 2)) (xs (4 * t + 1)) := rfl
  rw [e_3]
  refine lv_aload_n hx hb dL_law_191 rfl (lv_at hl 0 rfl) ?_
  refine lv_iload hx hb dL_law_192 (lv_at hl 4 rfl) ?_
  refine lv_iconst (v := 3) hx hb dL_law_194 (by decide) ?_
  refine lv_iadd hx hb dL_law_195 ?_
  have e_4 : (nI (4 * t) + (3 : Int32)) = nI (4 * t + 3) := nI_add (4 * t) 3
  rw [e_4]
  refine va_sld hx hb hXs hbl hbA hS (vp_in_nI (by omega) (by omega)) dL_law_196 ?_
  rw [nI_clamp (by omega)]
  refine lv_aload_n hx hb dL_law_197 rfl (lv_at hl 3 rfl) ?_
  have hP : va_P (dC, dI) vwCl ((w0 h a b0 cB cJ f g (nI n) (nI c) zg (nI k) ++ wo o cO go) ++ w1 h1 a1 b1 cI cK fb g zt (nI n) (nI c) so nu ty hh pa ch9 zk zl zh zp zq (nI k)) H := hP.sub [0, 1, 2, 6, 3, 4, 5] rfl
  have hD : va_D (fun q : Nat => s.heap.size ≤ q) ((w0 h a b0 cB cJ f g (nI n) (nI c) zg (nI k) ++ wo o cO go) ++ w1 h1 a1 b1 cI cK fb g zt (nI n) (nI c) so nu ty hh pa ch9 zk zl zh zp zq (nI k)) := hD.sub [0, 1, 2, 6, 3, 4, 5] (by decide) rfl
  refine ghi (wc := w0 h a b0 cB cJ f g (nI n) (nI c) zg (nI k) ++ wo o cO go) (wr := w1 h1 a1 b1 cI cK fb g zt (nI n) (nI c) so nu ty hh pa ch9 zk zl zh zp zq (nI k)) (As := [.ref h, .long (bo (xs (4 * t + 2)) (xs (4 * t + 1))), .int (xs (4 * t + 3)), .ref o]) (rest := []) ⟨hx, hb, hml, hown, hts⟩ (c_L_put_b l hst sa dC dI tk tw h a b0 cB cJ o cO go _ f g (nI n) (nI c) zg (nI k) (bo (xs (4 * t + 2)) (xs (4 * t + 1))) (xs (4 * t + 3)) hb9) (vx_cwSW 4 hts gL_law_L_put rfl rfl rfl (by decide +kernel) ⟨Nat.le_of_ble_eq_true rfl, Nat.le_of_ble_eq_true rfl⟩) hKh hP hD hS hA hZ hX rfl hl.1 rfl (Nat.le_of_ble_eq_true rfl) dL_law_198 ⟨by show _ ≤ 1042; omega, by show _ ≤ 16674; omega⟩ (fun r_5 u_7 H locs hw_6 hP hD hS => ?_)
  have hP : va_P (dC, dI) vwCl ((w0 h a b0 cB cJ f g (nI n) (nI c) zg (nI k) ++ wo o cO go) ++ w1 h1 a1 b1 cI cK fb g zt (nI n) (nI c) so nu ty hh pa ch9 zk zl zh zp zq (nI k)) H := hP
  have hD : va_D (fun q : Nat => s.heap.size ≤ q) ((w0 h a b0 cB cJ f g (nI n) (nI c) zg (nI k) ++ wo o cO go) ++ w1 h1 a1 b1 cI cK fb g zt (nI n) (nI c) so nu ty hh pa ch9 zk zl zh zp zq (nI k)) := hD
  obtain rfl : r_5 = 1 := hw_6
  refine lv_istore (lv' := [(5, .int 1), (0, .ref b), (1, .ref h), (2, .ref h1), (3, .ref o), (4, .int (nI (4 * t)))]) hx hb dL_law_201 hl (by decide) rfl (fun ls hl => ?_)
  refine lv_aload_n hx hb dL_law_203 rfl (lv_at hl 3 rfl) ?_
  refine lv_aload_n hx hb dL_law_204 rfl (lv_at hl 1 rfl) ?_
  refine lv_iload hx hb dL_law_205 (lv_at hl 5 rfl) ?_
  refine lv_iconst (v := 1) hx hb dL_law_207 (by decide) ?_
  refine lv_iadd hx hb dL_law_208 ?_
  have e_8 : (nI (4 * t) + (1 : Int32)) = nI (4 * t + 1) := nI_add (4 * t) 1
  rw [e_8]
  refine va_sld hx hb hXs hbl hbA hS (vp_in_nI (by omega) (by omega)) dL_law_209 ?_
  rw [nI_clamp (by omega)]
  refine lv_i2l hx hb dL_law_210 rfl ?_
  refine lv_bipush (v := 32) hx hb dL_law_211 (by decide) ?_
  refine lv_lshl hx hb dL_law_213 rfl ?_
  refine lv_aload_n hx hb dL_law_214 rfl (lv_at hl 1 rfl) ?_
  refine lv_iload hx hb dL_law_215 (lv_at hl 5 rfl) ?_
  refine lv_iconst (v := 2) hx hb dL_law_217 (by decide) ?_
  refine lv_iadd hx hb dL_law_218 ?_
  have e_9 : (nI (4 * t) + (2 : Int32)) = nI (4 * t + 2) := nI_add (4 * t) 2
  rw [e_9]
  refine va_sld hx hb hXs hbl hbA hS (vp_in_nI (by omega) (by omega)) dL_law_219 ?_
  rw [nI_clamp (by omega)]
  refine lv_i2l hx hb dL_law_220 rfl ?_
  refine lv_ldc2 (v := 4294967295) hx hb hown (hts (.constantLong RL 49 (4294967295)) (by decide +kernel)) dL_law_221 ?_
  refine lv_land hx hb dL_law_224 ?_
  refine lv_lor hx hb dL_law_225 ?_
  have e_10 : ((((xs (4 * t + 1)).toInt64) <<< ((32 : Int32).toInt64 &&& 63)) ||| (((xs (4 * t + 2)).toInt64) &&& 4294967295) : Int64) = bo (xs (4 * t + 2)) (xs (4 * t + 1)) := rfl
  rw [e_10]
  refine lv_aload_n hx hb dL_law_226 rfl (lv_at hl 1 rfl) ?_
  refine lv_iload hx hb dL_law_227 (lv_at hl 5 rfl) ?_
  refine lv_iconst (v := 3) hx hb dL_law_229 (by decide) ?_
  refine lv_iadd hx hb dL_law_230 ?_
  have e_11 : (nI (4 * t) + (3 : Int32)) = nI (4 * t + 3) := nI_add (4 * t) 3
  rw [e_11]
  refine va_sld hx hb hXs hbl hbA hS (vp_in_nI (by omega) (by omega)) dL_law_231 ?_
  rw [nI_clamp (by omega)]
  have hP : va_P (dC, dI) vwCl (w1 h1 a1 b1 cI cK fb g zt (nI n) (nI c) so nu ty hh pa ch9 zk zl zh zp zq (nI k) ++ (w0 h a b0 cB cJ f g (nI n) (nI c) zg (nI k) ++ wo o cO go)) H := hP.sub [4, 5, 6, 0, 1, 2, 3] rfl
  have hD : va_D (fun q : Nat => s.heap.size ≤ q) (w1 h1 a1 b1 cI cK fb g zt (nI n) (nI c) so nu ty hh pa ch9 zk zl zh zp zq (nI k) ++ (w0 h a b0 cB cJ f g (nI n) (nI c) zg (nI k) ++ wo o cO go)) := hD.sub [4, 5, 6, 0, 1, 2, 3] (by decide) rfl
  refine gji (wc := w1 h1 a1 b1 cI cK fb g zt (nI n) (nI c) so nu ty hh pa ch9 zk zl zh zp zq (nI k)) (wr := w0 h a b0 cB cJ f g (nI n) (nI c) zg (nI k) ++ wo o cO go) (As := [.long (bo (xs (4 * t + 2)) (xs (4 * t + 1))), .int (xs (4 * t + 3))]) (rest := []) ⟨hx, hb, hml, hown, hts⟩ (c_X1_put_b l dC dI tk tw h1 a1 b1 cI cK _ fb g zt (nI n) (nI c) so nu ty hh pa ch9 zk zl zh zp zq (nI k) (bo (xs (4 * t + 2)) (xs (4 * t + 1))) (xs (4 * t + 3)) hb9) (cwV 2 hts gL_law_X1_put rfl rfl rfl (by decide +kernel) ⟨Nat.le_of_ble_eq_true rfl, Nat.le_of_ble_eq_true rfl⟩) hKm hP hD hS hA hZ (q0 := 0) (ci := 1) rfl rfl rfl rfl hl.1 rfl (Nat.le_of_ble_eq_true rfl) dL_law_232 ⟨by show _ ≤ 1042; omega, by show _ ≤ 16674; omega⟩ (fun r_12 u_14 H locs hw_13 hP hD hS => ?_)
  have hP : va_P (dC, dI) vwCl (w1 h1 a1 b1 cI cK fb g 1 (nI n) (nI c) so nu ty hh pa ch9 zk zl zh zp zq (nI k) ++ (w0 h a b0 cB cJ f g (nI n) (nI c) zg (nI k) ++ wo o cO go)) H := hP
  have hD : va_D (fun q : Nat => s.heap.size ≤ q) (w1 h1 a1 b1 cI cK fb g 1 (nI n) (nI c) so nu ty hh pa ch9 zk zl zh zp zq (nI k) ++ (w0 h a b0 cB cJ f g (nI n) (nI c) zg (nI k) ++ wo o cO go)) := hD
  refine lv_istore (lv' := [(6, .int r_12), (5, .int 1), (0, .ref b), (1, .ref h), (2, .ref h1), (3, .ref o), (4, .int (nI (4 * t)))]) hx hb dL_law_235 hl (by decide) rfl (fun ls hl => ?_)
  refine lv_aload_n hx hb dL_law_237 rfl (lv_at hl 4 rfl) ?_
  refine gji (wc := w1 h1 a1 b1 cI cK fb g 1 (nI n) (nI c) so nu ty hh pa ch9 zk zl zh zp zq (nI k)) (wr := w0 h a b0 cB cJ f g (nI n) (nI c) zg (nI k) ++ wo o cO go) (As := []) (rest := []) ⟨hx, hb, hml, hown, hts⟩ (c_X1_thrown l dC dI tk tw h1 a1 b1 cI cK _ fb g 1 (nI n) (nI c) so nu ty hh pa ch9 zk zl zh zp zq (nI k) ) (cwV 0 hts gL_law_X1_thrown rfl rfl rfl (by decide +kernel) ⟨Nat.le_of_ble_eq_true rfl, Nat.le_of_ble_eq_true rfl⟩) hKm hP hD hS hA hZ (q0 := 0) (ci := 1) rfl rfl rfl rfl hl.1 rfl (Nat.le_of_ble_eq_true rfl) dL_law_238 ⟨by show _ ≤ 1042; omega, by show _ ≤ 16674; omega⟩ (fun r_15 u_17 H locs hw_16 hP hD hS => ?_)
  have hP : va_P (dC, dI) vwCl (w1 h1 a1 b1 cI cK fb g 1 (nI n) (nI c) so nu ty hh pa ch9 zk zl zh zp zq (nI k) ++ (w0 h a b0 cB cJ f g (nI n) (nI c) zg (nI k) ++ wo o cO go)) H := hP
  have hD : va_D (fun q : Nat => s.heap.size ≤ q) (w1 h1 a1 b1 cI cK fb g 1 (nI n) (nI c) so nu ty hh pa ch9 zk zl zh zp zq (nI k) ++ (w0 h a b0 cB cJ f g (nI n) (nI c) zg (nI k) ++ wo o cO go)) := hD
  obtain rfl : r_15 = 1 := hw_16
  refine lv_iload hx hb dL_law_241 (lv_at hl 1 rfl) ?_
  refine lv_icmp_eq (tgt := 248) hx hb dL_law_243 (by decide) (fun c_18 => ?_) (fun c_18 => ?_)
  · skip
    refine lv_iload hx hb dL_law_248 (lv_at hl 1 rfl) ?_
    refine lv_if_ne (tgt := 265) hx hb dL_law_250 (by decide) (fun c_19 => ?_) (fun c_19 => ?_)
    · skip
      refine lv_goto (tgt := 644) hx hb dL_law_265 (by decide) ?_
      have hP : va_P (dC, dI) vwCl (w0 h a b0 cB cJ f g (nI n) (nI c) zg (nI k) ++ (w1 h1 a1 b1 cI cK fb g 1 (nI n) (nI c) so nu ty hh pa ch9 zk zl zh zp zq (nI k) ++ wo o cO go)) H := hP.sub [3, 4, 5, 0, 1, 2, 6] rfl
      have hD : va_D (fun q : Nat => s.heap.size ≤ q) (w0 h a b0 cB cJ f g (nI n) (nI c) zg (nI k) ++ (w1 h1 a1 b1 cI cK fb g 1 (nI n) (nI c) so nu ty hh pa ch9 zk zl zh zp zq (nI k) ++ wo o cO go)) := hD.sub [3, 4, 5, 0, 1, 2, 6] (by decide) rfl
      refine W.widen (k := 7 + t + 1) (n := 8416 + 6 * (t + 1)) (by omega) (by omega) ?_
      exact K _ _ _ ⟨n, c, k, f, fb, g, zg, 1, so, nu, ty, hh, pa, ch9, zk, zl, zh, zp, zq, go, hn, hc, hk, hRB, hG, hP, hD, hS, lv_sub hl [2, 3, 4, 5, 6] rfl⟩
    · skip
      exact absurd c_19 (by decide)
  · skip
    exact absurd rfl c_18
set_option maxHeartbeats 4000000 in
set_option maxRecDepth 100000 in
theorem op_cut_g {p : Program} {e : Env} {s : State} {m : MethodId} {below : List Frame} {meth : Method} {cd : Code} {l : Launch} {b L : Nat} {xs : Nat → Int32} {dC : Nat → ClassId} {dI : Nat → Nat → Nat} {tk tw : Nat} {sa : Nat → Nat} {cB cJ cI cK cO : ClassId} {h a b0 h1 a1 b1 o t : Nat} {H : Heap} {locs : List Loc} {ls : Array Slot} (CX : LC l p s m meth cd b L xs dC dI tk tw sa cB cJ cI cK cO) (ht4 : 4 * t + 4 ≤ L) (K : ∀ (H : Heap) (locs : List Loc) (ls : Array Slot), LI s b dC dI h a b0 cB cJ h1 a1 b1 cI cK o cO t H locs ls → W p l e room_1 s m #[Value.ref b] below meth cd H locs (7 + t + 1) (8416 + 6 * (t + 1)) (lw_Z below #[Value.ref b] s) (F0 m 644 ls [])) (n : Nat) (c : Nat) (k : Nat) (f : Nat → Int32) (fb : Nat → Int32) (g : Nat → Int64) (zg : Int32) (zt : Int32) (so : Int32) (nu : Int64) (ty : Int32) (hh : Int32) (pa : Int64) (ch9 : Int64) (zk : Int32) (zl : Int32) (zh : Int32) (zp : Int32) (zq : Int32) (go : Nat → Int64) (hn : n ≤ 4096) (hc : c ≤ n) (hk : k ≤ 100) (hRB : RB n f fb) (hG : GV f c zg zk zl zh zp zq) (hP : va_P (dC, dI) vwCl (w0 h a b0 cB cJ f g (nI n) (nI c) zg (nI k) ++ (w1 h1 a1 b1 cI cK fb g zt (nI n) (nI c) so nu ty hh pa ch9 zk zl zh zp zq (nI k) ++ wo o cO go)) H) (hD : va_D (fun q : Nat => s.heap.size ≤ q) (w0 h a b0 cB cJ f g (nI n) (nI c) zg (nI k) ++ (w1 h1 a1 b1 cI cK fb g zt (nI n) (nI c) so nu ty hh pa ch9 zk zl zh zp zq (nI k) ++ wo o cO go))) (hS : va_S (fun q : Nat => s.heap.size ≤ q) s.heap H locs) (hl : lv_has ls 8 [(0, .ref b), (1, .ref h), (2, .ref h1), (3, .ref o), (4, .int (nI (4 * t)))]) (q : Nat) (hq : q ≤ n - c) (e1 : xs (4 * t + 1) = nI q) : W p l e room_1 s m #[Value.ref b] below meth cd H locs (7 + t) (8416 + 6 * t) (lw_Z below #[Value.ref b] s) (F0 m 268 ls []) := by
  obtain ⟨⟨hx, hb, hr, hml, hown, hts, hXs, hbl, hlocks⟩, hst, hL, hK, hZ, hX⟩ := CX
  have hA : ∀ q : Nat, s.heap.size ≤ q → (fun q : Nat => s.heap.size ≤ q) q := fun _ h => h
  have hbA : ¬ (fun q : Nat => s.heap.size ≤ q) b := Nat.not_le.mpr hbl
  have hKx := hK.sub (tys' := t0 cB cJ) [0, 1] rfl
  have hKm := hK.sub (tys' := t1 cI cK) [2, 3] rfl
  have hKh := hK.sub (tys' := th cB cJ cO) [0, 1, 4] rfl
  refine lv_aload_n hx hb dL_law_268 rfl (lv_at hl 1 rfl) ?_
  refine lv_aload_n hx hb dL_law_269 rfl (lv_at hl 0 rfl) ?_
  refine lv_iload hx hb dL_law_270 (lv_at hl 4 rfl) ?_
  refine lv_iconst (v := 1) hx hb dL_law_272 (by decide) ?_
  refine lv_iadd hx hb dL_law_273 ?_
  have e_1 : (nI (4 * t) + (1 : Int32)) = nI (4 * t + 1) := nI_add (4 * t) 1
  rw [e_1]
  refine va_sld hx hb hXs hbl hbA hS (vp_in_nI (by omega) (by omega)) dL_law_274 ?_
  rw [nI_clamp (by omega)]
  rw [e1]
  refine lv_aload_n hx hb dL_law_275 rfl (lv_at hl 3 rfl) ?_
  have hP : va_P (dC, dI) vwCl ((w0 h a b0 cB cJ f g (nI n) (nI c) zg (nI k) ++ wo o cO go) ++ w1 h1 a1 b1 cI cK fb g zt (nI n) (nI c) so nu ty hh pa ch9 zk zl zh zp zq (nI k)) H := hP.sub [0, 1, 2, 6, 3, 4, 5] rfl
  have hD : va_D (fun q : Nat => s.heap.size ≤ q) ((w0 h a b0 cB cJ f g (nI n) (nI c) zg (nI k) ++ wo o cO go) ++ w1 h1 a1 b1 cI cK fb g zt (nI n) (nI c) so nu ty hh pa ch9 zk zl zh zp zq (nI k)) := hD.sub [0, 1, 2, 6, 3, 4, 5] (by decide) rfl
  refine ghi (wc := w0 h a b0 cB cJ f g (nI n) (nI c) zg (nI k) ++ wo o cO go) (wr := w1 h1 a1 b1 cI cK fb g zt (nI n) (nI c) so nu ty hh pa ch9 zk zl zh zp zq (nI k)) (As := [.ref h, .int (nI q), .ref o]) (rest := []) ⟨hx, hb, hml, hown, hts⟩ (c_L_cut l hst sa dC dI tk tw h a b0 cB cJ o cO go _ f g zg (nI k) n c hn hc q hq) (vx_cwSW 3 hts gL_law_L_cut rfl rfl rfl (by decide +kernel) ⟨Nat.le_of_ble_eq_true rfl, Nat.le_of_ble_eq_true rfl⟩) hKh hP hD hS hA hZ hX rfl hl.1 rfl (Nat.le_of_ble_eq_true rfl) dL_law_276 ⟨by show _ ≤ 1042; omega, by show _ ≤ 16674; omega⟩ (fun r_2 u_4 H locs hw_3 hP hD hS => ?_)
  have hP : va_P (dC, dI) vwCl ((w0 h a b0 cB cJ f g (nI (n - q)) (nI c) zg (nI k) ++ wo o cO (vp_updL go 0 ((nI (n - q)).toInt64))) ++ w1 h1 a1 b1 cI cK fb g zt (nI n) (nI c) so nu ty hh pa ch9 zk zl zh zp zq (nI k)) H := hP
  have hD : va_D (fun q : Nat => s.heap.size ≤ q) ((w0 h a b0 cB cJ f g (nI (n - q)) (nI c) zg (nI k) ++ wo o cO (vp_updL go 0 ((nI (n - q)).toInt64))) ++ w1 h1 a1 b1 cI cK fb g zt (nI n) (nI c) so nu ty hh pa ch9 zk zl zh zp zq (nI k)) := hD
  obtain rfl : r_2 = 0 := hw_3
  refine lv_istore (lv' := [(5, .int 0), (0, .ref b), (1, .ref h), (2, .ref h1), (3, .ref o), (4, .int (nI (4 * t)))]) hx hb dL_law_279 hl (by decide) rfl (fun ls hl => ?_)
  refine lv_aload_n hx hb dL_law_281 rfl (lv_at hl 3 rfl) ?_
  refine lv_aload_n hx hb dL_law_282 rfl (lv_at hl 1 rfl) ?_
  refine lv_iload hx hb dL_law_283 (lv_at hl 5 rfl) ?_
  refine lv_iconst (v := 1) hx hb dL_law_285 (by decide) ?_
  refine lv_iadd hx hb dL_law_286 ?_
  have e_5 : (nI (4 * t) + (1 : Int32)) = nI (4 * t + 1) := nI_add (4 * t) 1
  rw [e_5]
  refine va_sld hx hb hXs hbl hbA hS (vp_in_nI (by omega) (by omega)) dL_law_287 ?_
  rw [nI_clamp (by omega)]
  rw [e1]
  have hP : va_P (dC, dI) vwCl (w1 h1 a1 b1 cI cK fb g zt (nI n) (nI c) so nu ty hh pa ch9 zk zl zh zp zq (nI k) ++ (w0 h a b0 cB cJ f g (nI (n - q)) (nI c) zg (nI k) ++ wo o cO (vp_updL go 0 ((nI (n - q)).toInt64)))) H := hP.sub [4, 5, 6, 0, 1, 2, 3] rfl
  have hD : va_D (fun q : Nat => s.heap.size ≤ q) (w1 h1 a1 b1 cI cK fb g zt (nI n) (nI c) so nu ty hh pa ch9 zk zl zh zp zq (nI k) ++ (w0 h a b0 cB cJ f g (nI (n - q)) (nI c) zg (nI k) ++ wo o cO (vp_updL go 0 ((nI (n - q)).toInt64)))) := hD.sub [4, 5, 6, 0, 1, 2, 3] (by decide) rfl
  refine gji (wc := w1 h1 a1 b1 cI cK fb g zt (nI n) (nI c) so nu ty hh pa ch9 zk zl zh zp zq (nI k)) (wr := w0 h a b0 cB cJ f g (nI (n - q)) (nI c) zg (nI k) ++ wo o cO (vp_updL go 0 ((nI (n - q)).toInt64))) (As := [.int (nI q)]) (rest := []) ⟨hx, hb, hml, hown, hts⟩ (c_X1_cut l dC dI tk tw h1 a1 b1 cI cK _ fb g zt so nu ty hh pa ch9 zk zl zh zp zq (nI k) n c hn hc q hq) (cwV 1 hts gL_law_X1_cut rfl rfl rfl (by decide +kernel) ⟨Nat.le_of_ble_eq_true rfl, Nat.le_of_ble_eq_true rfl⟩) hKm hP hD hS hA hZ (q0 := 0) (ci := 1) rfl rfl rfl rfl hl.1 rfl (Nat.le_of_ble_eq_true rfl) dL_law_288 ⟨by show _ ≤ 1042; omega, by show _ ≤ 16674; omega⟩ (fun r_6 u_8 H locs hw_7 hP hD hS => ?_)
  have hP : va_P (dC, dI) vwCl (w1 h1 a1 b1 cI cK fb g 0 (nI (n - q)) (nI c) so nu ty hh pa ch9 zk zl zh zp zq (nI k) ++ (w0 h a b0 cB cJ f g (nI (n - q)) (nI c) zg (nI k) ++ wo o cO (vp_updL go 0 ((nI (n - q)).toInt64)))) H := hP
  have hD : va_D (fun q : Nat => s.heap.size ≤ q) (w1 h1 a1 b1 cI cK fb g 0 (nI (n - q)) (nI c) so nu ty hh pa ch9 zk zl zh zp zq (nI k) ++ (w0 h a b0 cB cJ f g (nI (n - q)) (nI c) zg (nI k) ++ wo o cO (vp_updL go 0 ((nI (n - q)).toInt64)))) := hD
  obtain rfl : r_6 = nI (n - q) := hw_7
  refine lv_istore (lv' := [(6, .int (nI (n - q))), (5, .int 0), (0, .ref b), (1, .ref h), (2, .ref h1), (3, .ref o), (4, .int (nI (4 * t)))]) hx hb dL_law_291 hl (by decide) rfl (fun ls hl => ?_)
  refine lv_aload_n hx hb dL_law_293 rfl (lv_at hl 4 rfl) ?_
  refine gji (wc := w1 h1 a1 b1 cI cK fb g 0 (nI (n - q)) (nI c) so nu ty hh pa ch9 zk zl zh zp zq (nI k)) (wr := w0 h a b0 cB cJ f g (nI (n - q)) (nI c) zg (nI k) ++ wo o cO (vp_updL go 0 ((nI (n - q)).toInt64))) (As := []) (rest := []) ⟨hx, hb, hml, hown, hts⟩ (c_X1_thrown l dC dI tk tw h1 a1 b1 cI cK _ fb g 0 (nI (n - q)) (nI c) so nu ty hh pa ch9 zk zl zh zp zq (nI k) ) (cwV 0 hts gL_law_X1_thrown rfl rfl rfl (by decide +kernel) ⟨Nat.le_of_ble_eq_true rfl, Nat.le_of_ble_eq_true rfl⟩) hKm hP hD hS hA hZ (q0 := 0) (ci := 1) rfl rfl rfl rfl hl.1 rfl (Nat.le_of_ble_eq_true rfl) dL_law_294 ⟨by show _ ≤ 1042; omega, by show _ ≤ 16674; omega⟩ (fun r_9 u_11 H locs hw_10 hP hD hS => ?_)
  have hP : va_P (dC, dI) vwCl (w1 h1 a1 b1 cI cK fb g 0 (nI (n - q)) (nI c) so nu ty hh pa ch9 zk zl zh zp zq (nI k) ++ (w0 h a b0 cB cJ f g (nI (n - q)) (nI c) zg (nI k) ++ wo o cO (vp_updL go 0 ((nI (n - q)).toInt64)))) H := hP
  have hD : va_D (fun q : Nat => s.heap.size ≤ q) (w1 h1 a1 b1 cI cK fb g 0 (nI (n - q)) (nI c) so nu ty hh pa ch9 zk zl zh zp zq (nI k) ++ (w0 h a b0 cB cJ f g (nI (n - q)) (nI c) zg (nI k) ++ wo o cO (vp_updL go 0 ((nI (n - q)).toInt64)))) := hD
  obtain rfl : r_9 = 0 := hw_10
  refine lv_iload hx hb dL_law_297 (lv_at hl 1 rfl) ?_
  refine lv_icmp_eq (tgt := 304) hx hb dL_law_299 (by decide) (fun c_12 => ?_) (fun c_12 => ?_)
  · skip
    refine lv_iload hx hb dL_law_304 (lv_at hl 1 rfl) ?_
    refine lv_if_ne (tgt := 321) hx hb dL_law_306 (by decide) (fun c_13 => ?_) (fun c_13 => ?_)
    · skip
      exact absurd (by decide) c_13
    · skip
      refine lv_aload_n hx hb dL_law_309 rfl (lv_at hl 5 rfl) ?_
      refine lv_iconst (v := 0) hx hb dL_law_310 (by decide) ?_
      refine va_lald hx hb hK hP 6 4 rfl rfl vp01 dL_law_311 ?_
      have e_14 : (vp_updL go 0 ((nI (n - q)).toInt64) (0 : Int32).toNatClampNeg : Int64) = ((nI (n - q)).toInt64) := pk_uLs
      rw [e_14]
      refine lv_iload hx hb dL_law_312 (lv_at hl 0 rfl) ?_
      refine lv_i2l hx hb dL_law_314 rfl ?_
      refine W.lcmp hx hb dL_law_315 ?_
      refine lv_if_eq (tgt := 321) hx hb dL_law_316 (by decide) (fun c_15 => ?_) (fun c_15 => ?_)
      · skip
        have c_15 := (lg_cmp_eq ((nI (n - q)).toInt64) ((nI (n - q)).toInt64)).mp c_15
        refine lv_goto (tgt := 644) hx hb dL_law_321 (by decide) ?_
        have hP : va_P (dC, dI) vwCl (w0 h a b0 cB cJ f g (nI (n - q)) (nI c) zg (nI k) ++ (w1 h1 a1 b1 cI cK fb g 0 (nI (n - q)) (nI c) so nu ty hh pa ch9 zk zl zh zp zq (nI k) ++ wo o cO (vp_updL go 0 ((nI (n - q)).toInt64)))) H := hP.sub [3, 4, 5, 0, 1, 2, 6] rfl
        have hD : va_D (fun q : Nat => s.heap.size ≤ q) (w0 h a b0 cB cJ f g (nI (n - q)) (nI c) zg (nI k) ++ (w1 h1 a1 b1 cI cK fb g 0 (nI (n - q)) (nI c) so nu ty hh pa ch9 zk zl zh zp zq (nI k) ++ wo o cO (vp_updL go 0 ((nI (n - q)).toInt64)))) := hD.sub [3, 4, 5, 0, 1, 2, 6] (by decide) rfl
        refine W.widen (k := 7 + t + 1) (n := 8416 + 6 * (t + 1)) (by omega) (by omega) ?_
        exact K _ _ _ ⟨n - q, c, k, f, fb, g, zg, 0, so, nu, ty, hh, pa, ch9, zk, zl, zh, zp, zq, vp_updL go 0 ((nI (n - q)).toInt64), (by omega), (by omega), hk, (RB_cut hRB (by omega)), hG, hP, hD, hS, lv_sub hl [2, 3, 4, 5, 6] rfl⟩
      · skip
        have c_15 := (not_congr (lg_cmp_eq ((nI (n - q)).toInt64) ((nI (n - q)).toInt64))).mp c_15
        exact absurd (rfl) c_15
  · skip
    exact absurd rfl c_12
set_option maxHeartbeats 4000000 in
set_option maxRecDepth 100000 in
theorem op_cut_b {p : Program} {e : Env} {s : State} {m : MethodId} {below : List Frame} {meth : Method} {cd : Code} {l : Launch} {b L : Nat} {xs : Nat → Int32} {dC : Nat → ClassId} {dI : Nat → Nat → Nat} {tk tw : Nat} {sa : Nat → Nat} {cB cJ cI cK cO : ClassId} {h a b0 h1 a1 b1 o t : Nat} {H : Heap} {locs : List Loc} {ls : Array Slot} (CX : LC l p s m meth cd b L xs dC dI tk tw sa cB cJ cI cK cO) (ht4 : 4 * t + 4 ≤ L) (K : ∀ (H : Heap) (locs : List Loc) (ls : Array Slot), LI s b dC dI h a b0 cB cJ h1 a1 b1 cI cK o cO t H locs ls → W p l e room_1 s m #[Value.ref b] below meth cd H locs (7 + t + 1) (8416 + 6 * (t + 1)) (lw_Z below #[Value.ref b] s) (F0 m 644 ls [])) (n : Nat) (c : Nat) (k : Nat) (f : Nat → Int32) (fb : Nat → Int32) (g : Nat → Int64) (zg : Int32) (zt : Int32) (so : Int32) (nu : Int64) (ty : Int32) (hh : Int32) (pa : Int64) (ch9 : Int64) (zk : Int32) (zl : Int32) (zh : Int32) (zp : Int32) (zq : Int32) (go : Nat → Int64) (hn : n ≤ 4096) (hc : c ≤ n) (hk : k ≤ 100) (hRB : RB n f fb) (hG : GV f c zg zk zl zh zp zq) (hP : va_P (dC, dI) vwCl (w0 h a b0 cB cJ f g (nI n) (nI c) zg (nI k) ++ (w1 h1 a1 b1 cI cK fb g zt (nI n) (nI c) so nu ty hh pa ch9 zk zl zh zp zq (nI k) ++ wo o cO go)) H) (hD : va_D (fun q : Nat => s.heap.size ≤ q) (w0 h a b0 cB cJ f g (nI n) (nI c) zg (nI k) ++ (w1 h1 a1 b1 cI cK fb g zt (nI n) (nI c) so nu ty hh pa ch9 zk zl zh zp zq (nI k) ++ wo o cO go))) (hS : va_S (fun q : Nat => s.heap.size ≤ q) s.heap H locs) (hl : lv_has ls 8 [(0, .ref b), (1, .ref h), (2, .ref h1), (3, .ref o), (4, .int (nI (4 * t)))]) (hb9 : xs (4 * t + 1) < 0 ∨ nI (n - c) < xs (4 * t + 1)) : W p l e room_1 s m #[Value.ref b] below meth cd H locs (7 + t) (8416 + 6 * t) (lw_Z below #[Value.ref b] s) (F0 m 268 ls []) := by
  obtain ⟨⟨hx, hb, hr, hml, hown, hts, hXs, hbl, hlocks⟩, hst, hL, hK, hZ, hX⟩ := CX
  have hA : ∀ q : Nat, s.heap.size ≤ q → (fun q : Nat => s.heap.size ≤ q) q := fun _ h => h
  have hbA : ¬ (fun q : Nat => s.heap.size ≤ q) b := Nat.not_le.mpr hbl
  have hKx := hK.sub (tys' := t0 cB cJ) [0, 1] rfl
  have hKm := hK.sub (tys' := t1 cI cK) [2, 3] rfl
  have hKh := hK.sub (tys' := th cB cJ cO) [0, 1, 4] rfl
  refine lv_aload_n hx hb dL_law_268 rfl (lv_at hl 1 rfl) ?_
  refine lv_aload_n hx hb dL_law_269 rfl (lv_at hl 0 rfl) ?_
  refine lv_iload hx hb dL_law_270 (lv_at hl 4 rfl) ?_
  refine lv_iconst (v := 1) hx hb dL_law_272 (by decide) ?_
  refine lv_iadd hx hb dL_law_273 ?_
  have e_1 : (nI (4 * t) + (1 : Int32)) = nI (4 * t + 1) := nI_add (4 * t) 1
  rw [e_1]
  refine va_sld hx hb hXs hbl hbA hS (vp_in_nI (by omega) (by omega)) dL_law_274 ?_
  rw [nI_clamp (by omega)]
  refine lv_aload_n hx hb dL_law_275 rfl (lv_at hl 3 rfl) ?_
  have hP : va_P (dC, dI) vwCl ((w0 h a b0 cB cJ f g (nI n) (nI c) zg (nI k) ++ wo o cO go) ++ w1 h1 a1 b1 cI cK fb g zt (nI n) (nI c) so nu ty hh pa ch9 zk zl zh zp zq (nI k)) H := hP.sub [0, 1, 2, 6, 3, 4, 5] rfl
  have hD : va_D (fun q : Nat => s.heap.size ≤ q) ((w0 h a b0 cB cJ f g (nI n) (nI c) zg (nI k) ++ wo o cO go) ++ w1 h1 a1 b1 cI cK fb g zt (nI n) (nI c) so nu ty hh pa ch9 zk zl zh zp zq (nI k)) := hD.sub [0, 1, 2, 6, 3, 4, 5] (by decide) rfl
  refine ghi (wc := w0 h a b0 cB cJ f g (nI n) (nI c) zg (nI k) ++ wo o cO go) (wr := w1 h1 a1 b1 cI cK fb g zt (nI n) (nI c) so nu ty hh pa ch9 zk zl zh zp zq (nI k)) (As := [.ref h, .int (xs (4 * t + 1)), .ref o]) (rest := []) ⟨hx, hb, hml, hown, hts⟩ (c_L_cut_b l hst sa dC dI tk tw h a b0 cB cJ o cO go _ f g zg (nI k) n c hn hc (xs (4 * t + 1)) hb9) (vx_cwSW 3 hts gL_law_L_cut rfl rfl rfl (by decide +kernel) ⟨Nat.le_of_ble_eq_true rfl, Nat.le_of_ble_eq_true rfl⟩) hKh hP hD hS hA hZ hX rfl hl.1 rfl (Nat.le_of_ble_eq_true rfl) dL_law_276 ⟨by show _ ≤ 1042; omega, by show _ ≤ 16674; omega⟩ (fun r_2 u_4 H locs hw_3 hP hD hS => ?_)
  have hP : va_P (dC, dI) vwCl ((w0 h a b0 cB cJ f g (nI n) (nI c) zg (nI k) ++ wo o cO go) ++ w1 h1 a1 b1 cI cK fb g zt (nI n) (nI c) so nu ty hh pa ch9 zk zl zh zp zq (nI k)) H := hP
  have hD : va_D (fun q : Nat => s.heap.size ≤ q) ((w0 h a b0 cB cJ f g (nI n) (nI c) zg (nI k) ++ wo o cO go) ++ w1 h1 a1 b1 cI cK fb g zt (nI n) (nI c) so nu ty hh pa ch9 zk zl zh zp zq (nI k)) := hD
  obtain rfl : r_2 = 1 := hw_3
  refine lv_istore (lv' := [(5, .int 1), (0, .ref b), (1, .ref h), (2, .ref h1), (3, .ref o), (4, .int (nI (4 * t)))]) hx hb dL_law_279 hl (by decide) rfl (fun ls hl => ?_)
  refine lv_aload_n hx hb dL_law_281 rfl (lv_at hl 3 rfl) ?_
  refine lv_aload_n hx hb dL_law_282 rfl (lv_at hl 1 rfl) ?_
  refine lv_iload hx hb dL_law_283 (lv_at hl 5 rfl) ?_
  refine lv_iconst (v := 1) hx hb dL_law_285 (by decide) ?_
  refine lv_iadd hx hb dL_law_286 ?_
  have e_5 : (nI (4 * t) + (1 : Int32)) = nI (4 * t + 1) := nI_add (4 * t) 1
  rw [e_5]
  refine va_sld hx hb hXs hbl hbA hS (vp_in_nI (by omega) (by omega)) dL_law_287 ?_
  rw [nI_clamp (by omega)]
  have hP : va_P (dC, dI) vwCl (w1 h1 a1 b1 cI cK fb g zt (nI n) (nI c) so nu ty hh pa ch9 zk zl zh zp zq (nI k) ++ (w0 h a b0 cB cJ f g (nI n) (nI c) zg (nI k) ++ wo o cO go)) H := hP.sub [4, 5, 6, 0, 1, 2, 3] rfl
  have hD : va_D (fun q : Nat => s.heap.size ≤ q) (w1 h1 a1 b1 cI cK fb g zt (nI n) (nI c) so nu ty hh pa ch9 zk zl zh zp zq (nI k) ++ (w0 h a b0 cB cJ f g (nI n) (nI c) zg (nI k) ++ wo o cO go)) := hD.sub [4, 5, 6, 0, 1, 2, 3] (by decide) rfl
  refine gji (wc := w1 h1 a1 b1 cI cK fb g zt (nI n) (nI c) so nu ty hh pa ch9 zk zl zh zp zq (nI k)) (wr := w0 h a b0 cB cJ f g (nI n) (nI c) zg (nI k) ++ wo o cO go) (As := [.int (xs (4 * t + 1))]) (rest := []) ⟨hx, hb, hml, hown, hts⟩ (c_X1_cut_b l dC dI tk tw h1 a1 b1 cI cK _ fb g zt so nu ty hh pa ch9 zk zl zh zp zq (nI k) n c hn hc (xs (4 * t + 1)) hb9) (cwV 1 hts gL_law_X1_cut rfl rfl rfl (by decide +kernel) ⟨Nat.le_of_ble_eq_true rfl, Nat.le_of_ble_eq_true rfl⟩) hKm hP hD hS hA hZ (q0 := 0) (ci := 1) rfl rfl rfl rfl hl.1 rfl (Nat.le_of_ble_eq_true rfl) dL_law_288 ⟨by show _ ≤ 1042; omega, by show _ ≤ 16674; omega⟩ (fun r_6 u_8 H locs hw_7 hP hD hS => ?_)
  have hP : va_P (dC, dI) vwCl (w1 h1 a1 b1 cI cK fb g 1 (nI n) (nI c) so nu ty hh pa ch9 zk zl zh zp zq (nI k) ++ (w0 h a b0 cB cJ f g (nI n) (nI c) zg (nI k) ++ wo o cO go)) H := hP
  have hD : va_D (fun q : Nat => s.heap.size ≤ q) (w1 h1 a1 b1 cI cK fb g 1 (nI n) (nI c) so nu ty hh pa ch9 zk zl zh zp zq (nI k) ++ (w0 h a b0 cB cJ f g (nI n) (nI c) zg (nI k) ++ wo o cO go)) := hD
  refine lv_istore (lv' := [(6, .int r_6), (5, .int 1), (0, .ref b), (1, .ref h), (2, .ref h1), (3, .ref o), (4, .int (nI (4 * t)))]) hx hb dL_law_291 hl (by decide) rfl (fun ls hl => ?_)
  refine lv_aload_n hx hb dL_law_293 rfl (lv_at hl 4 rfl) ?_
  refine gji (wc := w1 h1 a1 b1 cI cK fb g 1 (nI n) (nI c) so nu ty hh pa ch9 zk zl zh zp zq (nI k)) (wr := w0 h a b0 cB cJ f g (nI n) (nI c) zg (nI k) ++ wo o cO go) (As := []) (rest := []) ⟨hx, hb, hml, hown, hts⟩ (c_X1_thrown l dC dI tk tw h1 a1 b1 cI cK _ fb g 1 (nI n) (nI c) so nu ty hh pa ch9 zk zl zh zp zq (nI k) ) (cwV 0 hts gL_law_X1_thrown rfl rfl rfl (by decide +kernel) ⟨Nat.le_of_ble_eq_true rfl, Nat.le_of_ble_eq_true rfl⟩) hKm hP hD hS hA hZ (q0 := 0) (ci := 1) rfl rfl rfl rfl hl.1 rfl (Nat.le_of_ble_eq_true rfl) dL_law_294 ⟨by show _ ≤ 1042; omega, by show _ ≤ 16674; omega⟩ (fun r_9 u_11 H locs hw_10 hP hD hS => ?_)
  have hP : va_P (dC, dI) vwCl (w1 h1 a1 b1 cI cK fb g 1 (nI n) (nI c) so nu ty hh pa ch9 zk zl zh zp zq (nI k) ++ (w0 h a b0 cB cJ f g (nI n) (nI c) zg (nI k) ++ wo o cO go)) H := hP
  have hD : va_D (fun q : Nat => s.heap.size ≤ q) (w1 h1 a1 b1 cI cK fb g 1 (nI n) (nI c) so nu ty hh pa ch9 zk zl zh zp zq (nI k) ++ (w0 h a b0 cB cJ f g (nI n) (nI c) zg (nI k) ++ wo o cO go)) := hD
  obtain rfl : r_9 = 1 := hw_10
  refine lv_iload hx hb dL_law_297 (lv_at hl 1 rfl) ?_
  refine lv_icmp_eq (tgt := 304) hx hb dL_law_299 (by decide) (fun c_12 => ?_) (fun c_12 => ?_)
  · skip
    refine lv_iload hx hb dL_law_304 (lv_at hl 1 rfl) ?_
    refine lv_if_ne (tgt := 321) hx hb dL_law_306 (by decide) (fun c_13 => ?_) (fun c_13 => ?_)
    · skip
      refine lv_goto (tgt := 644) hx hb dL_law_321 (by decide) ?_
      have hP : va_P (dC, dI) vwCl (w0 h a b0 cB cJ f g (nI n) (nI c) zg (nI k) ++ (w1 h1 a1 b1 cI cK fb g 1 (nI n) (nI c) so nu ty hh pa ch9 zk zl zh zp zq (nI k) ++ wo o cO go)) H := hP.sub [3, 4, 5, 0, 1, 2, 6] rfl
      have hD : va_D (fun q : Nat => s.heap.size ≤ q) (w0 h a b0 cB cJ f g (nI n) (nI c) zg (nI k) ++ (w1 h1 a1 b1 cI cK fb g 1 (nI n) (nI c) so nu ty hh pa ch9 zk zl zh zp zq (nI k) ++ wo o cO go)) := hD.sub [3, 4, 5, 0, 1, 2, 6] (by decide) rfl
      refine W.widen (k := 7 + t + 1) (n := 8416 + 6 * (t + 1)) (by omega) (by omega) ?_
      exact K _ _ _ ⟨n, c, k, f, fb, g, zg, 1, so, nu, ty, hh, pa, ch9, zk, zl, zh, zp, zq, go, hn, hc, hk, hRB, hG, hP, hD, hS, lv_sub hl [2, 3, 4, 5, 6] rfl⟩
    · skip
      exact absurd c_13 (by decide)
  · skip
    exact absurd rfl c_12
set_option maxHeartbeats 4000000 in
set_option maxRecDepth 100000 in
theorem op_byteAt_g {p : Program} {e : Env} {s : State} {m : MethodId} {below : List Frame} {meth : Method} {cd : Code} {l : Launch} {b L : Nat} {xs : Nat → Int32} {dC : Nat → ClassId} {dI : Nat → Nat → Nat} {tk tw : Nat} {sa : Nat → Nat} {cB cJ cI cK cO : ClassId} {h a b0 h1 a1 b1 o t : Nat} {H : Heap} {locs : List Loc} {ls : Array Slot} (CX : LC l p s m meth cd b L xs dC dI tk tw sa cB cJ cI cK cO) (ht4 : 4 * t + 4 ≤ L) (K : ∀ (H : Heap) (locs : List Loc) (ls : Array Slot), LI s b dC dI h a b0 cB cJ h1 a1 b1 cI cK o cO t H locs ls → W p l e room_1 s m #[Value.ref b] below meth cd H locs (7 + t + 1) (8416 + 6 * (t + 1)) (lw_Z below #[Value.ref b] s) (F0 m 644 ls [])) (n : Nat) (c : Nat) (k : Nat) (f : Nat → Int32) (fb : Nat → Int32) (g : Nat → Int64) (zg : Int32) (zt : Int32) (so : Int32) (nu : Int64) (ty : Int32) (hh : Int32) (pa : Int64) (ch9 : Int64) (zk : Int32) (zl : Int32) (zh : Int32) (zp : Int32) (zq : Int32) (go : Nat → Int64) (hn : n ≤ 4096) (hc : c ≤ n) (hk : k ≤ 100) (hRB : RB n f fb) (hG : GV f c zg zk zl zh zp zq) (hP : va_P (dC, dI) vwCl (w0 h a b0 cB cJ f g (nI n) (nI c) zg (nI k) ++ (w1 h1 a1 b1 cI cK fb g zt (nI n) (nI c) so nu ty hh pa ch9 zk zl zh zp zq (nI k) ++ wo o cO go)) H) (hD : va_D (fun q : Nat => s.heap.size ≤ q) (w0 h a b0 cB cJ f g (nI n) (nI c) zg (nI k) ++ (w1 h1 a1 b1 cI cK fb g zt (nI n) (nI c) so nu ty hh pa ch9 zk zl zh zp zq (nI k) ++ wo o cO go))) (hS : va_S (fun q : Nat => s.heap.size ≤ q) s.heap H locs) (hl : lv_has ls 8 [(0, .ref b), (1, .ref h), (2, .ref h1), (3, .ref o), (4, .int (nI (4 * t)))]) (j : Nat) (hj : j < n) (e1 : xs (4 * t + 1) = nI j) : W p l e room_1 s m #[Value.ref b] below meth cd H locs (7 + t) (8416 + 6 * t) (lw_Z below #[Value.ref b] s) (F0 m 324 ls []) := by
  obtain ⟨⟨hx, hb, hr, hml, hown, hts, hXs, hbl, hlocks⟩, hst, hL, hK, hZ, hX⟩ := CX
  have hA : ∀ q : Nat, s.heap.size ≤ q → (fun q : Nat => s.heap.size ≤ q) q := fun _ h => h
  have hbA : ¬ (fun q : Nat => s.heap.size ≤ q) b := Nat.not_le.mpr hbl
  have hKx := hK.sub (tys' := t0 cB cJ) [0, 1] rfl
  have hKm := hK.sub (tys' := t1 cI cK) [2, 3] rfl
  have hKh := hK.sub (tys' := th cB cJ cO) [0, 1, 4] rfl
  refine lv_aload_n hx hb dL_law_324 rfl (lv_at hl 1 rfl) ?_
  refine lv_aload_n hx hb dL_law_325 rfl (lv_at hl 0 rfl) ?_
  refine lv_iload hx hb dL_law_326 (lv_at hl 4 rfl) ?_
  refine lv_iconst (v := 1) hx hb dL_law_328 (by decide) ?_
  refine lv_iadd hx hb dL_law_329 ?_
  have e_1 : (nI (4 * t) + (1 : Int32)) = nI (4 * t + 1) := nI_add (4 * t) 1
  rw [e_1]
  refine va_sld hx hb hXs hbl hbA hS (vp_in_nI (by omega) (by omega)) dL_law_330 ?_
  rw [nI_clamp (by omega)]
  rw [e1]
  refine lv_aload_n hx hb dL_law_331 rfl (lv_at hl 3 rfl) ?_
  have hP : va_P (dC, dI) vwCl ((w0 h a b0 cB cJ f g (nI n) (nI c) zg (nI k) ++ wo o cO go) ++ w1 h1 a1 b1 cI cK fb g zt (nI n) (nI c) so nu ty hh pa ch9 zk zl zh zp zq (nI k)) H := hP.sub [0, 1, 2, 6, 3, 4, 5] rfl
  have hD : va_D (fun q : Nat => s.heap.size ≤ q) ((w0 h a b0 cB cJ f g (nI n) (nI c) zg (nI k) ++ wo o cO go) ++ w1 h1 a1 b1 cI cK fb g zt (nI n) (nI c) so nu ty hh pa ch9 zk zl zh zp zq (nI k)) := hD.sub [0, 1, 2, 6, 3, 4, 5] (by decide) rfl
  refine ghi (wc := w0 h a b0 cB cJ f g (nI n) (nI c) zg (nI k) ++ wo o cO go) (wr := w1 h1 a1 b1 cI cK fb g zt (nI n) (nI c) so nu ty hh pa ch9 zk zl zh zp zq (nI k)) (As := [.ref h, .int (nI j), .ref o]) (rest := []) ⟨hx, hb, hml, hown, hts⟩ (c_L_byteAt l hst sa dC dI tk tw h a b0 cB cJ o cO go _ f g (nI c) zg (nI k) n hn j hj) (vx_cwSW 3 hts gL_law_L_byteAt rfl rfl rfl (by decide +kernel) ⟨Nat.le_of_ble_eq_true rfl, Nat.le_of_ble_eq_true rfl⟩) hKh hP hD hS hA hZ hX rfl hl.1 rfl (Nat.le_of_ble_eq_true rfl) dL_law_332 ⟨by show _ ≤ 1042; omega, by show _ ≤ 16674; omega⟩ (fun r_2 u_4 H locs hw_3 hP hD hS => ?_)
  have hP : va_P (dC, dI) vwCl ((w0 h a b0 cB cJ f g (nI n) (nI c) zg (nI k) ++ wo o cO (vp_updL go 0 ((nI (bY f j)).toInt64))) ++ w1 h1 a1 b1 cI cK fb g zt (nI n) (nI c) so nu ty hh pa ch9 zk zl zh zp zq (nI k)) H := hP
  have hD : va_D (fun q : Nat => s.heap.size ≤ q) ((w0 h a b0 cB cJ f g (nI n) (nI c) zg (nI k) ++ wo o cO (vp_updL go 0 ((nI (bY f j)).toInt64))) ++ w1 h1 a1 b1 cI cK fb g zt (nI n) (nI c) so nu ty hh pa ch9 zk zl zh zp zq (nI k)) := hD
  obtain rfl : r_2 = 0 := hw_3
  refine lv_istore (lv' := [(5, .int 0), (0, .ref b), (1, .ref h), (2, .ref h1), (3, .ref o), (4, .int (nI (4 * t)))]) hx hb dL_law_335 hl (by decide) rfl (fun ls hl => ?_)
  refine lv_aload_n hx hb dL_law_337 rfl (lv_at hl 3 rfl) ?_
  refine lv_aload_n hx hb dL_law_338 rfl (lv_at hl 1 rfl) ?_
  refine lv_iload hx hb dL_law_339 (lv_at hl 5 rfl) ?_
  refine lv_iconst (v := 1) hx hb dL_law_341 (by decide) ?_
  refine lv_iadd hx hb dL_law_342 ?_
  have e_5 : (nI (4 * t) + (1 : Int32)) = nI (4 * t + 1) := nI_add (4 * t) 1
  rw [e_5]
  refine va_sld hx hb hXs hbl hbA hS (vp_in_nI (by omega) (by omega)) dL_law_343 ?_
  rw [nI_clamp (by omega)]
  rw [e1]
  have hP : va_P (dC, dI) vwCl (w1 h1 a1 b1 cI cK fb g zt (nI n) (nI c) so nu ty hh pa ch9 zk zl zh zp zq (nI k) ++ (w0 h a b0 cB cJ f g (nI n) (nI c) zg (nI k) ++ wo o cO (vp_updL go 0 ((nI (bY f j)).toInt64)))) H := hP.sub [4, 5, 6, 0, 1, 2, 3] rfl
  have hD : va_D (fun q : Nat => s.heap.size ≤ q) (w1 h1 a1 b1 cI cK fb g zt (nI n) (nI c) so nu ty hh pa ch9 zk zl zh zp zq (nI k) ++ (w0 h a b0 cB cJ f g (nI n) (nI c) zg (nI k) ++ wo o cO (vp_updL go 0 ((nI (bY f j)).toInt64)))) := hD.sub [4, 5, 6, 0, 1, 2, 3] (by decide) rfl
  refine gji (wc := w1 h1 a1 b1 cI cK fb g zt (nI n) (nI c) so nu ty hh pa ch9 zk zl zh zp zq (nI k)) (wr := w0 h a b0 cB cJ f g (nI n) (nI c) zg (nI k) ++ wo o cO (vp_updL go 0 ((nI (bY f j)).toInt64))) (As := [.int (nI j)]) (rest := []) ⟨hx, hb, hml, hown, hts⟩ (c_X1_byteAt l dC dI tk tw h1 a1 b1 cI cK _ fb g zt (nI c) so nu ty hh pa ch9 zk zl zh zp zq (nI k) n hn j hj) (cwV 1 hts gL_law_X1_byteAt rfl rfl rfl (by decide +kernel) ⟨Nat.le_of_ble_eq_true rfl, Nat.le_of_ble_eq_true rfl⟩) hKm hP hD hS hA hZ (q0 := 0) (ci := 1) rfl rfl rfl rfl hl.1 rfl (Nat.le_of_ble_eq_true rfl) dL_law_344 ⟨by show _ ≤ 1042; omega, by show _ ≤ 16674; omega⟩ (fun r_6 u_8 H locs hw_7 hP hD hS => ?_)
  have hP : va_P (dC, dI) vwCl (w1 h1 a1 b1 cI cK fb g 0 (nI n) (nI c) so nu ty hh pa ch9 zk zl zh zp zq (nI k) ++ (w0 h a b0 cB cJ f g (nI n) (nI c) zg (nI k) ++ wo o cO (vp_updL go 0 ((nI (bY f j)).toInt64)))) H := hP
  have hD : va_D (fun q : Nat => s.heap.size ≤ q) (w1 h1 a1 b1 cI cK fb g 0 (nI n) (nI c) so nu ty hh pa ch9 zk zl zh zp zq (nI k) ++ (w0 h a b0 cB cJ f g (nI n) (nI c) zg (nI k) ++ wo o cO (vp_updL go 0 ((nI (bY f j)).toInt64)))) := hD
  obtain rfl : r_6 = fb j := hw_7
  refine lv_istore (lv' := [(6, .int (fb j)), (5, .int 0), (0, .ref b), (1, .ref h), (2, .ref h1), (3, .ref o), (4, .int (nI (4 * t)))]) hx hb dL_law_347 hl (by decide) rfl (fun ls hl => ?_)
  refine lv_aload_n hx hb dL_law_349 rfl (lv_at hl 4 rfl) ?_
  refine gji (wc := w1 h1 a1 b1 cI cK fb g 0 (nI n) (nI c) so nu ty hh pa ch9 zk zl zh zp zq (nI k)) (wr := w0 h a b0 cB cJ f g (nI n) (nI c) zg (nI k) ++ wo o cO (vp_updL go 0 ((nI (bY f j)).toInt64))) (As := []) (rest := []) ⟨hx, hb, hml, hown, hts⟩ (c_X1_thrown l dC dI tk tw h1 a1 b1 cI cK _ fb g 0 (nI n) (nI c) so nu ty hh pa ch9 zk zl zh zp zq (nI k) ) (cwV 0 hts gL_law_X1_thrown rfl rfl rfl (by decide +kernel) ⟨Nat.le_of_ble_eq_true rfl, Nat.le_of_ble_eq_true rfl⟩) hKm hP hD hS hA hZ (q0 := 0) (ci := 1) rfl rfl rfl rfl hl.1 rfl (Nat.le_of_ble_eq_true rfl) dL_law_350 ⟨by show _ ≤ 1042; omega, by show _ ≤ 16674; omega⟩ (fun r_9 u_11 H locs hw_10 hP hD hS => ?_)
  have hP : va_P (dC, dI) vwCl (w1 h1 a1 b1 cI cK fb g 0 (nI n) (nI c) so nu ty hh pa ch9 zk zl zh zp zq (nI k) ++ (w0 h a b0 cB cJ f g (nI n) (nI c) zg (nI k) ++ wo o cO (vp_updL go 0 ((nI (bY f j)).toInt64)))) H := hP
  have hD : va_D (fun q : Nat => s.heap.size ≤ q) (w1 h1 a1 b1 cI cK fb g 0 (nI n) (nI c) so nu ty hh pa ch9 zk zl zh zp zq (nI k) ++ (w0 h a b0 cB cJ f g (nI n) (nI c) zg (nI k) ++ wo o cO (vp_updL go 0 ((nI (bY f j)).toInt64)))) := hD
  obtain rfl : r_9 = 0 := hw_10
  refine lv_iload hx hb dL_law_353 (lv_at hl 1 rfl) ?_
  refine lv_icmp_eq (tgt := 360) hx hb dL_law_355 (by decide) (fun c_12 => ?_) (fun c_12 => ?_)
  · skip
    refine lv_iload hx hb dL_law_360 (lv_at hl 1 rfl) ?_
    refine lv_if_ne (tgt := 377) hx hb dL_law_362 (by decide) (fun c_13 => ?_) (fun c_13 => ?_)
    · skip
      exact absurd (by decide) c_13
    · skip
      refine lv_aload_n hx hb dL_law_365 rfl (lv_at hl 5 rfl) ?_
      refine lv_iconst (v := 0) hx hb dL_law_366 (by decide) ?_
      refine va_lald hx hb hK hP 6 4 rfl rfl vp01 dL_law_367 ?_
      have e_14 : (vp_updL go 0 ((nI (bY f j)).toInt64) (0 : Int32).toNatClampNeg : Int64) = ((nI (bY f j)).toInt64) := pk_uLs
      rw [e_14]
      refine lv_iload hx hb dL_law_368 (lv_at hl 0 rfl) ?_
      refine lv_i2l hx hb dL_law_370 rfl ?_
      refine W.lcmp hx hb dL_law_371 ?_
      refine lv_if_eq (tgt := 377) hx hb dL_law_372 (by decide) (fun c_15 => ?_) (fun c_15 => ?_)
      · skip
        have c_15 := (lg_cmp_eq ((nI (bY f j)).toInt64) ((fb j).toInt64)).mp c_15
        refine lv_goto (tgt := 644) hx hb dL_law_377 (by decide) ?_
        have hP : va_P (dC, dI) vwCl (w0 h a b0 cB cJ f g (nI n) (nI c) zg (nI k) ++ (w1 h1 a1 b1 cI cK fb g 0 (nI n) (nI c) so nu ty hh pa ch9 zk zl zh zp zq (nI k) ++ wo o cO (vp_updL go 0 ((nI (bY f j)).toInt64)))) H := hP.sub [3, 4, 5, 0, 1, 2, 6] rfl
        have hD : va_D (fun q : Nat => s.heap.size ≤ q) (w0 h a b0 cB cJ f g (nI n) (nI c) zg (nI k) ++ (w1 h1 a1 b1 cI cK fb g 0 (nI n) (nI c) so nu ty hh pa ch9 zk zl zh zp zq (nI k) ++ wo o cO (vp_updL go 0 ((nI (bY f j)).toInt64)))) := hD.sub [3, 4, 5, 0, 1, 2, 6] (by decide) rfl
        refine W.widen (k := 7 + t + 1) (n := 8416 + 6 * (t + 1)) (by omega) (by omega) ?_
        exact K _ _ _ ⟨n, c, k, f, fb, g, zg, 0, so, nu, ty, hh, pa, ch9, zk, zl, zh, zp, zq, vp_updL go 0 ((nI (bY f j)).toInt64), hn, hc, hk, hRB, hG, hP, hD, hS, lv_sub hl [2, 3, 4, 5, 6] rfl⟩
      · skip
        have c_15 := (not_congr (lg_cmp_eq ((nI (bY f j)).toInt64) ((fb j).toInt64))).mp c_15
        exact absurd (by rw [(hRB j hj).1]) c_15
  · skip
    exact absurd rfl c_12
set_option maxHeartbeats 4000000 in
set_option maxRecDepth 100000 in
theorem op_byteAt_b {p : Program} {e : Env} {s : State} {m : MethodId} {below : List Frame} {meth : Method} {cd : Code} {l : Launch} {b L : Nat} {xs : Nat → Int32} {dC : Nat → ClassId} {dI : Nat → Nat → Nat} {tk tw : Nat} {sa : Nat → Nat} {cB cJ cI cK cO : ClassId} {h a b0 h1 a1 b1 o t : Nat} {H : Heap} {locs : List Loc} {ls : Array Slot} (CX : LC l p s m meth cd b L xs dC dI tk tw sa cB cJ cI cK cO) (ht4 : 4 * t + 4 ≤ L) (K : ∀ (H : Heap) (locs : List Loc) (ls : Array Slot), LI s b dC dI h a b0 cB cJ h1 a1 b1 cI cK o cO t H locs ls → W p l e room_1 s m #[Value.ref b] below meth cd H locs (7 + t + 1) (8416 + 6 * (t + 1)) (lw_Z below #[Value.ref b] s) (F0 m 644 ls [])) (n : Nat) (c : Nat) (k : Nat) (f : Nat → Int32) (fb : Nat → Int32) (g : Nat → Int64) (zg : Int32) (zt : Int32) (so : Int32) (nu : Int64) (ty : Int32) (hh : Int32) (pa : Int64) (ch9 : Int64) (zk : Int32) (zl : Int32) (zh : Int32) (zp : Int32) (zq : Int32) (go : Nat → Int64) (hn : n ≤ 4096) (hc : c ≤ n) (hk : k ≤ 100) (hRB : RB n f fb) (hG : GV f c zg zk zl zh zp zq) (hP : va_P (dC, dI) vwCl (w0 h a b0 cB cJ f g (nI n) (nI c) zg (nI k) ++ (w1 h1 a1 b1 cI cK fb g zt (nI n) (nI c) so nu ty hh pa ch9 zk zl zh zp zq (nI k) ++ wo o cO go)) H) (hD : va_D (fun q : Nat => s.heap.size ≤ q) (w0 h a b0 cB cJ f g (nI n) (nI c) zg (nI k) ++ (w1 h1 a1 b1 cI cK fb g zt (nI n) (nI c) so nu ty hh pa ch9 zk zl zh zp zq (nI k) ++ wo o cO go))) (hS : va_S (fun q : Nat => s.heap.size ≤ q) s.heap H locs) (hl : lv_has ls 8 [(0, .ref b), (1, .ref h), (2, .ref h1), (3, .ref o), (4, .int (nI (4 * t)))]) (hb9 : xs (4 * t + 1) < 0 ∨ nI n ≤ xs (4 * t + 1)) : W p l e room_1 s m #[Value.ref b] below meth cd H locs (7 + t) (8416 + 6 * t) (lw_Z below #[Value.ref b] s) (F0 m 324 ls []) := by
  obtain ⟨⟨hx, hb, hr, hml, hown, hts, hXs, hbl, hlocks⟩, hst, hL, hK, hZ, hX⟩ := CX
  have hA : ∀ q : Nat, s.heap.size ≤ q → (fun q : Nat => s.heap.size ≤ q) q := fun _ h => h
  have hbA : ¬ (fun q : Nat => s.heap.size ≤ q) b := Nat.not_le.mpr hbl
  have hKx := hK.sub (tys' := t0 cB cJ) [0, 1] rfl
  have hKm := hK.sub (tys' := t1 cI cK) [2, 3] rfl
  have hKh := hK.sub (tys' := th cB cJ cO) [0, 1, 4] rfl
  refine lv_aload_n hx hb dL_law_324 rfl (lv_at hl 1 rfl) ?_
  refine lv_aload_n hx hb dL_law_325 rfl (lv_at hl 0 rfl) ?_
  refine lv_iload hx hb dL_law_326 (lv_at hl 4 rfl) ?_
  refine lv_iconst (v := 1) hx hb dL_law_328 (by decide) ?_
  refine lv_iadd hx hb dL_law_329 ?_
  have e_1 : (nI (4 * t) + (1 : Int32)) = nI (4 * t + 1) := nI_add (4 * t) 1
  rw [e_1]
  refine va_sld hx hb hXs hbl hbA hS (vp_in_nI (by omega) (by omega)) dL_law_330 ?_
  rw [nI_clamp (by omega)]
  refine lv_aload_n hx hb dL_law_331 rfl (lv_at hl 3 rfl) ?_
  have hP : va_P (dC, dI) vwCl ((w0 h a b0 cB cJ f g (nI n) (nI c) zg (nI k) ++ wo o cO go) ++ w1 h1 a1 b1 cI cK fb g zt (nI n) (nI c) so nu ty hh pa ch9 zk zl zh zp zq (nI k)) H := hP.sub [0, 1, 2, 6, 3, 4, 5] rfl
  have hD : va_D (fun q : Nat => s.heap.size ≤ q) ((w0 h a b0 cB cJ f g (nI n) (nI c) zg (nI k) ++ wo o cO go) ++ w1 h1 a1 b1 cI cK fb g zt (nI n) (nI c) so nu ty hh pa ch9 zk zl zh zp zq (nI k)) := hD.sub [0, 1, 2, 6, 3, 4, 5] (by decide) rfl
  refine ghi (wc := w0 h a b0 cB cJ f g (nI n) (nI c) zg (nI k) ++ wo o cO go) (wr := w1 h1 a1 b1 cI cK fb g zt (nI n) (nI c) so nu ty hh pa ch9 zk zl zh zp zq (nI k)) (As := [.ref h, .int (xs (4 * t + 1)), .ref o]) (rest := []) ⟨hx, hb, hml, hown, hts⟩ (c_L_byteAt_b l hst sa dC dI tk tw h a b0 cB cJ o cO go _ f g (nI c) zg (nI k) n hn (xs (4 * t + 1)) hb9) (vx_cwSW 3 hts gL_law_L_byteAt rfl rfl rfl (by decide +kernel) ⟨Nat.le_of_ble_eq_true rfl, Nat.le_of_ble_eq_true rfl⟩) hKh hP hD hS hA hZ hX rfl hl.1 rfl (Nat.le_of_ble_eq_true rfl) dL_law_332 ⟨by show _ ≤ 1042; omega, by show _ ≤ 16674; omega⟩ (fun r_2 u_4 H locs hw_3 hP hD hS => ?_)
  have hP : va_P (dC, dI) vwCl ((w0 h a b0 cB cJ f g (nI n) (nI c) zg (nI k) ++ wo o cO go) ++ w1 h1 a1 b1 cI cK fb g zt (nI n) (nI c) so nu ty hh pa ch9 zk zl zh zp zq (nI k)) H := hP
  have hD : va_D (fun q : Nat => s.heap.size ≤ q) ((w0 h a b0 cB cJ f g (nI n) (nI c) zg (nI k) ++ wo o cO go) ++ w1 h1 a1 b1 cI cK fb g zt (nI n) (nI c) so nu ty hh pa ch9 zk zl zh zp zq (nI k)) := hD
  obtain rfl : r_2 = 1 := hw_3
  refine lv_istore (lv' := [(5, .int 1), (0, .ref b), (1, .ref h), (2, .ref h1), (3, .ref o), (4, .int (nI (4 * t)))]) hx hb dL_law_335 hl (by decide) rfl (fun ls hl => ?_)
  refine lv_aload_n hx hb dL_law_337 rfl (lv_at hl 3 rfl) ?_
  refine lv_aload_n hx hb dL_law_338 rfl (lv_at hl 1 rfl) ?_
  refine lv_iload hx hb dL_law_339 (lv_at hl 5 rfl) ?_
  refine lv_iconst (v := 1) hx hb dL_law_341 (by decide) ?_
  refine lv_iadd hx hb dL_law_342 ?_
  have e_5 : (nI (4 * t) + (1 : Int32)) = nI (4 * t + 1) := nI_add (4 * t) 1
  rw [e_5]
  refine va_sld hx hb hXs hbl hbA hS (vp_in_nI (by omega) (by omega)) dL_law_343 ?_
  rw [nI_clamp (by omega)]
  have hP : va_P (dC, dI) vwCl (w1 h1 a1 b1 cI cK fb g zt (nI n) (nI c) so nu ty hh pa ch9 zk zl zh zp zq (nI k) ++ (w0 h a b0 cB cJ f g (nI n) (nI c) zg (nI k) ++ wo o cO go)) H := hP.sub [4, 5, 6, 0, 1, 2, 3] rfl
  have hD : va_D (fun q : Nat => s.heap.size ≤ q) (w1 h1 a1 b1 cI cK fb g zt (nI n) (nI c) so nu ty hh pa ch9 zk zl zh zp zq (nI k) ++ (w0 h a b0 cB cJ f g (nI n) (nI c) zg (nI k) ++ wo o cO go)) := hD.sub [4, 5, 6, 0, 1, 2, 3] (by decide) rfl
  refine gji (wc := w1 h1 a1 b1 cI cK fb g zt (nI n) (nI c) so nu ty hh pa ch9 zk zl zh zp zq (nI k)) (wr := w0 h a b0 cB cJ f g (nI n) (nI c) zg (nI k) ++ wo o cO go) (As := [.int (xs (4 * t + 1))]) (rest := []) ⟨hx, hb, hml, hown, hts⟩ (c_X1_byteAt_b l dC dI tk tw h1 a1 b1 cI cK _ fb g zt (nI c) so nu ty hh pa ch9 zk zl zh zp zq (nI k) n hn (xs (4 * t + 1)) hb9) (cwV 1 hts gL_law_X1_byteAt rfl rfl rfl (by decide +kernel) ⟨Nat.le_of_ble_eq_true rfl, Nat.le_of_ble_eq_true rfl⟩) hKm hP hD hS hA hZ (q0 := 0) (ci := 1) rfl rfl rfl rfl hl.1 rfl (Nat.le_of_ble_eq_true rfl) dL_law_344 ⟨by show _ ≤ 1042; omega, by show _ ≤ 16674; omega⟩ (fun r_6 u_8 H locs hw_7 hP hD hS => ?_)
  have hP : va_P (dC, dI) vwCl (w1 h1 a1 b1 cI cK fb g 1 (nI n) (nI c) so nu ty hh pa ch9 zk zl zh zp zq (nI k) ++ (w0 h a b0 cB cJ f g (nI n) (nI c) zg (nI k) ++ wo o cO go)) H := hP
  have hD : va_D (fun q : Nat => s.heap.size ≤ q) (w1 h1 a1 b1 cI cK fb g 1 (nI n) (nI c) so nu ty hh pa ch9 zk zl zh zp zq (nI k) ++ (w0 h a b0 cB cJ f g (nI n) (nI c) zg (nI k) ++ wo o cO go)) := hD
  refine lv_istore (lv' := [(6, .int r_6), (5, .int 1), (0, .ref b), (1, .ref h), (2, .ref h1), (3, .ref o), (4, .int (nI (4 * t)))]) hx hb dL_law_347 hl (by decide) rfl (fun ls hl => ?_)
  refine lv_aload_n hx hb dL_law_349 rfl (lv_at hl 4 rfl) ?_
  refine gji (wc := w1 h1 a1 b1 cI cK fb g 1 (nI n) (nI c) so nu ty hh pa ch9 zk zl zh zp zq (nI k)) (wr := w0 h a b0 cB cJ f g (nI n) (nI c) zg (nI k) ++ wo o cO go) (As := []) (rest := []) ⟨hx, hb, hml, hown, hts⟩ (c_X1_thrown l dC dI tk tw h1 a1 b1 cI cK _ fb g 1 (nI n) (nI c) so nu ty hh pa ch9 zk zl zh zp zq (nI k) ) (cwV 0 hts gL_law_X1_thrown rfl rfl rfl (by decide +kernel) ⟨Nat.le_of_ble_eq_true rfl, Nat.le_of_ble_eq_true rfl⟩) hKm hP hD hS hA hZ (q0 := 0) (ci := 1) rfl rfl rfl rfl hl.1 rfl (Nat.le_of_ble_eq_true rfl) dL_law_350 ⟨by show _ ≤ 1042; omega, by show _ ≤ 16674; omega⟩ (fun r_9 u_11 H locs hw_10 hP hD hS => ?_)
  have hP : va_P (dC, dI) vwCl (w1 h1 a1 b1 cI cK fb g 1 (nI n) (nI c) so nu ty hh pa ch9 zk zl zh zp zq (nI k) ++ (w0 h a b0 cB cJ f g (nI n) (nI c) zg (nI k) ++ wo o cO go)) H := hP
  have hD : va_D (fun q : Nat => s.heap.size ≤ q) (w1 h1 a1 b1 cI cK fb g 1 (nI n) (nI c) so nu ty hh pa ch9 zk zl zh zp zq (nI k) ++ (w0 h a b0 cB cJ f g (nI n) (nI c) zg (nI k) ++ wo o cO go)) := hD
  obtain rfl : r_9 = 1 := hw_10
  refine lv_iload hx hb dL_law_353 (lv_at hl 1 rfl) ?_
  refine lv_icmp_eq (tgt := 360) hx hb dL_law_355 (by decide) (fun c_12 => ?_) (fun c_12 => ?_)
  · skip
    refine lv_iload hx hb dL_law_360 (lv_at hl 1 rfl) ?_
    refine lv_if_ne (tgt := 377) hx hb dL_law_362 (by decide) (fun c_13 => ?_) (fun c_13 => ?_)
    · skip
      refine lv_goto (tgt := 644) hx hb dL_law_377 (by decide) ?_
      have hP : va_P (dC, dI) vwCl (w0 h a b0 cB cJ f g (nI n) (nI c) zg (nI k) ++ (w1 h1 a1 b1 cI cK fb g 1 (nI n) (nI c) so nu ty hh pa ch9 zk zl zh zp zq (nI k) ++ wo o cO go)) H := hP.sub [3, 4, 5, 0, 1, 2, 6] rfl
      have hD : va_D (fun q : Nat => s.heap.size ≤ q) (w0 h a b0 cB cJ f g (nI n) (nI c) zg (nI k) ++ (w1 h1 a1 b1 cI cK fb g 1 (nI n) (nI c) so nu ty hh pa ch9 zk zl zh zp zq (nI k) ++ wo o cO go)) := hD.sub [3, 4, 5, 0, 1, 2, 6] (by decide) rfl
      refine W.widen (k := 7 + t + 1) (n := 8416 + 6 * (t + 1)) (by omega) (by omega) ?_
      exact K _ _ _ ⟨n, c, k, f, fb, g, zg, 1, so, nu, ty, hh, pa, ch9, zk, zl, zh, zp, zq, go, hn, hc, hk, hRB, hG, hP, hD, hS, lv_sub hl [2, 3, 4, 5, 6] rfl⟩
    · skip
      exact absurd c_13 (by decide)
  · skip
    exact absurd rfl c_12
set_option maxHeartbeats 4000000 in
set_option maxRecDepth 100000 in
theorem op_next {p : Program} {e : Env} {s : State} {m : MethodId} {below : List Frame} {meth : Method} {cd : Code} {l : Launch} {b L : Nat} {xs : Nat → Int32} {dC : Nat → ClassId} {dI : Nat → Nat → Nat} {tk tw : Nat} {sa : Nat → Nat} {cB cJ cI cK cO : ClassId} {h a b0 h1 a1 b1 o t : Nat} {H : Heap} {locs : List Loc} {ls : Array Slot} (CX : LC l p s m meth cd b L xs dC dI tk tw sa cB cJ cI cK cO) (ht4 : 4 * t + 4 ≤ L) (K : ∀ (H : Heap) (locs : List Loc) (ls : Array Slot), LI s b dC dI h a b0 cB cJ h1 a1 b1 cI cK o cO t H locs ls → W p l e room_1 s m #[Value.ref b] below meth cd H locs (7 + t + 1) (8416 + 6 * (t + 1)) (lw_Z below #[Value.ref b] s) (F0 m 644 ls [])) (n : Nat) (c : Nat) (k : Nat) (f : Nat → Int32) (fb : Nat → Int32) (g : Nat → Int64) (zg : Int32) (zt : Int32) (so : Int32) (nu : Int64) (ty : Int32) (hh : Int32) (pa : Int64) (ch9 : Int64) (zk : Int32) (zl : Int32) (zh : Int32) (zp : Int32) (zq : Int32) (go : Nat → Int64) (hn : n ≤ 4096) (hc : c ≤ n) (hk : k ≤ 100) (hRB : RB n f fb) (hG : GV f c zg zk zl zh zp zq) (hP : va_P (dC, dI) vwCl (w0 h a b0 cB cJ f g (nI n) (nI c) zg (nI k) ++ (w1 h1 a1 b1 cI cK fb g zt (nI n) (nI c) so nu ty hh pa ch9 zk zl zh zp zq (nI k) ++ wo o cO go)) H) (hD : va_D (fun q : Nat => s.heap.size ≤ q) (w0 h a b0 cB cJ f g (nI n) (nI c) zg (nI k) ++ (w1 h1 a1 b1 cI cK fb g zt (nI n) (nI c) so nu ty hh pa ch9 zk zl zh zp zq (nI k) ++ wo o cO go))) (hS : va_S (fun q : Nat => s.heap.size ≤ q) s.heap H locs) (hl : lv_has ls 8 [(0, .ref b), (1, .ref h), (2, .ref h1), (3, .ref o), (4, .int (nI (4 * t)))])  : W p l e room_1 s m #[Value.ref b] below meth cd H locs (7 + t) (8416 + 6 * t) (lw_Z below #[Value.ref b] s) (F0 m 380 ls []) := by
  obtain ⟨⟨hx, hb, hr, hml, hown, hts, hXs, hbl, hlocks⟩, hst, hL, hK, hZ, hX⟩ := CX
  have hA : ∀ q : Nat, s.heap.size ≤ q → (fun q : Nat => s.heap.size ≤ q) q := fun _ h => h
  have hbA : ¬ (fun q : Nat => s.heap.size ≤ q) b := Nat.not_le.mpr hbl
  have hKx := hK.sub (tys' := t0 cB cJ) [0, 1] rfl
  have hKm := hK.sub (tys' := t1 cI cK) [2, 3] rfl
  have hKh := hK.sub (tys' := th cB cJ cO) [0, 1, 4] rfl
  refine lv_aload_n hx hb dL_law_380 rfl (lv_at hl 1 rfl) ?_
  refine gji (wc := w0 h a b0 cB cJ f g (nI n) (nI c) zg (nI k)) (wr := w1 h1 a1 b1 cI cK fb g zt (nI n) (nI c) so nu ty hh pa ch9 zk zl zh zp zq (nI k) ++ wo o cO go) (As := []) (rest := []) ⟨hx, hb, hml, hown, hts⟩ (c_X0_next l dC dI tk tw h a b0 cB cJ _ f g zg n c hn (by omega) k hk) (cwV 0 hts gL_law_X0_next rfl rfl rfl (by decide +kernel) ⟨Nat.le_of_ble_eq_true rfl, Nat.le_of_ble_eq_true rfl⟩) hKx hP hD hS hA hZ (q0 := 0) (ci := 0) rfl rfl rfl rfl hl.1 rfl (Nat.le_of_ble_eq_true rfl) dL_law_381 ⟨by show _ ≤ 1042; omega, by show _ ≤ 16674; omega⟩ (fun r_1 u_3 H locs hw_2 hP hD hS => ?_)
  obtain ⟨g1, c1, v1, o1⟩ := u_3
  have hP : va_P (dC, dI) vwCl (w0 h a b0 cB cJ f g1 (nI n) c1 v1 o1 ++ (w1 h1 a1 b1 cI cK fb g zt (nI n) (nI c) so nu ty hh pa ch9 zk zl zh zp zq (nI k) ++ wo o cO go)) H := hP
  have hD : va_D (fun q : Nat => s.heap.size ≤ q) (w0 h a b0 cB cJ f g1 (nI n) c1 v1 o1 ++ (w1 h1 a1 b1 cI cK fb g zt (nI n) (nI c) so nu ty hh pa ch9 zk zl zh zp zq (nI k) ++ wo o cO go)) := hD
  refine lv_aload_n hx hb dL_law_384 rfl (lv_at hl 2 rfl) ?_
  have hP : va_P (dC, dI) vwCl (w1 h1 a1 b1 cI cK fb g zt (nI n) (nI c) so nu ty hh pa ch9 zk zl zh zp zq (nI k) ++ (w0 h a b0 cB cJ f g1 (nI n) c1 v1 o1 ++ wo o cO go)) H := hP.sub [3, 4, 5, 0, 1, 2, 6] rfl
  have hD : va_D (fun q : Nat => s.heap.size ≤ q) (w1 h1 a1 b1 cI cK fb g zt (nI n) (nI c) so nu ty hh pa ch9 zk zl zh zp zq (nI k) ++ (w0 h a b0 cB cJ f g1 (nI n) c1 v1 o1 ++ wo o cO go)) := hD.sub [3, 4, 5, 0, 1, 2, 6] (by decide) rfl
  refine gji (wc := w1 h1 a1 b1 cI cK fb g zt (nI n) (nI c) so nu ty hh pa ch9 zk zl zh zp zq (nI k)) (wr := w0 h a b0 cB cJ f g1 (nI n) c1 v1 o1 ++ wo o cO go) (As := []) (rest := [.int r_1]) ⟨hx, hb, hml, hown, hts⟩ (c_X1_next l dC dI tk tw h1 a1 b1 cI cK _ fb g zt so nu ty hh pa ch9 zk zl zh zp zq (bY f) (bY_lt f) n c hn (by omega) (fun j hj => (hRB j hj).1) k hk) (cwV 0 hts gL_law_X1_next rfl rfl rfl (by decide +kernel) ⟨Nat.le_of_ble_eq_true rfl, Nat.le_of_ble_eq_true rfl⟩) hKm hP hD hS hA hZ (q0 := 0) (ci := 1) rfl rfl rfl rfl hl.1 rfl (Nat.le_of_ble_eq_true rfl) dL_law_385 ⟨by show _ ≤ 1042; omega, by show _ ≤ 16674; omega⟩ (fun r_4 u_6 H locs hw_5 hP hD hS => ?_)
  obtain ⟨⟨so1, nu1, ty1, hd1, pa1, ch1⟩, ⟨g2, c2, k2, l2, h2, p2, q2, v2⟩⟩ := u_6
  have hP : va_P (dC, dI) vwCl (w1 h1 a1 b1 cI cK fb g2 0 (nI n) c2 so1 nu1 ty1 hd1 pa1 ch1 k2 l2 h2 p2 q2 v2 ++ (w0 h a b0 cB cJ f g1 (nI n) c1 v1 o1 ++ wo o cO go)) H := hP
  have hD : va_D (fun q : Nat => s.heap.size ≤ q) (w1 h1 a1 b1 cI cK fb g2 0 (nI n) c2 so1 nu1 ty1 hd1 pa1 ch1 k2 l2 h2 p2 q2 v2 ++ (w0 h a b0 cB cJ f g1 (nI n) c1 v1 o1 ++ wo o cO go)) := hD
  obtain ⟨er, c3, k3, hc3, hk3, e5, rfl, rfl, rfl, rfl, hG3⟩ := next_agree hn hc hk hw_2 hw_5 hG
  subst e5
  have hP : va_P (dC, dI) vwCl (w1 h1 a1 b1 cI cK fb g2 0 (nI n) (nI c3) so1 nu1 ty1 hd1 pa1 ch1 k2 l2 h2 p2 q2 (nI k3) ++ (w0 h a b0 cB cJ f g2 (nI n) (nI c3) v1 (nI k3) ++ wo o cO go)) H := hP
  have hD : va_D (fun q : Nat => s.heap.size ≤ q) (w1 h1 a1 b1 cI cK fb g2 0 (nI n) (nI c3) so1 nu1 ty1 hd1 pa1 ch1 k2 l2 h2 p2 q2 (nI k3) ++ (w0 h a b0 cB cJ f g2 (nI n) (nI c3) v1 (nI k3) ++ wo o cO go)) := hD
  refine lv_icmp_eq (tgt := 644) hx hb dL_law_388 (by decide) (fun c_7 => ?_) (fun c_7 => ?_)
  · skip
    have hP : va_P (dC, dI) vwCl (w0 h a b0 cB cJ f g2 (nI n) (nI c3) v1 (nI k3) ++ (w1 h1 a1 b1 cI cK fb g2 0 (nI n) (nI c3) so1 nu1 ty1 hd1 pa1 ch1 k2 l2 h2 p2 q2 (nI k3) ++ wo o cO go)) H := hP.sub [3, 4, 5, 0, 1, 2, 6] rfl
    have hD : va_D (fun q : Nat => s.heap.size ≤ q) (w0 h a b0 cB cJ f g2 (nI n) (nI c3) v1 (nI k3) ++ (w1 h1 a1 b1 cI cK fb g2 0 (nI n) (nI c3) so1 nu1 ty1 hd1 pa1 ch1 k2 l2 h2 p2 q2 (nI k3) ++ wo o cO go)) := hD.sub [3, 4, 5, 0, 1, 2, 6] (by decide) rfl
    refine W.widen (k := 7 + t + 1) (n := 8416 + 6 * (t + 1)) (by omega) (by omega) ?_
    exact K _ _ _ ⟨n, c3, k3, f, fb, g2, v1, 0, so1, nu1, ty1, hd1, pa1, ch1, k2, l2, h2, p2, q2, go, hn, hc3, hk3, hRB, hG3, hP, hD, hS, lv_sub hl [0, 1, 2, 3, 4] rfl⟩
  · skip
    exact absurd er c_7
set_option maxHeartbeats 4000000 in
set_option maxRecDepth 100000 in
theorem op_skip {p : Program} {e : Env} {s : State} {m : MethodId} {below : List Frame} {meth : Method} {cd : Code} {l : Launch} {b L : Nat} {xs : Nat → Int32} {dC : Nat → ClassId} {dI : Nat → Nat → Nat} {tk tw : Nat} {sa : Nat → Nat} {cB cJ cI cK cO : ClassId} {h a b0 h1 a1 b1 o t : Nat} {H : Heap} {locs : List Loc} {ls : Array Slot} (CX : LC l p s m meth cd b L xs dC dI tk tw sa cB cJ cI cK cO) (ht4 : 4 * t + 4 ≤ L) (K : ∀ (H : Heap) (locs : List Loc) (ls : Array Slot), LI s b dC dI h a b0 cB cJ h1 a1 b1 cI cK o cO t H locs ls → W p l e room_1 s m #[Value.ref b] below meth cd H locs (7 + t + 1) (8416 + 6 * (t + 1)) (lw_Z below #[Value.ref b] s) (F0 m 644 ls [])) (n : Nat) (c : Nat) (k : Nat) (f : Nat → Int32) (fb : Nat → Int32) (g : Nat → Int64) (zg : Int32) (zt : Int32) (so : Int32) (nu : Int64) (ty : Int32) (hh : Int32) (pa : Int64) (ch9 : Int64) (zk : Int32) (zl : Int32) (zh : Int32) (zp : Int32) (zq : Int32) (go : Nat → Int64) (hn : n ≤ 4096) (hc : c ≤ n) (hk : k ≤ 100) (hRB : RB n f fb) (hG : GV f c zg zk zl zh zp zq) (hP : va_P (dC, dI) vwCl (w0 h a b0 cB cJ f g (nI n) (nI c) zg (nI k) ++ (w1 h1 a1 b1 cI cK fb g zt (nI n) (nI c) so nu ty hh pa ch9 zk zl zh zp zq (nI k) ++ wo o cO go)) H) (hD : va_D (fun q : Nat => s.heap.size ≤ q) (w0 h a b0 cB cJ f g (nI n) (nI c) zg (nI k) ++ (w1 h1 a1 b1 cI cK fb g zt (nI n) (nI c) so nu ty hh pa ch9 zk zl zh zp zq (nI k) ++ wo o cO go))) (hS : va_S (fun q : Nat => s.heap.size ≤ q) s.heap H locs) (hl : lv_has ls 8 [(0, .ref b), (1, .ref h), (2, .ref h1), (3, .ref o), (4, .int (nI (4 * t)))])  : W p l e room_1 s m #[Value.ref b] below meth cd H locs (7 + t) (8416 + 6 * t) (lw_Z below #[Value.ref b] s) (F0 m 393 ls []) := by
  obtain ⟨⟨hx, hb, hr, hml, hown, hts, hXs, hbl, hlocks⟩, hst, hL, hK, hZ, hX⟩ := CX
  have hA : ∀ q : Nat, s.heap.size ≤ q → (fun q : Nat => s.heap.size ≤ q) q := fun _ h => h
  have hbA : ¬ (fun q : Nat => s.heap.size ≤ q) b := Nat.not_le.mpr hbl
  have hKx := hK.sub (tys' := t0 cB cJ) [0, 1] rfl
  have hKm := hK.sub (tys' := t1 cI cK) [2, 3] rfl
  have hKh := hK.sub (tys' := th cB cJ cO) [0, 1, 4] rfl
  refine lv_aload_n hx hb dL_law_393 rfl (lv_at hl 1 rfl) ?_
  refine gji (wc := w0 h a b0 cB cJ f g (nI n) (nI c) zg (nI k)) (wr := w1 h1 a1 b1 cI cK fb g zt (nI n) (nI c) so nu ty hh pa ch9 zk zl zh zp zq (nI k) ++ wo o cO go) (As := []) (rest := []) ⟨hx, hb, hml, hown, hts⟩ (c_X0_skip l dC dI tk tw h a b0 cB cJ _ f g zg n c hn (by omega) k hk) (cwV 0 hts gL_law_X0_skip rfl rfl rfl (by decide +kernel) ⟨Nat.le_of_ble_eq_true rfl, Nat.le_of_ble_eq_true rfl⟩) hKx hP hD hS hA hZ (q0 := 0) (ci := 0) rfl rfl rfl rfl hl.1 rfl (Nat.le_of_ble_eq_true rfl) dL_law_394 ⟨by show _ ≤ 1042; omega, by show _ ≤ 16674; omega⟩ (fun r_1 u_3 H locs hw_2 hP hD hS => ?_)
  obtain ⟨g1, c1, v1, o1⟩ := u_3
  have hP : va_P (dC, dI) vwCl (w0 h a b0 cB cJ f g1 (nI n) c1 v1 o1 ++ (w1 h1 a1 b1 cI cK fb g zt (nI n) (nI c) so nu ty hh pa ch9 zk zl zh zp zq (nI k) ++ wo o cO go)) H := hP
  have hD : va_D (fun q : Nat => s.heap.size ≤ q) (w0 h a b0 cB cJ f g1 (nI n) c1 v1 o1 ++ (w1 h1 a1 b1 cI cK fb g zt (nI n) (nI c) so nu ty hh pa ch9 zk zl zh zp zq (nI k) ++ wo o cO go)) := hD
  refine lv_aload_n hx hb dL_law_397 rfl (lv_at hl 2 rfl) ?_
  have hP : va_P (dC, dI) vwCl (w1 h1 a1 b1 cI cK fb g zt (nI n) (nI c) so nu ty hh pa ch9 zk zl zh zp zq (nI k) ++ (w0 h a b0 cB cJ f g1 (nI n) c1 v1 o1 ++ wo o cO go)) H := hP.sub [3, 4, 5, 0, 1, 2, 6] rfl
  have hD : va_D (fun q : Nat => s.heap.size ≤ q) (w1 h1 a1 b1 cI cK fb g zt (nI n) (nI c) so nu ty hh pa ch9 zk zl zh zp zq (nI k) ++ (w0 h a b0 cB cJ f g1 (nI n) c1 v1 o1 ++ wo o cO go)) := hD.sub [3, 4, 5, 0, 1, 2, 6] (by decide) rfl
  refine gji (wc := w1 h1 a1 b1 cI cK fb g zt (nI n) (nI c) so nu ty hh pa ch9 zk zl zh zp zq (nI k)) (wr := w0 h a b0 cB cJ f g1 (nI n) c1 v1 o1 ++ wo o cO go) (As := []) (rest := [.int r_1]) ⟨hx, hb, hml, hown, hts⟩ (c_X1_skip l dC dI tk tw h1 a1 b1 cI cK _ fb g zt so nu ty hh pa ch9 zk zl zh zp zq (bY f) (bY_lt f) n c hn (by omega) (fun j hj => (hRB j hj).1) k hk) (cwV 0 hts gL_law_X1_skip rfl rfl rfl (by decide +kernel) ⟨Nat.le_of_ble_eq_true rfl, Nat.le_of_ble_eq_true rfl⟩) hKm hP hD hS hA hZ (q0 := 0) (ci := 1) rfl rfl rfl rfl hl.1 rfl (Nat.le_of_ble_eq_true rfl) dL_law_398 ⟨by show _ ≤ 1042; omega, by show _ ≤ 16674; omega⟩ (fun r_4 u_6 H locs hw_5 hP hD hS => ?_)
  obtain ⟨⟨so1, nu1, ty1, hd1, pa1, ch1⟩, ⟨g2, c2, k2, l2, h2, p2, q2, v2⟩⟩ := u_6
  have hP : va_P (dC, dI) vwCl (w1 h1 a1 b1 cI cK fb g2 0 (nI n) c2 so1 nu1 ty1 hd1 pa1 ch1 k2 l2 h2 p2 q2 v2 ++ (w0 h a b0 cB cJ f g1 (nI n) c1 v1 o1 ++ wo o cO go)) H := hP
  have hD : va_D (fun q : Nat => s.heap.size ≤ q) (w1 h1 a1 b1 cI cK fb g2 0 (nI n) c2 so1 nu1 ty1 hd1 pa1 ch1 k2 l2 h2 p2 q2 v2 ++ (w0 h a b0 cB cJ f g1 (nI n) c1 v1 o1 ++ wo o cO go)) := hD
  obtain ⟨er, c3, k3, hc3, hk3, e5, rfl, rfl, rfl, rfl, hG3⟩ := skip_agree hn hc hk hw_2 hw_5 hG
  subst e5
  have hP : va_P (dC, dI) vwCl (w1 h1 a1 b1 cI cK fb g2 0 (nI n) (nI c3) so1 nu1 ty1 hd1 pa1 ch1 k2 l2 h2 p2 q2 (nI k3) ++ (w0 h a b0 cB cJ f g2 (nI n) (nI c3) v1 (nI k3) ++ wo o cO go)) H := hP
  have hD : va_D (fun q : Nat => s.heap.size ≤ q) (w1 h1 a1 b1 cI cK fb g2 0 (nI n) (nI c3) so1 nu1 ty1 hd1 pa1 ch1 k2 l2 h2 p2 q2 (nI k3) ++ (w0 h a b0 cB cJ f g2 (nI n) (nI c3) v1 (nI k3) ++ wo o cO go)) := hD
  refine lv_icmp_eq (tgt := 644) hx hb dL_law_401 (by decide) (fun c_7 => ?_) (fun c_7 => ?_)
  · skip
    have hP : va_P (dC, dI) vwCl (w0 h a b0 cB cJ f g2 (nI n) (nI c3) v1 (nI k3) ++ (w1 h1 a1 b1 cI cK fb g2 0 (nI n) (nI c3) so1 nu1 ty1 hd1 pa1 ch1 k2 l2 h2 p2 q2 (nI k3) ++ wo o cO go)) H := hP.sub [3, 4, 5, 0, 1, 2, 6] rfl
    have hD : va_D (fun q : Nat => s.heap.size ≤ q) (w0 h a b0 cB cJ f g2 (nI n) (nI c3) v1 (nI k3) ++ (w1 h1 a1 b1 cI cK fb g2 0 (nI n) (nI c3) so1 nu1 ty1 hd1 pa1 ch1 k2 l2 h2 p2 q2 (nI k3) ++ wo o cO go)) := hD.sub [3, 4, 5, 0, 1, 2, 6] (by decide) rfl
    refine W.widen (k := 7 + t + 1) (n := 8416 + 6 * (t + 1)) (by omega) (by omega) ?_
    exact K _ _ _ ⟨n, c3, k3, f, fb, g2, v1, 0, so1, nu1, ty1, hd1, pa1, ch1, k2, l2, h2, p2, q2, go, hn, hc3, hk3, hRB, hG3, hP, hD, hS, lv_sub hl [0, 1, 2, 3, 4] rfl⟩
  · skip
    exact absurd er c_7
set_option maxHeartbeats 4000000 in
set_option maxRecDepth 100000 in
theorem op_kind_n {p : Program} {e : Env} {s : State} {m : MethodId} {below : List Frame} {meth : Method} {cd : Code} {l : Launch} {b L : Nat} {xs : Nat → Int32} {dC : Nat → ClassId} {dI : Nat → Nat → Nat} {tk tw : Nat} {sa : Nat → Nat} {cB cJ cI cK cO : ClassId} {h a b0 h1 a1 b1 o t : Nat} {H : Heap} {locs : List Loc} {ls : Array Slot} (CX : LC l p s m meth cd b L xs dC dI tk tw sa cB cJ cI cK cO) (ht4 : 4 * t + 4 ≤ L) (K : ∀ (H : Heap) (locs : List Loc) (ls : Array Slot), LI s b dC dI h a b0 cB cJ h1 a1 b1 cI cK o cO t H locs ls → W p l e room_1 s m #[Value.ref b] below meth cd H locs (7 + t + 1) (8416 + 6 * (t + 1)) (lw_Z below #[Value.ref b] s) (F0 m 644 ls [])) (n : Nat) (c : Nat) (k : Nat) (f : Nat → Int32) (fb : Nat → Int32) (g : Nat → Int64) (zt : Int32) (so : Int32) (nu : Int64) (ty : Int32) (hh : Int32) (pa : Int64) (ch9 : Int64) (go : Nat → Int64) (hn : n ≤ 4096) (hc : c ≤ n) (hk : k ≤ 100) (hRB : RB n f fb) (hP : va_P (dC, dI) vwCl (w0 h a b0 cB cJ f g (nI n) (nI c) (-1) (nI k) ++ (w1 h1 a1 b1 cI cK fb g zt (nI n) (nI c) so nu ty hh pa ch9 (-1) 0 0 (nI 0) (nI 0) (nI k) ++ wo o cO go)) H) (hD : va_D (fun q : Nat => s.heap.size ≤ q) (w0 h a b0 cB cJ f g (nI n) (nI c) (-1) (nI k) ++ (w1 h1 a1 b1 cI cK fb g zt (nI n) (nI c) so nu ty hh pa ch9 (-1) 0 0 (nI 0) (nI 0) (nI k) ++ wo o cO go))) (hS : va_S (fun q : Nat => s.heap.size ≤ q) s.heap H locs) (hl : lv_has ls 8 [(0, .ref b), (1, .ref h), (2, .ref h1), (3, .ref o), (4, .int (nI (4 * t)))])  : W p l e room_1 s m #[Value.ref b] below meth cd H locs (7 + t) (8416 + 6 * t) (lw_Z below #[Value.ref b] s) (F0 m 406 ls []) := by
  obtain ⟨⟨hx, hb, hr, hml, hown, hts, hXs, hbl, hlocks⟩, hst, hL, hK, hZ, hX⟩ := CX
  have hA : ∀ q : Nat, s.heap.size ≤ q → (fun q : Nat => s.heap.size ≤ q) q := fun _ h => h
  have hbA : ¬ (fun q : Nat => s.heap.size ≤ q) b := Nat.not_le.mpr hbl
  have hKx := hK.sub (tys' := t0 cB cJ) [0, 1] rfl
  have hKm := hK.sub (tys' := t1 cI cK) [2, 3] rfl
  have hKh := hK.sub (tys' := th cB cJ cO) [0, 1, 4] rfl
  refine lv_aload_n hx hb dL_law_406 rfl (lv_at hl 1 rfl) ?_
  refine gji (wc := w0 h a b0 cB cJ f g (nI n) (nI c) (-1) (nI k)) (wr := w1 h1 a1 b1 cI cK fb g zt (nI n) (nI c) so nu ty hh pa ch9 (-1) 0 0 (nI 0) (nI 0) (nI k) ++ wo o cO go) (As := []) (rest := []) ⟨hx, hb, hml, hown, hts⟩ (c_X0_kind_n l dC dI tk tw h a b0 cB cJ _ f g (nI n) (nI c) (nI k) ) (cwV 0 hts gL_law_X0_kind rfl rfl rfl (by decide +kernel) ⟨Nat.le_of_ble_eq_true rfl, Nat.le_of_ble_eq_true rfl⟩) hKx hP hD hS hA hZ (q0 := 0) (ci := 0) rfl rfl rfl rfl hl.1 rfl (Nat.le_of_ble_eq_true rfl) dL_law_407 ⟨by show _ ≤ 1042; omega, by show _ ≤ 16674; omega⟩ (fun r_1 u_3 H locs hw_2 hP hD hS => ?_)
  have hP : va_P (dC, dI) vwCl (w0 h a b0 cB cJ f g (nI n) (nI c) (-1) (nI k) ++ (w1 h1 a1 b1 cI cK fb g zt (nI n) (nI c) so nu ty hh pa ch9 (-1) 0 0 (nI 0) (nI 0) (nI k) ++ wo o cO go)) H := hP
  have hD : va_D (fun q : Nat => s.heap.size ≤ q) (w0 h a b0 cB cJ f g (nI n) (nI c) (-1) (nI k) ++ (w1 h1 a1 b1 cI cK fb g zt (nI n) (nI c) so nu ty hh pa ch9 (-1) 0 0 (nI 0) (nI 0) (nI k) ++ wo o cO go)) := hD
  obtain rfl : r_1 = -1 := hw_2
  refine lv_aload_n hx hb dL_law_410 rfl (lv_at hl 2 rfl) ?_
  have hP : va_P (dC, dI) vwCl (w1 h1 a1 b1 cI cK fb g zt (nI n) (nI c) so nu ty hh pa ch9 (-1) 0 0 (nI 0) (nI 0) (nI k) ++ (w0 h a b0 cB cJ f g (nI n) (nI c) (-1) (nI k) ++ wo o cO go)) H := hP.sub [3, 4, 5, 0, 1, 2, 6] rfl
  have hD : va_D (fun q : Nat => s.heap.size ≤ q) (w1 h1 a1 b1 cI cK fb g zt (nI n) (nI c) so nu ty hh pa ch9 (-1) 0 0 (nI 0) (nI 0) (nI k) ++ (w0 h a b0 cB cJ f g (nI n) (nI c) (-1) (nI k) ++ wo o cO go)) := hD.sub [3, 4, 5, 0, 1, 2, 6] (by decide) rfl
  refine gji (wc := w1 h1 a1 b1 cI cK fb g zt (nI n) (nI c) so nu ty hh pa ch9 (-1) 0 0 (nI 0) (nI 0) (nI k)) (wr := w0 h a b0 cB cJ f g (nI n) (nI c) (-1) (nI k) ++ wo o cO go) (As := []) (rest := [.int (-1)]) ⟨hx, hb, hml, hown, hts⟩ (c_X1_kind l dC dI tk tw h1 a1 b1 cI cK _ fb g zt (nI n) (nI c) so nu ty hh pa ch9 (-1) 0 0 (nI 0) (nI 0) (nI k) ) (cwV 0 hts gL_law_X1_kind rfl rfl rfl (by decide +kernel) ⟨Nat.le_of_ble_eq_true rfl, Nat.le_of_ble_eq_true rfl⟩) hKm hP hD hS hA hZ (q0 := 0) (ci := 1) rfl rfl rfl rfl hl.1 rfl (Nat.le_of_ble_eq_true rfl) dL_law_411 ⟨by show _ ≤ 1042; omega, by show _ ≤ 16674; omega⟩ (fun r_4 u_6 H locs hw_5 hP hD hS => ?_)
  have hP : va_P (dC, dI) vwCl (w1 h1 a1 b1 cI cK fb g 0 (nI n) (nI c) so nu ty hh pa ch9 (-1) 0 0 (nI 0) (nI 0) (nI k) ++ (w0 h a b0 cB cJ f g (nI n) (nI c) (-1) (nI k) ++ wo o cO go)) H := hP
  have hD : va_D (fun q : Nat => s.heap.size ≤ q) (w1 h1 a1 b1 cI cK fb g 0 (nI n) (nI c) so nu ty hh pa ch9 (-1) 0 0 (nI 0) (nI 0) (nI k) ++ (w0 h a b0 cB cJ f g (nI n) (nI c) (-1) (nI k) ++ wo o cO go)) := hD
  obtain rfl : r_4 = -1 := hw_5
  refine lv_icmp_eq (tgt := 644) hx hb dL_law_414 (by decide) (fun c_7 => ?_) (fun c_7 => ?_)
  · skip
    have hP : va_P (dC, dI) vwCl (w0 h a b0 cB cJ f g (nI n) (nI c) (-1) (nI k) ++ (w1 h1 a1 b1 cI cK fb g 0 (nI n) (nI c) so nu ty hh pa ch9 (-1) 0 0 (nI 0) (nI 0) (nI k) ++ wo o cO go)) H := hP.sub [3, 4, 5, 0, 1, 2, 6] rfl
    have hD : va_D (fun q : Nat => s.heap.size ≤ q) (w0 h a b0 cB cJ f g (nI n) (nI c) (-1) (nI k) ++ (w1 h1 a1 b1 cI cK fb g 0 (nI n) (nI c) so nu ty hh pa ch9 (-1) 0 0 (nI 0) (nI 0) (nI k) ++ wo o cO go)) := hD.sub [3, 4, 5, 0, 1, 2, 6] (by decide) rfl
    refine W.widen (k := 7 + t + 1) (n := 8416 + 6 * (t + 1)) (by omega) (by omega) ?_
    exact K _ _ _ ⟨n, c, k, f, fb, g, -1, 0, so, nu, ty, hh, pa, ch9, -1, 0, 0, nI 0, nI 0, go, hn, hc, hk, hRB, (Or.inl ⟨rfl, rfl, rfl, rfl, rfl, rfl⟩), hP, hD, hS, lv_sub hl [0, 1, 2, 3, 4] rfl⟩
  · skip
    exact absurd rfl c_7
set_option maxHeartbeats 4000000 in
set_option maxRecDepth 100000 in
theorem op_kind_g {p : Program} {e : Env} {s : State} {m : MethodId} {below : List Frame} {meth : Method} {cd : Code} {l : Launch} {b L : Nat} {xs : Nat → Int32} {dC : Nat → ClassId} {dI : Nat → Nat → Nat} {tk tw : Nat} {sa : Nat → Nat} {cB cJ cI cK cO : ClassId} {h a b0 h1 a1 b1 o t : Nat} {H : Heap} {locs : List Loc} {ls : Array Slot} (CX : LC l p s m meth cd b L xs dC dI tk tw sa cB cJ cI cK cO) (ht4 : 4 * t + 4 ≤ L) (K : ∀ (H : Heap) (locs : List Loc) (ls : Array Slot), LI s b dC dI h a b0 cB cJ h1 a1 b1 cI cK o cO t H locs ls → W p l e room_1 s m #[Value.ref b] below meth cd H locs (7 + t + 1) (8416 + 6 * (t + 1)) (lw_Z below #[Value.ref b] s) (F0 m 644 ls [])) (n : Nat) (c : Nat) (k : Nat) (f : Nat → Int32) (fb : Nat → Int32) (g : Nat → Int64) (zt : Int32) (so : Int32) (nu : Int64) (ty : Int32) (hh : Int32) (pa : Int64) (ch9 : Int64) (go : Nat → Int64) (ag v : Nat) (hn : n ≤ 4096) (hc : c ≤ n) (hk : k ≤ 100) (hRB : RB n f fb) (hP : va_P (dC, dI) vwCl (w0 h a b0 cB cJ f g (nI n) (nI c) (nI ag) (nI k) ++ (w1 h1 a1 b1 cI cK fb g zt (nI n) (nI c) so nu ty hh pa ch9 (nI (kd (bY f ag))) ((nv (bY f) ag).toInt32) (hiV (bY f) ag) (nI (ag + hd (bY f ag))) (nI v) (nI k) ++ wo o cO go)) H) (hD : va_D (fun q : Nat => s.heap.size ≤ q) (w0 h a b0 cB cJ f g (nI n) (nI c) (nI ag) (nI k) ++ (w1 h1 a1 b1 cI cK fb g zt (nI n) (nI c) so nu ty hh pa ch9 (nI (kd (bY f ag))) ((nv (bY f) ag).toInt32) (hiV (bY f) ag) (nI (ag + hd (bY f ag))) (nI v) (nI k) ++ wo o cO go))) (hS : va_S (fun q : Nat => s.heap.size ≤ q) s.heap H locs) (hl : lv_has ls 8 [(0, .ref b), (1, .ref h), (2, .ref h1), (3, .ref o), (4, .int (nI (4 * t)))]) (hg1 : ag + hd (bY f ag) + v ≤ c) (hg2 : pl (bY f) ag = nI v)  : W p l e room_1 s m #[Value.ref b] below meth cd H locs (7 + t) (8416 + 6 * t) (lw_Z below #[Value.ref b] s) (F0 m 406 ls []) := by
  obtain ⟨⟨hx, hb, hr, hml, hown, hts, hXs, hbl, hlocks⟩, hst, hL, hK, hZ, hX⟩ := CX
  have hA : ∀ q : Nat, s.heap.size ≤ q → (fun q : Nat => s.heap.size ≤ q) q := fun _ h => h
  have hbA : ¬ (fun q : Nat => s.heap.size ≤ q) b := Nat.not_le.mpr hbl
  have hKx := hK.sub (tys' := t0 cB cJ) [0, 1] rfl
  have hKm := hK.sub (tys' := t1 cI cK) [2, 3] rfl
  have hKh := hK.sub (tys' := th cB cJ cO) [0, 1, 4] rfl
  refine lv_aload_n hx hb dL_law_406 rfl (lv_at hl 1 rfl) ?_
  refine gji (wc := w0 h a b0 cB cJ f g (nI n) (nI c) (nI ag) (nI k)) (wr := w1 h1 a1 b1 cI cK fb g zt (nI n) (nI c) so nu ty hh pa ch9 (nI (kd (bY f ag))) ((nv (bY f) ag).toInt32) (hiV (bY f) ag) (nI (ag + hd (bY f ag))) (nI v) (nI k) ++ wo o cO go) (As := []) (rest := []) ⟨hx, hb, hml, hown, hts⟩ (c_X0_kind l dC dI tk tw h a b0 cB cJ _ f g (nI n) (nI c) (nI k) ag (by omega)) (cwV 0 hts gL_law_X0_kind rfl rfl rfl (by decide +kernel) ⟨Nat.le_of_ble_eq_true rfl, Nat.le_of_ble_eq_true rfl⟩) hKx hP hD hS hA hZ (q0 := 0) (ci := 0) rfl rfl rfl rfl hl.1 rfl (Nat.le_of_ble_eq_true rfl) dL_law_407 ⟨by show _ ≤ 1042; omega, by show _ ≤ 16674; omega⟩ (fun r_1 u_3 H locs hw_2 hP hD hS => ?_)
  have hP : va_P (dC, dI) vwCl (w0 h a b0 cB cJ f g (nI n) (nI c) (nI ag) (nI k) ++ (w1 h1 a1 b1 cI cK fb g zt (nI n) (nI c) so nu ty hh pa ch9 (nI (kd (bY f ag))) ((nv (bY f) ag).toInt32) (hiV (bY f) ag) (nI (ag + hd (bY f ag))) (nI v) (nI k) ++ wo o cO go)) H := hP
  have hD : va_D (fun q : Nat => s.heap.size ≤ q) (w0 h a b0 cB cJ f g (nI n) (nI c) (nI ag) (nI k) ++ (w1 h1 a1 b1 cI cK fb g zt (nI n) (nI c) so nu ty hh pa ch9 (nI (kd (bY f ag))) ((nv (bY f) ag).toInt32) (hiV (bY f) ag) (nI (ag + hd (bY f ag))) (nI v) (nI k) ++ wo o cO go)) := hD
  obtain rfl : r_1 = nI (kd (bY f ag)) := hw_2
  refine lv_aload_n hx hb dL_law_410 rfl (lv_at hl 2 rfl) ?_
  have hP : va_P (dC, dI) vwCl (w1 h1 a1 b1 cI cK fb g zt (nI n) (nI c) so nu ty hh pa ch9 (nI (kd (bY f ag))) ((nv (bY f) ag).toInt32) (hiV (bY f) ag) (nI (ag + hd (bY f ag))) (nI v) (nI k) ++ (w0 h a b0 cB cJ f g (nI n) (nI c) (nI ag) (nI k) ++ wo o cO go)) H := hP.sub [3, 4, 5, 0, 1, 2, 6] rfl
  have hD : va_D (fun q : Nat => s.heap.size ≤ q) (w1 h1 a1 b1 cI cK fb g zt (nI n) (nI c) so nu ty hh pa ch9 (nI (kd (bY f ag))) ((nv (bY f) ag).toInt32) (hiV (bY f) ag) (nI (ag + hd (bY f ag))) (nI v) (nI k) ++ (w0 h a b0 cB cJ f g (nI n) (nI c) (nI ag) (nI k) ++ wo o cO go)) := hD.sub [3, 4, 5, 0, 1, 2, 6] (by decide) rfl
  refine gji (wc := w1 h1 a1 b1 cI cK fb g zt (nI n) (nI c) so nu ty hh pa ch9 (nI (kd (bY f ag))) ((nv (bY f) ag).toInt32) (hiV (bY f) ag) (nI (ag + hd (bY f ag))) (nI v) (nI k)) (wr := w0 h a b0 cB cJ f g (nI n) (nI c) (nI ag) (nI k) ++ wo o cO go) (As := []) (rest := [.int (nI (kd (bY f ag)))]) ⟨hx, hb, hml, hown, hts⟩ (c_X1_kind l dC dI tk tw h1 a1 b1 cI cK _ fb g zt (nI n) (nI c) so nu ty hh pa ch9 (nI (kd (bY f ag))) ((nv (bY f) ag).toInt32) (hiV (bY f) ag) (nI (ag + hd (bY f ag))) (nI v) (nI k) ) (cwV 0 hts gL_law_X1_kind rfl rfl rfl (by decide +kernel) ⟨Nat.le_of_ble_eq_true rfl, Nat.le_of_ble_eq_true rfl⟩) hKm hP hD hS hA hZ (q0 := 0) (ci := 1) rfl rfl rfl rfl hl.1 rfl (Nat.le_of_ble_eq_true rfl) dL_law_411 ⟨by show _ ≤ 1042; omega, by show _ ≤ 16674; omega⟩ (fun r_4 u_6 H locs hw_5 hP hD hS => ?_)
  have hP : va_P (dC, dI) vwCl (w1 h1 a1 b1 cI cK fb g 0 (nI n) (nI c) so nu ty hh pa ch9 (nI (kd (bY f ag))) ((nv (bY f) ag).toInt32) (hiV (bY f) ag) (nI (ag + hd (bY f ag))) (nI v) (nI k) ++ (w0 h a b0 cB cJ f g (nI n) (nI c) (nI ag) (nI k) ++ wo o cO go)) H := hP
  have hD : va_D (fun q : Nat => s.heap.size ≤ q) (w1 h1 a1 b1 cI cK fb g 0 (nI n) (nI c) so nu ty hh pa ch9 (nI (kd (bY f ag))) ((nv (bY f) ag).toInt32) (hiV (bY f) ag) (nI (ag + hd (bY f ag))) (nI v) (nI k) ++ (w0 h a b0 cB cJ f g (nI n) (nI c) (nI ag) (nI k) ++ wo o cO go)) := hD
  obtain rfl : r_4 = nI (kd (bY f ag)) := hw_5
  refine lv_icmp_eq (tgt := 644) hx hb dL_law_414 (by decide) (fun c_7 => ?_) (fun c_7 => ?_)
  · skip
    have hP : va_P (dC, dI) vwCl (w0 h a b0 cB cJ f g (nI n) (nI c) (nI ag) (nI k) ++ (w1 h1 a1 b1 cI cK fb g 0 (nI n) (nI c) so nu ty hh pa ch9 (nI (kd (bY f ag))) ((nv (bY f) ag).toInt32) (hiV (bY f) ag) (nI (ag + hd (bY f ag))) (nI v) (nI k) ++ wo o cO go)) H := hP.sub [3, 4, 5, 0, 1, 2, 6] rfl
    have hD : va_D (fun q : Nat => s.heap.size ≤ q) (w0 h a b0 cB cJ f g (nI n) (nI c) (nI ag) (nI k) ++ (w1 h1 a1 b1 cI cK fb g 0 (nI n) (nI c) so nu ty hh pa ch9 (nI (kd (bY f ag))) ((nv (bY f) ag).toInt32) (hiV (bY f) ag) (nI (ag + hd (bY f ag))) (nI v) (nI k) ++ wo o cO go)) := hD.sub [3, 4, 5, 0, 1, 2, 6] (by decide) rfl
    refine W.widen (k := 7 + t + 1) (n := 8416 + 6 * (t + 1)) (by omega) (by omega) ?_
    exact K _ _ _ ⟨n, c, k, f, fb, g, nI ag, 0, so, nu, ty, hh, pa, ch9, nI (kd (bY f ag)), (nv (bY f) ag).toInt32, hiV (bY f) ag, nI (ag + hd (bY f ag)), nI v, go, hn, hc, hk, hRB, (Or.inr ⟨ag, v, rfl, hg1, hg2, rfl, rfl, rfl, rfl, rfl⟩), hP, hD, hS, lv_sub hl [0, 1, 2, 3, 4] rfl⟩
  · skip
    exact absurd (rfl) c_7
set_option maxHeartbeats 4000000 in
set_option maxRecDepth 100000 in
theorem op_valueLow_n {p : Program} {e : Env} {s : State} {m : MethodId} {below : List Frame} {meth : Method} {cd : Code} {l : Launch} {b L : Nat} {xs : Nat → Int32} {dC : Nat → ClassId} {dI : Nat → Nat → Nat} {tk tw : Nat} {sa : Nat → Nat} {cB cJ cI cK cO : ClassId} {h a b0 h1 a1 b1 o t : Nat} {H : Heap} {locs : List Loc} {ls : Array Slot} (CX : LC l p s m meth cd b L xs dC dI tk tw sa cB cJ cI cK cO) (ht4 : 4 * t + 4 ≤ L) (K : ∀ (H : Heap) (locs : List Loc) (ls : Array Slot), LI s b dC dI h a b0 cB cJ h1 a1 b1 cI cK o cO t H locs ls → W p l e room_1 s m #[Value.ref b] below meth cd H locs (7 + t + 1) (8416 + 6 * (t + 1)) (lw_Z below #[Value.ref b] s) (F0 m 644 ls [])) (n : Nat) (c : Nat) (k : Nat) (f : Nat → Int32) (fb : Nat → Int32) (g : Nat → Int64) (zt : Int32) (so : Int32) (nu : Int64) (ty : Int32) (hh : Int32) (pa : Int64) (ch9 : Int64) (go : Nat → Int64) (hn : n ≤ 4096) (hc : c ≤ n) (hk : k ≤ 100) (hRB : RB n f fb) (hP : va_P (dC, dI) vwCl (w0 h a b0 cB cJ f g (nI n) (nI c) (-1) (nI k) ++ (w1 h1 a1 b1 cI cK fb g zt (nI n) (nI c) so nu ty hh pa ch9 (-1) 0 0 (nI 0) (nI 0) (nI k) ++ wo o cO go)) H) (hD : va_D (fun q : Nat => s.heap.size ≤ q) (w0 h a b0 cB cJ f g (nI n) (nI c) (-1) (nI k) ++ (w1 h1 a1 b1 cI cK fb g zt (nI n) (nI c) so nu ty hh pa ch9 (-1) 0 0 (nI 0) (nI 0) (nI k) ++ wo o cO go))) (hS : va_S (fun q : Nat => s.heap.size ≤ q) s.heap H locs) (hl : lv_has ls 8 [(0, .ref b), (1, .ref h), (2, .ref h1), (3, .ref o), (4, .int (nI (4 * t)))])  : W p l e room_1 s m #[Value.ref b] below meth cd H locs (7 + t) (8416 + 6 * t) (lw_Z below #[Value.ref b] s) (F0 m 419 ls []) := by
  obtain ⟨⟨hx, hb, hr, hml, hown, hts, hXs, hbl, hlocks⟩, hst, hL, hK, hZ, hX⟩ := CX
  have hA : ∀ q : Nat, s.heap.size ≤ q → (fun q : Nat => s.heap.size ≤ q) q := fun _ h => h
  have hbA : ¬ (fun q : Nat => s.heap.size ≤ q) b := Nat.not_le.mpr hbl
  have hKx := hK.sub (tys' := t0 cB cJ) [0, 1] rfl
  have hKm := hK.sub (tys' := t1 cI cK) [2, 3] rfl
  have hKh := hK.sub (tys' := th cB cJ cO) [0, 1, 4] rfl
  refine lv_aload_n hx hb dL_law_419 rfl (lv_at hl 1 rfl) ?_
  refine gji (wc := w0 h a b0 cB cJ f g (nI n) (nI c) (-1) (nI k)) (wr := w1 h1 a1 b1 cI cK fb g zt (nI n) (nI c) so nu ty hh pa ch9 (-1) 0 0 (nI 0) (nI 0) (nI k) ++ wo o cO go) (As := []) (rest := []) ⟨hx, hb, hml, hown, hts⟩ (c_X0_valueLow_n l dC dI tk tw h a b0 cB cJ _ f g (nI n) (nI c) (nI k) ) (cwV 0 hts gL_law_X0_valueLow rfl rfl rfl (by decide +kernel) ⟨Nat.le_of_ble_eq_true rfl, Nat.le_of_ble_eq_true rfl⟩) hKx hP hD hS hA hZ (q0 := 0) (ci := 0) rfl rfl rfl rfl hl.1 rfl (Nat.le_of_ble_eq_true rfl) dL_law_420 ⟨by show _ ≤ 1042; omega, by show _ ≤ 16674; omega⟩ (fun r_1 u_3 H locs hw_2 hP hD hS => ?_)
  have hP : va_P (dC, dI) vwCl (w0 h a b0 cB cJ f g (nI n) (nI c) (-1) (nI k) ++ (w1 h1 a1 b1 cI cK fb g zt (nI n) (nI c) so nu ty hh pa ch9 (-1) 0 0 (nI 0) (nI 0) (nI k) ++ wo o cO go)) H := hP
  have hD : va_D (fun q : Nat => s.heap.size ≤ q) (w0 h a b0 cB cJ f g (nI n) (nI c) (-1) (nI k) ++ (w1 h1 a1 b1 cI cK fb g zt (nI n) (nI c) so nu ty hh pa ch9 (-1) 0 0 (nI 0) (nI 0) (nI k) ++ wo o cO go)) := hD
  obtain rfl : r_1 = 0 := hw_2
  refine lv_aload_n hx hb dL_law_423 rfl (lv_at hl 2 rfl) ?_
  have hP : va_P (dC, dI) vwCl (w1 h1 a1 b1 cI cK fb g zt (nI n) (nI c) so nu ty hh pa ch9 (-1) 0 0 (nI 0) (nI 0) (nI k) ++ (w0 h a b0 cB cJ f g (nI n) (nI c) (-1) (nI k) ++ wo o cO go)) H := hP.sub [3, 4, 5, 0, 1, 2, 6] rfl
  have hD : va_D (fun q : Nat => s.heap.size ≤ q) (w1 h1 a1 b1 cI cK fb g zt (nI n) (nI c) so nu ty hh pa ch9 (-1) 0 0 (nI 0) (nI 0) (nI k) ++ (w0 h a b0 cB cJ f g (nI n) (nI c) (-1) (nI k) ++ wo o cO go)) := hD.sub [3, 4, 5, 0, 1, 2, 6] (by decide) rfl
  refine gji (wc := w1 h1 a1 b1 cI cK fb g zt (nI n) (nI c) so nu ty hh pa ch9 (-1) 0 0 (nI 0) (nI 0) (nI k)) (wr := w0 h a b0 cB cJ f g (nI n) (nI c) (-1) (nI k) ++ wo o cO go) (As := []) (rest := [.int 0]) ⟨hx, hb, hml, hown, hts⟩ (c_X1_valueLow l dC dI tk tw h1 a1 b1 cI cK _ fb g zt (nI n) (nI c) so nu ty hh pa ch9 (-1) 0 0 (nI 0) (nI 0) (nI k) ) (cwV 0 hts gL_law_X1_valueLow rfl rfl rfl (by decide +kernel) ⟨Nat.le_of_ble_eq_true rfl, Nat.le_of_ble_eq_true rfl⟩) hKm hP hD hS hA hZ (q0 := 0) (ci := 1) rfl rfl rfl rfl hl.1 rfl (Nat.le_of_ble_eq_true rfl) dL_law_424 ⟨by show _ ≤ 1042; omega, by show _ ≤ 16674; omega⟩ (fun r_4 u_6 H locs hw_5 hP hD hS => ?_)
  have hP : va_P (dC, dI) vwCl (w1 h1 a1 b1 cI cK fb g 0 (nI n) (nI c) so nu ty hh pa ch9 (-1) 0 0 (nI 0) (nI 0) (nI k) ++ (w0 h a b0 cB cJ f g (nI n) (nI c) (-1) (nI k) ++ wo o cO go)) H := hP
  have hD : va_D (fun q : Nat => s.heap.size ≤ q) (w1 h1 a1 b1 cI cK fb g 0 (nI n) (nI c) so nu ty hh pa ch9 (-1) 0 0 (nI 0) (nI 0) (nI k) ++ (w0 h a b0 cB cJ f g (nI n) (nI c) (-1) (nI k) ++ wo o cO go)) := hD
  obtain rfl : r_4 = 0 := hw_5
  refine lv_icmp_eq (tgt := 644) hx hb dL_law_427 (by decide) (fun c_7 => ?_) (fun c_7 => ?_)
  · skip
    have hP : va_P (dC, dI) vwCl (w0 h a b0 cB cJ f g (nI n) (nI c) (-1) (nI k) ++ (w1 h1 a1 b1 cI cK fb g 0 (nI n) (nI c) so nu ty hh pa ch9 (-1) 0 0 (nI 0) (nI 0) (nI k) ++ wo o cO go)) H := hP.sub [3, 4, 5, 0, 1, 2, 6] rfl
    have hD : va_D (fun q : Nat => s.heap.size ≤ q) (w0 h a b0 cB cJ f g (nI n) (nI c) (-1) (nI k) ++ (w1 h1 a1 b1 cI cK fb g 0 (nI n) (nI c) so nu ty hh pa ch9 (-1) 0 0 (nI 0) (nI 0) (nI k) ++ wo o cO go)) := hD.sub [3, 4, 5, 0, 1, 2, 6] (by decide) rfl
    refine W.widen (k := 7 + t + 1) (n := 8416 + 6 * (t + 1)) (by omega) (by omega) ?_
    exact K _ _ _ ⟨n, c, k, f, fb, g, -1, 0, so, nu, ty, hh, pa, ch9, -1, 0, 0, nI 0, nI 0, go, hn, hc, hk, hRB, (Or.inl ⟨rfl, rfl, rfl, rfl, rfl, rfl⟩), hP, hD, hS, lv_sub hl [0, 1, 2, 3, 4] rfl⟩
  · skip
    exact absurd rfl c_7
set_option maxHeartbeats 4000000 in
set_option maxRecDepth 100000 in
theorem op_valueLow_g {p : Program} {e : Env} {s : State} {m : MethodId} {below : List Frame} {meth : Method} {cd : Code} {l : Launch} {b L : Nat} {xs : Nat → Int32} {dC : Nat → ClassId} {dI : Nat → Nat → Nat} {tk tw : Nat} {sa : Nat → Nat} {cB cJ cI cK cO : ClassId} {h a b0 h1 a1 b1 o t : Nat} {H : Heap} {locs : List Loc} {ls : Array Slot} (CX : LC l p s m meth cd b L xs dC dI tk tw sa cB cJ cI cK cO) (ht4 : 4 * t + 4 ≤ L) (K : ∀ (H : Heap) (locs : List Loc) (ls : Array Slot), LI s b dC dI h a b0 cB cJ h1 a1 b1 cI cK o cO t H locs ls → W p l e room_1 s m #[Value.ref b] below meth cd H locs (7 + t + 1) (8416 + 6 * (t + 1)) (lw_Z below #[Value.ref b] s) (F0 m 644 ls [])) (n : Nat) (c : Nat) (k : Nat) (f : Nat → Int32) (fb : Nat → Int32) (g : Nat → Int64) (zt : Int32) (so : Int32) (nu : Int64) (ty : Int32) (hh : Int32) (pa : Int64) (ch9 : Int64) (go : Nat → Int64) (ag v : Nat) (hn : n ≤ 4096) (hc : c ≤ n) (hk : k ≤ 100) (hRB : RB n f fb) (hP : va_P (dC, dI) vwCl (w0 h a b0 cB cJ f g (nI n) (nI c) (nI ag) (nI k) ++ (w1 h1 a1 b1 cI cK fb g zt (nI n) (nI c) so nu ty hh pa ch9 (nI (kd (bY f ag))) ((nv (bY f) ag).toInt32) (hiV (bY f) ag) (nI (ag + hd (bY f ag))) (nI v) (nI k) ++ wo o cO go)) H) (hD : va_D (fun q : Nat => s.heap.size ≤ q) (w0 h a b0 cB cJ f g (nI n) (nI c) (nI ag) (nI k) ++ (w1 h1 a1 b1 cI cK fb g zt (nI n) (nI c) so nu ty hh pa ch9 (nI (kd (bY f ag))) ((nv (bY f) ag).toInt32) (hiV (bY f) ag) (nI (ag + hd (bY f ag))) (nI v) (nI k) ++ wo o cO go))) (hS : va_S (fun q : Nat => s.heap.size ≤ q) s.heap H locs) (hl : lv_has ls 8 [(0, .ref b), (1, .ref h), (2, .ref h1), (3, .ref o), (4, .int (nI (4 * t)))]) (hg1 : ag + hd (bY f ag) + v ≤ c) (hg2 : pl (bY f) ag = nI v)  : W p l e room_1 s m #[Value.ref b] below meth cd H locs (7 + t) (8416 + 6 * t) (lw_Z below #[Value.ref b] s) (F0 m 419 ls []) := by
  obtain ⟨⟨hx, hb, hr, hml, hown, hts, hXs, hbl, hlocks⟩, hst, hL, hK, hZ, hX⟩ := CX
  have hA : ∀ q : Nat, s.heap.size ≤ q → (fun q : Nat => s.heap.size ≤ q) q := fun _ h => h
  have hbA : ¬ (fun q : Nat => s.heap.size ≤ q) b := Nat.not_le.mpr hbl
  have hKx := hK.sub (tys' := t0 cB cJ) [0, 1] rfl
  have hKm := hK.sub (tys' := t1 cI cK) [2, 3] rfl
  have hKh := hK.sub (tys' := th cB cJ cO) [0, 1, 4] rfl
  refine lv_aload_n hx hb dL_law_419 rfl (lv_at hl 1 rfl) ?_
  refine gji (wc := w0 h a b0 cB cJ f g (nI n) (nI c) (nI ag) (nI k)) (wr := w1 h1 a1 b1 cI cK fb g zt (nI n) (nI c) so nu ty hh pa ch9 (nI (kd (bY f ag))) ((nv (bY f) ag).toInt32) (hiV (bY f) ag) (nI (ag + hd (bY f ag))) (nI v) (nI k) ++ wo o cO go) (As := []) (rest := []) ⟨hx, hb, hml, hown, hts⟩ (c_X0_valueLow l dC dI tk tw h a b0 cB cJ _ f g (nI n) (nI c) (nI k) ag (by omega)) (cwV 0 hts gL_law_X0_valueLow rfl rfl rfl (by decide +kernel) ⟨Nat.le_of_ble_eq_true rfl, Nat.le_of_ble_eq_true rfl⟩) hKx hP hD hS hA hZ (q0 := 0) (ci := 0) rfl rfl rfl rfl hl.1 rfl (Nat.le_of_ble_eq_true rfl) dL_law_420 ⟨by show _ ≤ 1042; omega, by show _ ≤ 16674; omega⟩ (fun r_1 u_3 H locs hw_2 hP hD hS => ?_)
  have hP : va_P (dC, dI) vwCl (w0 h a b0 cB cJ f g (nI n) (nI c) (nI ag) (nI k) ++ (w1 h1 a1 b1 cI cK fb g zt (nI n) (nI c) so nu ty hh pa ch9 (nI (kd (bY f ag))) ((nv (bY f) ag).toInt32) (hiV (bY f) ag) (nI (ag + hd (bY f ag))) (nI v) (nI k) ++ wo o cO go)) H := hP
  have hD : va_D (fun q : Nat => s.heap.size ≤ q) (w0 h a b0 cB cJ f g (nI n) (nI c) (nI ag) (nI k) ++ (w1 h1 a1 b1 cI cK fb g zt (nI n) (nI c) so nu ty hh pa ch9 (nI (kd (bY f ag))) ((nv (bY f) ag).toInt32) (hiV (bY f) ag) (nI (ag + hd (bY f ag))) (nI v) (nI k) ++ wo o cO go)) := hD
  obtain rfl : r_1 = (nv (bY f) ag).toInt32 := hw_2
  refine lv_aload_n hx hb dL_law_423 rfl (lv_at hl 2 rfl) ?_
  have hP : va_P (dC, dI) vwCl (w1 h1 a1 b1 cI cK fb g zt (nI n) (nI c) so nu ty hh pa ch9 (nI (kd (bY f ag))) ((nv (bY f) ag).toInt32) (hiV (bY f) ag) (nI (ag + hd (bY f ag))) (nI v) (nI k) ++ (w0 h a b0 cB cJ f g (nI n) (nI c) (nI ag) (nI k) ++ wo o cO go)) H := hP.sub [3, 4, 5, 0, 1, 2, 6] rfl
  have hD : va_D (fun q : Nat => s.heap.size ≤ q) (w1 h1 a1 b1 cI cK fb g zt (nI n) (nI c) so nu ty hh pa ch9 (nI (kd (bY f ag))) ((nv (bY f) ag).toInt32) (hiV (bY f) ag) (nI (ag + hd (bY f ag))) (nI v) (nI k) ++ (w0 h a b0 cB cJ f g (nI n) (nI c) (nI ag) (nI k) ++ wo o cO go)) := hD.sub [3, 4, 5, 0, 1, 2, 6] (by decide) rfl
  refine gji (wc := w1 h1 a1 b1 cI cK fb g zt (nI n) (nI c) so nu ty hh pa ch9 (nI (kd (bY f ag))) ((nv (bY f) ag).toInt32) (hiV (bY f) ag) (nI (ag + hd (bY f ag))) (nI v) (nI k)) (wr := w0 h a b0 cB cJ f g (nI n) (nI c) (nI ag) (nI k) ++ wo o cO go) (As := []) (rest := [.int ((nv (bY f) ag).toInt32)]) ⟨hx, hb, hml, hown, hts⟩ (c_X1_valueLow l dC dI tk tw h1 a1 b1 cI cK _ fb g zt (nI n) (nI c) so nu ty hh pa ch9 (nI (kd (bY f ag))) ((nv (bY f) ag).toInt32) (hiV (bY f) ag) (nI (ag + hd (bY f ag))) (nI v) (nI k) ) (cwV 0 hts gL_law_X1_valueLow rfl rfl rfl (by decide +kernel) ⟨Nat.le_of_ble_eq_true rfl, Nat.le_of_ble_eq_true rfl⟩) hKm hP hD hS hA hZ (q0 := 0) (ci := 1) rfl rfl rfl rfl hl.1 rfl (Nat.le_of_ble_eq_true rfl) dL_law_424 ⟨by show _ ≤ 1042; omega, by show _ ≤ 16674; omega⟩ (fun r_4 u_6 H locs hw_5 hP hD hS => ?_)
  have hP : va_P (dC, dI) vwCl (w1 h1 a1 b1 cI cK fb g 0 (nI n) (nI c) so nu ty hh pa ch9 (nI (kd (bY f ag))) ((nv (bY f) ag).toInt32) (hiV (bY f) ag) (nI (ag + hd (bY f ag))) (nI v) (nI k) ++ (w0 h a b0 cB cJ f g (nI n) (nI c) (nI ag) (nI k) ++ wo o cO go)) H := hP
  have hD : va_D (fun q : Nat => s.heap.size ≤ q) (w1 h1 a1 b1 cI cK fb g 0 (nI n) (nI c) so nu ty hh pa ch9 (nI (kd (bY f ag))) ((nv (bY f) ag).toInt32) (hiV (bY f) ag) (nI (ag + hd (bY f ag))) (nI v) (nI k) ++ (w0 h a b0 cB cJ f g (nI n) (nI c) (nI ag) (nI k) ++ wo o cO go)) := hD
  obtain rfl : r_4 = (nv (bY f) ag).toInt32 := hw_5
  refine lv_icmp_eq (tgt := 644) hx hb dL_law_427 (by decide) (fun c_7 => ?_) (fun c_7 => ?_)
  · skip
    have hP : va_P (dC, dI) vwCl (w0 h a b0 cB cJ f g (nI n) (nI c) (nI ag) (nI k) ++ (w1 h1 a1 b1 cI cK fb g 0 (nI n) (nI c) so nu ty hh pa ch9 (nI (kd (bY f ag))) ((nv (bY f) ag).toInt32) (hiV (bY f) ag) (nI (ag + hd (bY f ag))) (nI v) (nI k) ++ wo o cO go)) H := hP.sub [3, 4, 5, 0, 1, 2, 6] rfl
    have hD : va_D (fun q : Nat => s.heap.size ≤ q) (w0 h a b0 cB cJ f g (nI n) (nI c) (nI ag) (nI k) ++ (w1 h1 a1 b1 cI cK fb g 0 (nI n) (nI c) so nu ty hh pa ch9 (nI (kd (bY f ag))) ((nv (bY f) ag).toInt32) (hiV (bY f) ag) (nI (ag + hd (bY f ag))) (nI v) (nI k) ++ wo o cO go)) := hD.sub [3, 4, 5, 0, 1, 2, 6] (by decide) rfl
    refine W.widen (k := 7 + t + 1) (n := 8416 + 6 * (t + 1)) (by omega) (by omega) ?_
    exact K _ _ _ ⟨n, c, k, f, fb, g, nI ag, 0, so, nu, ty, hh, pa, ch9, nI (kd (bY f ag)), (nv (bY f) ag).toInt32, hiV (bY f) ag, nI (ag + hd (bY f ag)), nI v, go, hn, hc, hk, hRB, (Or.inr ⟨ag, v, rfl, hg1, hg2, rfl, rfl, rfl, rfl, rfl⟩), hP, hD, hS, lv_sub hl [0, 1, 2, 3, 4] rfl⟩
  · skip
    exact absurd (rfl) c_7
set_option maxHeartbeats 4000000 in
set_option maxRecDepth 100000 in
theorem op_valueHigh_n {p : Program} {e : Env} {s : State} {m : MethodId} {below : List Frame} {meth : Method} {cd : Code} {l : Launch} {b L : Nat} {xs : Nat → Int32} {dC : Nat → ClassId} {dI : Nat → Nat → Nat} {tk tw : Nat} {sa : Nat → Nat} {cB cJ cI cK cO : ClassId} {h a b0 h1 a1 b1 o t : Nat} {H : Heap} {locs : List Loc} {ls : Array Slot} (CX : LC l p s m meth cd b L xs dC dI tk tw sa cB cJ cI cK cO) (ht4 : 4 * t + 4 ≤ L) (K : ∀ (H : Heap) (locs : List Loc) (ls : Array Slot), LI s b dC dI h a b0 cB cJ h1 a1 b1 cI cK o cO t H locs ls → W p l e room_1 s m #[Value.ref b] below meth cd H locs (7 + t + 1) (8416 + 6 * (t + 1)) (lw_Z below #[Value.ref b] s) (F0 m 644 ls [])) (n : Nat) (c : Nat) (k : Nat) (f : Nat → Int32) (fb : Nat → Int32) (g : Nat → Int64) (zt : Int32) (so : Int32) (nu : Int64) (ty : Int32) (hh : Int32) (pa : Int64) (ch9 : Int64) (go : Nat → Int64) (hn : n ≤ 4096) (hc : c ≤ n) (hk : k ≤ 100) (hRB : RB n f fb) (hP : va_P (dC, dI) vwCl (w0 h a b0 cB cJ f g (nI n) (nI c) (-1) (nI k) ++ (w1 h1 a1 b1 cI cK fb g zt (nI n) (nI c) so nu ty hh pa ch9 (-1) 0 0 (nI 0) (nI 0) (nI k) ++ wo o cO go)) H) (hD : va_D (fun q : Nat => s.heap.size ≤ q) (w0 h a b0 cB cJ f g (nI n) (nI c) (-1) (nI k) ++ (w1 h1 a1 b1 cI cK fb g zt (nI n) (nI c) so nu ty hh pa ch9 (-1) 0 0 (nI 0) (nI 0) (nI k) ++ wo o cO go))) (hS : va_S (fun q : Nat => s.heap.size ≤ q) s.heap H locs) (hl : lv_has ls 8 [(0, .ref b), (1, .ref h), (2, .ref h1), (3, .ref o), (4, .int (nI (4 * t)))])  : W p l e room_1 s m #[Value.ref b] below meth cd H locs (7 + t) (8416 + 6 * t) (lw_Z below #[Value.ref b] s) (F0 m 432 ls []) := by
  obtain ⟨⟨hx, hb, hr, hml, hown, hts, hXs, hbl, hlocks⟩, hst, hL, hK, hZ, hX⟩ := CX
  have hA : ∀ q : Nat, s.heap.size ≤ q → (fun q : Nat => s.heap.size ≤ q) q := fun _ h => h
  have hbA : ¬ (fun q : Nat => s.heap.size ≤ q) b := Nat.not_le.mpr hbl
  have hKx := hK.sub (tys' := t0 cB cJ) [0, 1] rfl
  have hKm := hK.sub (tys' := t1 cI cK) [2, 3] rfl
  have hKh := hK.sub (tys' := th cB cJ cO) [0, 1, 4] rfl
  refine lv_aload_n hx hb dL_law_432 rfl (lv_at hl 1 rfl) ?_
  refine gji (wc := w0 h a b0 cB cJ f g (nI n) (nI c) (-1) (nI k)) (wr := w1 h1 a1 b1 cI cK fb g zt (nI n) (nI c) so nu ty hh pa ch9 (-1) 0 0 (nI 0) (nI 0) (nI k) ++ wo o cO go) (As := []) (rest := []) ⟨hx, hb, hml, hown, hts⟩ (c_X0_valueHigh_n l dC dI tk tw h a b0 cB cJ _ f g (nI n) (nI c) (nI k) ) (cwV 0 hts gL_law_X0_valueHigh rfl rfl rfl (by decide +kernel) ⟨Nat.le_of_ble_eq_true rfl, Nat.le_of_ble_eq_true rfl⟩) hKx hP hD hS hA hZ (q0 := 0) (ci := 0) rfl rfl rfl rfl hl.1 rfl (Nat.le_of_ble_eq_true rfl) dL_law_433 ⟨by show _ ≤ 1042; omega, by show _ ≤ 16674; omega⟩ (fun r_1 u_3 H locs hw_2 hP hD hS => ?_)
  have hP : va_P (dC, dI) vwCl (w0 h a b0 cB cJ f g (nI n) (nI c) (-1) (nI k) ++ (w1 h1 a1 b1 cI cK fb g zt (nI n) (nI c) so nu ty hh pa ch9 (-1) 0 0 (nI 0) (nI 0) (nI k) ++ wo o cO go)) H := hP
  have hD : va_D (fun q : Nat => s.heap.size ≤ q) (w0 h a b0 cB cJ f g (nI n) (nI c) (-1) (nI k) ++ (w1 h1 a1 b1 cI cK fb g zt (nI n) (nI c) so nu ty hh pa ch9 (-1) 0 0 (nI 0) (nI 0) (nI k) ++ wo o cO go)) := hD
  obtain rfl : r_1 = 0 := hw_2
  refine lv_aload_n hx hb dL_law_436 rfl (lv_at hl 2 rfl) ?_
  have hP : va_P (dC, dI) vwCl (w1 h1 a1 b1 cI cK fb g zt (nI n) (nI c) so nu ty hh pa ch9 (-1) 0 0 (nI 0) (nI 0) (nI k) ++ (w0 h a b0 cB cJ f g (nI n) (nI c) (-1) (nI k) ++ wo o cO go)) H := hP.sub [3, 4, 5, 0, 1, 2, 6] rfl
  have hD : va_D (fun q : Nat => s.heap.size ≤ q) (w1 h1 a1 b1 cI cK fb g zt (nI n) (nI c) so nu ty hh pa ch9 (-1) 0 0 (nI 0) (nI 0) (nI k) ++ (w0 h a b0 cB cJ f g (nI n) (nI c) (-1) (nI k) ++ wo o cO go)) := hD.sub [3, 4, 5, 0, 1, 2, 6] (by decide) rfl
  refine gji (wc := w1 h1 a1 b1 cI cK fb g zt (nI n) (nI c) so nu ty hh pa ch9 (-1) 0 0 (nI 0) (nI 0) (nI k)) (wr := w0 h a b0 cB cJ f g (nI n) (nI c) (-1) (nI k) ++ wo o cO go) (As := []) (rest := [.int 0]) ⟨hx, hb, hml, hown, hts⟩ (c_X1_valueHigh l dC dI tk tw h1 a1 b1 cI cK _ fb g zt (nI n) (nI c) so nu ty hh pa ch9 (-1) 0 0 (nI 0) (nI 0) (nI k) ) (cwV 0 hts gL_law_X1_valueHigh rfl rfl rfl (by decide +kernel) ⟨Nat.le_of_ble_eq_true rfl, Nat.le_of_ble_eq_true rfl⟩) hKm hP hD hS hA hZ (q0 := 0) (ci := 1) rfl rfl rfl rfl hl.1 rfl (Nat.le_of_ble_eq_true rfl) dL_law_437 ⟨by show _ ≤ 1042; omega, by show _ ≤ 16674; omega⟩ (fun r_4 u_6 H locs hw_5 hP hD hS => ?_)
  have hP : va_P (dC, dI) vwCl (w1 h1 a1 b1 cI cK fb g 0 (nI n) (nI c) so nu ty hh pa ch9 (-1) 0 0 (nI 0) (nI 0) (nI k) ++ (w0 h a b0 cB cJ f g (nI n) (nI c) (-1) (nI k) ++ wo o cO go)) H := hP
  have hD : va_D (fun q : Nat => s.heap.size ≤ q) (w1 h1 a1 b1 cI cK fb g 0 (nI n) (nI c) so nu ty hh pa ch9 (-1) 0 0 (nI 0) (nI 0) (nI k) ++ (w0 h a b0 cB cJ f g (nI n) (nI c) (-1) (nI k) ++ wo o cO go)) := hD
  obtain rfl : r_4 = 0 := hw_5
  refine lv_icmp_eq (tgt := 644) hx hb dL_law_440 (by decide) (fun c_7 => ?_) (fun c_7 => ?_)
  · skip
    have hP : va_P (dC, dI) vwCl (w0 h a b0 cB cJ f g (nI n) (nI c) (-1) (nI k) ++ (w1 h1 a1 b1 cI cK fb g 0 (nI n) (nI c) so nu ty hh pa ch9 (-1) 0 0 (nI 0) (nI 0) (nI k) ++ wo o cO go)) H := hP.sub [3, 4, 5, 0, 1, 2, 6] rfl
    have hD : va_D (fun q : Nat => s.heap.size ≤ q) (w0 h a b0 cB cJ f g (nI n) (nI c) (-1) (nI k) ++ (w1 h1 a1 b1 cI cK fb g 0 (nI n) (nI c) so nu ty hh pa ch9 (-1) 0 0 (nI 0) (nI 0) (nI k) ++ wo o cO go)) := hD.sub [3, 4, 5, 0, 1, 2, 6] (by decide) rfl
    refine W.widen (k := 7 + t + 1) (n := 8416 + 6 * (t + 1)) (by omega) (by omega) ?_
    exact K _ _ _ ⟨n, c, k, f, fb, g, -1, 0, so, nu, ty, hh, pa, ch9, -1, 0, 0, nI 0, nI 0, go, hn, hc, hk, hRB, (Or.inl ⟨rfl, rfl, rfl, rfl, rfl, rfl⟩), hP, hD, hS, lv_sub hl [0, 1, 2, 3, 4] rfl⟩
  · skip
    exact absurd rfl c_7
set_option maxHeartbeats 4000000 in
set_option maxRecDepth 100000 in
theorem op_valueHigh_g {p : Program} {e : Env} {s : State} {m : MethodId} {below : List Frame} {meth : Method} {cd : Code} {l : Launch} {b L : Nat} {xs : Nat → Int32} {dC : Nat → ClassId} {dI : Nat → Nat → Nat} {tk tw : Nat} {sa : Nat → Nat} {cB cJ cI cK cO : ClassId} {h a b0 h1 a1 b1 o t : Nat} {H : Heap} {locs : List Loc} {ls : Array Slot} (CX : LC l p s m meth cd b L xs dC dI tk tw sa cB cJ cI cK cO) (ht4 : 4 * t + 4 ≤ L) (K : ∀ (H : Heap) (locs : List Loc) (ls : Array Slot), LI s b dC dI h a b0 cB cJ h1 a1 b1 cI cK o cO t H locs ls → W p l e room_1 s m #[Value.ref b] below meth cd H locs (7 + t + 1) (8416 + 6 * (t + 1)) (lw_Z below #[Value.ref b] s) (F0 m 644 ls [])) (n : Nat) (c : Nat) (k : Nat) (f : Nat → Int32) (fb : Nat → Int32) (g : Nat → Int64) (zt : Int32) (so : Int32) (nu : Int64) (ty : Int32) (hh : Int32) (pa : Int64) (ch9 : Int64) (go : Nat → Int64) (ag v : Nat) (hn : n ≤ 4096) (hc : c ≤ n) (hk : k ≤ 100) (hRB : RB n f fb) (hP : va_P (dC, dI) vwCl (w0 h a b0 cB cJ f g (nI n) (nI c) (nI ag) (nI k) ++ (w1 h1 a1 b1 cI cK fb g zt (nI n) (nI c) so nu ty hh pa ch9 (nI (kd (bY f ag))) ((nv (bY f) ag).toInt32) (hiV (bY f) ag) (nI (ag + hd (bY f ag))) (nI v) (nI k) ++ wo o cO go)) H) (hD : va_D (fun q : Nat => s.heap.size ≤ q) (w0 h a b0 cB cJ f g (nI n) (nI c) (nI ag) (nI k) ++ (w1 h1 a1 b1 cI cK fb g zt (nI n) (nI c) so nu ty hh pa ch9 (nI (kd (bY f ag))) ((nv (bY f) ag).toInt32) (hiV (bY f) ag) (nI (ag + hd (bY f ag))) (nI v) (nI k) ++ wo o cO go))) (hS : va_S (fun q : Nat => s.heap.size ≤ q) s.heap H locs) (hl : lv_has ls 8 [(0, .ref b), (1, .ref h), (2, .ref h1), (3, .ref o), (4, .int (nI (4 * t)))]) (hg1 : ag + hd (bY f ag) + v ≤ c) (hg2 : pl (bY f) ag = nI v)  : W p l e room_1 s m #[Value.ref b] below meth cd H locs (7 + t) (8416 + 6 * t) (lw_Z below #[Value.ref b] s) (F0 m 432 ls []) := by
  obtain ⟨⟨hx, hb, hr, hml, hown, hts, hXs, hbl, hlocks⟩, hst, hL, hK, hZ, hX⟩ := CX
  have hA : ∀ q : Nat, s.heap.size ≤ q → (fun q : Nat => s.heap.size ≤ q) q := fun _ h => h
  have hbA : ¬ (fun q : Nat => s.heap.size ≤ q) b := Nat.not_le.mpr hbl
  have hKx := hK.sub (tys' := t0 cB cJ) [0, 1] rfl
  have hKm := hK.sub (tys' := t1 cI cK) [2, 3] rfl
  have hKh := hK.sub (tys' := th cB cJ cO) [0, 1, 4] rfl
  refine lv_aload_n hx hb dL_law_432 rfl (lv_at hl 1 rfl) ?_
  refine gji (wc := w0 h a b0 cB cJ f g (nI n) (nI c) (nI ag) (nI k)) (wr := w1 h1 a1 b1 cI cK fb g zt (nI n) (nI c) so nu ty hh pa ch9 (nI (kd (bY f ag))) ((nv (bY f) ag).toInt32) (hiV (bY f) ag) (nI (ag + hd (bY f ag))) (nI v) (nI k) ++ wo o cO go) (As := []) (rest := []) ⟨hx, hb, hml, hown, hts⟩ (c_X0_valueHigh l dC dI tk tw h a b0 cB cJ _ f g (nI n) (nI c) (nI k) ag (by omega)) (cwV 0 hts gL_law_X0_valueHigh rfl rfl rfl (by decide +kernel) ⟨Nat.le_of_ble_eq_true rfl, Nat.le_of_ble_eq_true rfl⟩) hKx hP hD hS hA hZ (q0 := 0) (ci := 0) rfl rfl rfl rfl hl.1 rfl (Nat.le_of_ble_eq_true rfl) dL_law_433 ⟨by show _ ≤ 1042; omega, by show _ ≤ 16674; omega⟩ (fun r_1 u_3 H locs hw_2 hP hD hS => ?_)
  have hP : va_P (dC, dI) vwCl (w0 h a b0 cB cJ f g (nI n) (nI c) (nI ag) (nI k) ++ (w1 h1 a1 b1 cI cK fb g zt (nI n) (nI c) so nu ty hh pa ch9 (nI (kd (bY f ag))) ((nv (bY f) ag).toInt32) (hiV (bY f) ag) (nI (ag + hd (bY f ag))) (nI v) (nI k) ++ wo o cO go)) H := hP
  have hD : va_D (fun q : Nat => s.heap.size ≤ q) (w0 h a b0 cB cJ f g (nI n) (nI c) (nI ag) (nI k) ++ (w1 h1 a1 b1 cI cK fb g zt (nI n) (nI c) so nu ty hh pa ch9 (nI (kd (bY f ag))) ((nv (bY f) ag).toInt32) (hiV (bY f) ag) (nI (ag + hd (bY f ag))) (nI v) (nI k) ++ wo o cO go)) := hD
  obtain rfl : r_1 = vh f ag := hw_2
  refine lv_aload_n hx hb dL_law_436 rfl (lv_at hl 2 rfl) ?_
  have hP : va_P (dC, dI) vwCl (w1 h1 a1 b1 cI cK fb g zt (nI n) (nI c) so nu ty hh pa ch9 (nI (kd (bY f ag))) ((nv (bY f) ag).toInt32) (hiV (bY f) ag) (nI (ag + hd (bY f ag))) (nI v) (nI k) ++ (w0 h a b0 cB cJ f g (nI n) (nI c) (nI ag) (nI k) ++ wo o cO go)) H := hP.sub [3, 4, 5, 0, 1, 2, 6] rfl
  have hD : va_D (fun q : Nat => s.heap.size ≤ q) (w1 h1 a1 b1 cI cK fb g zt (nI n) (nI c) so nu ty hh pa ch9 (nI (kd (bY f ag))) ((nv (bY f) ag).toInt32) (hiV (bY f) ag) (nI (ag + hd (bY f ag))) (nI v) (nI k) ++ (w0 h a b0 cB cJ f g (nI n) (nI c) (nI ag) (nI k) ++ wo o cO go)) := hD.sub [3, 4, 5, 0, 1, 2, 6] (by decide) rfl
  refine gji (wc := w1 h1 a1 b1 cI cK fb g zt (nI n) (nI c) so nu ty hh pa ch9 (nI (kd (bY f ag))) ((nv (bY f) ag).toInt32) (hiV (bY f) ag) (nI (ag + hd (bY f ag))) (nI v) (nI k)) (wr := w0 h a b0 cB cJ f g (nI n) (nI c) (nI ag) (nI k) ++ wo o cO go) (As := []) (rest := [.int (vh f ag)]) ⟨hx, hb, hml, hown, hts⟩ (c_X1_valueHigh l dC dI tk tw h1 a1 b1 cI cK _ fb g zt (nI n) (nI c) so nu ty hh pa ch9 (nI (kd (bY f ag))) ((nv (bY f) ag).toInt32) (hiV (bY f) ag) (nI (ag + hd (bY f ag))) (nI v) (nI k) ) (cwV 0 hts gL_law_X1_valueHigh rfl rfl rfl (by decide +kernel) ⟨Nat.le_of_ble_eq_true rfl, Nat.le_of_ble_eq_true rfl⟩) hKm hP hD hS hA hZ (q0 := 0) (ci := 1) rfl rfl rfl rfl hl.1 rfl (Nat.le_of_ble_eq_true rfl) dL_law_437 ⟨by show _ ≤ 1042; omega, by show _ ≤ 16674; omega⟩ (fun r_4 u_6 H locs hw_5 hP hD hS => ?_)
  have hP : va_P (dC, dI) vwCl (w1 h1 a1 b1 cI cK fb g 0 (nI n) (nI c) so nu ty hh pa ch9 (nI (kd (bY f ag))) ((nv (bY f) ag).toInt32) (hiV (bY f) ag) (nI (ag + hd (bY f ag))) (nI v) (nI k) ++ (w0 h a b0 cB cJ f g (nI n) (nI c) (nI ag) (nI k) ++ wo o cO go)) H := hP
  have hD : va_D (fun q : Nat => s.heap.size ≤ q) (w1 h1 a1 b1 cI cK fb g 0 (nI n) (nI c) so nu ty hh pa ch9 (nI (kd (bY f ag))) ((nv (bY f) ag).toInt32) (hiV (bY f) ag) (nI (ag + hd (bY f ag))) (nI v) (nI k) ++ (w0 h a b0 cB cJ f g (nI n) (nI c) (nI ag) (nI k) ++ wo o cO go)) := hD
  obtain rfl : r_4 = hiV (bY f) ag := hw_5
  refine lv_icmp_eq (tgt := 644) hx hb dL_law_440 (by decide) (fun c_7 => ?_) (fun c_7 => ?_)
  · skip
    have hP : va_P (dC, dI) vwCl (w0 h a b0 cB cJ f g (nI n) (nI c) (nI ag) (nI k) ++ (w1 h1 a1 b1 cI cK fb g 0 (nI n) (nI c) so nu ty hh pa ch9 (nI (kd (bY f ag))) ((nv (bY f) ag).toInt32) (hiV (bY f) ag) (nI (ag + hd (bY f ag))) (nI v) (nI k) ++ wo o cO go)) H := hP.sub [3, 4, 5, 0, 1, 2, 6] rfl
    have hD : va_D (fun q : Nat => s.heap.size ≤ q) (w0 h a b0 cB cJ f g (nI n) (nI c) (nI ag) (nI k) ++ (w1 h1 a1 b1 cI cK fb g 0 (nI n) (nI c) so nu ty hh pa ch9 (nI (kd (bY f ag))) ((nv (bY f) ag).toInt32) (hiV (bY f) ag) (nI (ag + hd (bY f ag))) (nI v) (nI k) ++ wo o cO go)) := hD.sub [3, 4, 5, 0, 1, 2, 6] (by decide) rfl
    refine W.widen (k := 7 + t + 1) (n := 8416 + 6 * (t + 1)) (by omega) (by omega) ?_
    exact K _ _ _ ⟨n, c, k, f, fb, g, nI ag, 0, so, nu, ty, hh, pa, ch9, nI (kd (bY f ag)), (nv (bY f) ag).toInt32, hiV (bY f) ag, nI (ag + hd (bY f ag)), nI v, go, hn, hc, hk, hRB, (Or.inr ⟨ag, v, rfl, hg1, hg2, rfl, rfl, rfl, rfl, rfl⟩), hP, hD, hS, lv_sub hl [0, 1, 2, 3, 4] rfl⟩
  · skip
    exact absurd (vh_hiV (hRB _ (by have := hd_pos (bY f ag); omega)).2) c_7
set_option maxHeartbeats 4000000 in
set_option maxRecDepth 100000 in
theorem op_payload_n {p : Program} {e : Env} {s : State} {m : MethodId} {below : List Frame} {meth : Method} {cd : Code} {l : Launch} {b L : Nat} {xs : Nat → Int32} {dC : Nat → ClassId} {dI : Nat → Nat → Nat} {tk tw : Nat} {sa : Nat → Nat} {cB cJ cI cK cO : ClassId} {h a b0 h1 a1 b1 o t : Nat} {H : Heap} {locs : List Loc} {ls : Array Slot} (CX : LC l p s m meth cd b L xs dC dI tk tw sa cB cJ cI cK cO) (ht4 : 4 * t + 4 ≤ L) (K : ∀ (H : Heap) (locs : List Loc) (ls : Array Slot), LI s b dC dI h a b0 cB cJ h1 a1 b1 cI cK o cO t H locs ls → W p l e room_1 s m #[Value.ref b] below meth cd H locs (7 + t + 1) (8416 + 6 * (t + 1)) (lw_Z below #[Value.ref b] s) (F0 m 644 ls [])) (n : Nat) (c : Nat) (k : Nat) (f : Nat → Int32) (fb : Nat → Int32) (g : Nat → Int64) (zt : Int32) (so : Int32) (nu : Int64) (ty : Int32) (hh : Int32) (pa : Int64) (ch9 : Int64) (go : Nat → Int64) (hn : n ≤ 4096) (hc : c ≤ n) (hk : k ≤ 100) (hRB : RB n f fb) (hP : va_P (dC, dI) vwCl (w0 h a b0 cB cJ f g (nI n) (nI c) (-1) (nI k) ++ (w1 h1 a1 b1 cI cK fb g zt (nI n) (nI c) so nu ty hh pa ch9 (-1) 0 0 (nI 0) (nI 0) (nI k) ++ wo o cO go)) H) (hD : va_D (fun q : Nat => s.heap.size ≤ q) (w0 h a b0 cB cJ f g (nI n) (nI c) (-1) (nI k) ++ (w1 h1 a1 b1 cI cK fb g zt (nI n) (nI c) so nu ty hh pa ch9 (-1) 0 0 (nI 0) (nI 0) (nI k) ++ wo o cO go))) (hS : va_S (fun q : Nat => s.heap.size ≤ q) s.heap H locs) (hl : lv_has ls 8 [(0, .ref b), (1, .ref h), (2, .ref h1), (3, .ref o), (4, .int (nI (4 * t)))])  : W p l e room_1 s m #[Value.ref b] below meth cd H locs (7 + t) (8416 + 6 * t) (lw_Z below #[Value.ref b] s) (F0 m 445 ls []) := by
  obtain ⟨⟨hx, hb, hr, hml, hown, hts, hXs, hbl, hlocks⟩, hst, hL, hK, hZ, hX⟩ := CX
  have hA : ∀ q : Nat, s.heap.size ≤ q → (fun q : Nat => s.heap.size ≤ q) q := fun _ h => h
  have hbA : ¬ (fun q : Nat => s.heap.size ≤ q) b := Nat.not_le.mpr hbl
  have hKx := hK.sub (tys' := t0 cB cJ) [0, 1] rfl
  have hKm := hK.sub (tys' := t1 cI cK) [2, 3] rfl
  have hKh := hK.sub (tys' := th cB cJ cO) [0, 1, 4] rfl
  refine lv_aload_n hx hb dL_law_445 rfl (lv_at hl 1 rfl) ?_
  refine lv_aload_n hx hb dL_law_446 rfl (lv_at hl 0 rfl) ?_
  refine lv_iload hx hb dL_law_447 (lv_at hl 4 rfl) ?_
  refine lv_iconst (v := 1) hx hb dL_law_449 (by decide) ?_
  refine lv_iadd hx hb dL_law_450 ?_
  have e_1 : (nI (4 * t) + (1 : Int32)) = nI (4 * t + 1) := nI_add (4 * t) 1
  rw [e_1]
  refine va_sld hx hb hXs hbl hbA hS (vp_in_nI (by omega) (by omega)) dL_law_451 ?_
  rw [nI_clamp (by omega)]
  refine gji (wc := w0 h a b0 cB cJ f g (nI n) (nI c) (-1) (nI k)) (wr := w1 h1 a1 b1 cI cK fb g zt (nI n) (nI c) so nu ty hh pa ch9 (-1) 0 0 (nI 0) (nI 0) (nI k) ++ wo o cO go) (As := [.int (xs (4 * t + 1))]) (rest := []) ⟨hx, hb, hml, hown, hts⟩ (c_X0_payload_n l dC dI tk tw h a b0 cB cJ _ f g (nI n) (nI c) (nI k) (xs (4 * t + 1))) (cwV 1 hts gL_law_X0_payload rfl rfl rfl (by decide +kernel) ⟨Nat.le_of_ble_eq_true rfl, Nat.le_of_ble_eq_true rfl⟩) hKx hP hD hS hA hZ (q0 := 0) (ci := 0) rfl rfl rfl rfl hl.1 rfl (Nat.le_of_ble_eq_true rfl) dL_law_452 ⟨by show _ ≤ 1042; omega, by show _ ≤ 16674; omega⟩ (fun r_2 u_4 H locs hw_3 hP hD hS => ?_)
  have hP : va_P (dC, dI) vwCl (w0 h a b0 cB cJ f g (nI n) (nI c) (-1) (nI k) ++ (w1 h1 a1 b1 cI cK fb g zt (nI n) (nI c) so nu ty hh pa ch9 (-1) 0 0 (nI 0) (nI 0) (nI k) ++ wo o cO go)) H := hP
  have hD : va_D (fun q : Nat => s.heap.size ≤ q) (w0 h a b0 cB cJ f g (nI n) (nI c) (-1) (nI k) ++ (w1 h1 a1 b1 cI cK fb g zt (nI n) (nI c) so nu ty hh pa ch9 (-1) 0 0 (nI 0) (nI 0) (nI k) ++ wo o cO go)) := hD
  obtain rfl : r_2 = -1 := hw_3
  refine lv_aload_n hx hb dL_law_455 rfl (lv_at hl 2 rfl) ?_
  refine lv_aload_n hx hb dL_law_456 rfl (lv_at hl 0 rfl) ?_
  refine lv_iload hx hb dL_law_457 (lv_at hl 4 rfl) ?_
  refine lv_iconst (v := 1) hx hb dL_law_459 (by decide) ?_
  refine lv_iadd hx hb dL_law_460 ?_
  have e_5 : (nI (4 * t) + (1 : Int32)) = nI (4 * t + 1) := nI_add (4 * t) 1
  rw [e_5]
  refine va_sld hx hb hXs hbl hbA hS (vp_in_nI (by omega) (by omega)) dL_law_461 ?_
  rw [nI_clamp (by omega)]
  have hP : va_P (dC, dI) vwCl (w1 h1 a1 b1 cI cK fb g zt (nI n) (nI c) so nu ty hh pa ch9 (-1) 0 0 (nI 0) (nI 0) (nI k) ++ (w0 h a b0 cB cJ f g (nI n) (nI c) (-1) (nI k) ++ wo o cO go)) H := hP.sub [3, 4, 5, 0, 1, 2, 6] rfl
  have hD : va_D (fun q : Nat => s.heap.size ≤ q) (w1 h1 a1 b1 cI cK fb g zt (nI n) (nI c) so nu ty hh pa ch9 (-1) 0 0 (nI 0) (nI 0) (nI k) ++ (w0 h a b0 cB cJ f g (nI n) (nI c) (-1) (nI k) ++ wo o cO go)) := hD.sub [3, 4, 5, 0, 1, 2, 6] (by decide) rfl
  refine gji (wc := w1 h1 a1 b1 cI cK fb g zt (nI n) (nI c) so nu ty hh pa ch9 (-1) 0 0 (nI 0) (nI 0) (nI k)) (wr := w0 h a b0 cB cJ f g (nI n) (nI c) (-1) (nI k) ++ wo o cO go) (As := [.int (xs (4 * t + 1))]) (rest := [.int (-1)]) ⟨hx, hb, hml, hown, hts⟩ (c_X1_payload l dC dI tk tw h1 a1 b1 cI cK _ fb g zt (nI n) (nI c) so nu ty hh pa ch9 (-1) 0 0 (nI k) 0 0 (by decide) (xs (4 * t + 1))) (cwV 1 hts gL_law_X1_payload rfl rfl rfl (by decide +kernel) ⟨Nat.le_of_ble_eq_true rfl, Nat.le_of_ble_eq_true rfl⟩) hKm hP hD hS hA hZ (q0 := 0) (ci := 1) rfl rfl rfl rfl hl.1 rfl (Nat.le_of_ble_eq_true rfl) dL_law_462 ⟨by show _ ≤ 1042; omega, by show _ ≤ 16674; omega⟩ (fun r_6 u_8 H locs hw_7 hP hD hS => ?_)
  have hP : va_P (dC, dI) vwCl (w1 h1 a1 b1 cI cK fb g 0 (nI n) (nI c) so nu ty hh pa ch9 (-1) 0 0 (nI 0) (nI 0) (nI k) ++ (w0 h a b0 cB cJ f g (nI n) (nI c) (-1) (nI k) ++ wo o cO go)) H := hP
  have hD : va_D (fun q : Nat => s.heap.size ≤ q) (w1 h1 a1 b1 cI cK fb g 0 (nI n) (nI c) so nu ty hh pa ch9 (-1) 0 0 (nI 0) (nI 0) (nI k) ++ (w0 h a b0 cB cJ f g (nI n) (nI c) (-1) (nI k) ++ wo o cO go)) := hD
  obtain rfl : r_6 = (if xs (4 * t + 1) < 0 then -1 else if xs (4 * t + 1) < nI 0 then fb (0 + (xs (4 * t + 1)).toNatClampNeg) else -1) := hw_7
  refine lv_icmp_eq (tgt := 644) hx hb dL_law_465 (by decide) (fun c_9 => ?_) (fun c_9 => ?_)
  · skip
    have hP : va_P (dC, dI) vwCl (w0 h a b0 cB cJ f g (nI n) (nI c) (-1) (nI k) ++ (w1 h1 a1 b1 cI cK fb g 0 (nI n) (nI c) so nu ty hh pa ch9 (-1) 0 0 (nI 0) (nI 0) (nI k) ++ wo o cO go)) H := hP.sub [3, 4, 5, 0, 1, 2, 6] rfl
    have hD : va_D (fun q : Nat => s.heap.size ≤ q) (w0 h a b0 cB cJ f g (nI n) (nI c) (-1) (nI k) ++ (w1 h1 a1 b1 cI cK fb g 0 (nI n) (nI c) so nu ty hh pa ch9 (-1) 0 0 (nI 0) (nI 0) (nI k) ++ wo o cO go)) := hD.sub [3, 4, 5, 0, 1, 2, 6] (by decide) rfl
    refine W.widen (k := 7 + t + 1) (n := 8416 + 6 * (t + 1)) (by omega) (by omega) ?_
    exact K _ _ _ ⟨n, c, k, f, fb, g, -1, 0, so, nu, ty, hh, pa, ch9, -1, 0, 0, nI 0, nI 0, go, hn, hc, hk, hRB, (Or.inl ⟨rfl, rfl, rfl, rfl, rfl, rfl⟩), hP, hD, hS, lv_sub hl [0, 1, 2, 3, 4] rfl⟩
  · skip
    exact absurd (py_none _ _).symm c_9
set_option maxHeartbeats 4000000 in
set_option maxRecDepth 100000 in
theorem op_payload_g {p : Program} {e : Env} {s : State} {m : MethodId} {below : List Frame} {meth : Method} {cd : Code} {l : Launch} {b L : Nat} {xs : Nat → Int32} {dC : Nat → ClassId} {dI : Nat → Nat → Nat} {tk tw : Nat} {sa : Nat → Nat} {cB cJ cI cK cO : ClassId} {h a b0 h1 a1 b1 o t : Nat} {H : Heap} {locs : List Loc} {ls : Array Slot} (CX : LC l p s m meth cd b L xs dC dI tk tw sa cB cJ cI cK cO) (ht4 : 4 * t + 4 ≤ L) (K : ∀ (H : Heap) (locs : List Loc) (ls : Array Slot), LI s b dC dI h a b0 cB cJ h1 a1 b1 cI cK o cO t H locs ls → W p l e room_1 s m #[Value.ref b] below meth cd H locs (7 + t + 1) (8416 + 6 * (t + 1)) (lw_Z below #[Value.ref b] s) (F0 m 644 ls [])) (n : Nat) (c : Nat) (k : Nat) (f : Nat → Int32) (fb : Nat → Int32) (g : Nat → Int64) (zt : Int32) (so : Int32) (nu : Int64) (ty : Int32) (hh : Int32) (pa : Int64) (ch9 : Int64) (go : Nat → Int64) (ag v : Nat) (hn : n ≤ 4096) (hc : c ≤ n) (hk : k ≤ 100) (hRB : RB n f fb) (hP : va_P (dC, dI) vwCl (w0 h a b0 cB cJ f g (nI n) (nI c) (nI ag) (nI k) ++ (w1 h1 a1 b1 cI cK fb g zt (nI n) (nI c) so nu ty hh pa ch9 (nI (kd (bY f ag))) ((nv (bY f) ag).toInt32) (hiV (bY f) ag) (nI (ag + hd (bY f ag))) (nI v) (nI k) ++ wo o cO go)) H) (hD : va_D (fun q : Nat => s.heap.size ≤ q) (w0 h a b0 cB cJ f g (nI n) (nI c) (nI ag) (nI k) ++ (w1 h1 a1 b1 cI cK fb g zt (nI n) (nI c) so nu ty hh pa ch9 (nI (kd (bY f ag))) ((nv (bY f) ag).toInt32) (hiV (bY f) ag) (nI (ag + hd (bY f ag))) (nI v) (nI k) ++ wo o cO go))) (hS : va_S (fun q : Nat => s.heap.size ≤ q) s.heap H locs) (hl : lv_has ls 8 [(0, .ref b), (1, .ref h), (2, .ref h1), (3, .ref o), (4, .int (nI (4 * t)))]) (hg1 : ag + hd (bY f ag) + v ≤ c) (hg2 : pl (bY f) ag = nI v)  : W p l e room_1 s m #[Value.ref b] below meth cd H locs (7 + t) (8416 + 6 * t) (lw_Z below #[Value.ref b] s) (F0 m 445 ls []) := by
  obtain ⟨⟨hx, hb, hr, hml, hown, hts, hXs, hbl, hlocks⟩, hst, hL, hK, hZ, hX⟩ := CX
  have hA : ∀ q : Nat, s.heap.size ≤ q → (fun q : Nat => s.heap.size ≤ q) q := fun _ h => h
  have hbA : ¬ (fun q : Nat => s.heap.size ≤ q) b := Nat.not_le.mpr hbl
  have hKx := hK.sub (tys' := t0 cB cJ) [0, 1] rfl
  have hKm := hK.sub (tys' := t1 cI cK) [2, 3] rfl
  have hKh := hK.sub (tys' := th cB cJ cO) [0, 1, 4] rfl
  refine lv_aload_n hx hb dL_law_445 rfl (lv_at hl 1 rfl) ?_
  refine lv_aload_n hx hb dL_law_446 rfl (lv_at hl 0 rfl) ?_
  refine lv_iload hx hb dL_law_447 (lv_at hl 4 rfl) ?_
  refine lv_iconst (v := 1) hx hb dL_law_449 (by decide) ?_
  refine lv_iadd hx hb dL_law_450 ?_
  have e_1 : (nI (4 * t) + (1 : Int32)) = nI (4 * t + 1) := nI_add (4 * t) 1
  rw [e_1]
  refine va_sld hx hb hXs hbl hbA hS (vp_in_nI (by omega) (by omega)) dL_law_451 ?_
  rw [nI_clamp (by omega)]
  refine gji (wc := w0 h a b0 cB cJ f g (nI n) (nI c) (nI ag) (nI k)) (wr := w1 h1 a1 b1 cI cK fb g zt (nI n) (nI c) so nu ty hh pa ch9 (nI (kd (bY f ag))) ((nv (bY f) ag).toInt32) (hiV (bY f) ag) (nI (ag + hd (bY f ag))) (nI v) (nI k) ++ wo o cO go) (As := [.int (xs (4 * t + 1))]) (rest := []) ⟨hx, hb, hml, hown, hts⟩ (c_X0_payload l dC dI tk tw h a b0 cB cJ _ f g (nI n) (nI c) (nI k) ag v hg2 (by omega) (xs (4 * t + 1))) (cwV 1 hts gL_law_X0_payload rfl rfl rfl (by decide +kernel) ⟨Nat.le_of_ble_eq_true rfl, Nat.le_of_ble_eq_true rfl⟩) hKx hP hD hS hA hZ (q0 := 0) (ci := 0) rfl rfl rfl rfl hl.1 rfl (Nat.le_of_ble_eq_true rfl) dL_law_452 ⟨by show _ ≤ 1042; omega, by show _ ≤ 16674; omega⟩ (fun r_2 u_4 H locs hw_3 hP hD hS => ?_)
  have hP : va_P (dC, dI) vwCl (w0 h a b0 cB cJ f g (nI n) (nI c) (nI ag) (nI k) ++ (w1 h1 a1 b1 cI cK fb g zt (nI n) (nI c) so nu ty hh pa ch9 (nI (kd (bY f ag))) ((nv (bY f) ag).toInt32) (hiV (bY f) ag) (nI (ag + hd (bY f ag))) (nI v) (nI k) ++ wo o cO go)) H := hP
  have hD : va_D (fun q : Nat => s.heap.size ≤ q) (w0 h a b0 cB cJ f g (nI n) (nI c) (nI ag) (nI k) ++ (w1 h1 a1 b1 cI cK fb g zt (nI n) (nI c) so nu ty hh pa ch9 (nI (kd (bY f ag))) ((nv (bY f) ag).toInt32) (hiV (bY f) ag) (nI (ag + hd (bY f ag))) (nI v) (nI k) ++ wo o cO go)) := hD
  obtain rfl : r_2 = py f ag (xs (4 * t + 1)) := hw_3
  refine lv_aload_n hx hb dL_law_455 rfl (lv_at hl 2 rfl) ?_
  refine lv_aload_n hx hb dL_law_456 rfl (lv_at hl 0 rfl) ?_
  refine lv_iload hx hb dL_law_457 (lv_at hl 4 rfl) ?_
  refine lv_iconst (v := 1) hx hb dL_law_459 (by decide) ?_
  refine lv_iadd hx hb dL_law_460 ?_
  have e_5 : (nI (4 * t) + (1 : Int32)) = nI (4 * t + 1) := nI_add (4 * t) 1
  rw [e_5]
  refine va_sld hx hb hXs hbl hbA hS (vp_in_nI (by omega) (by omega)) dL_law_461 ?_
  rw [nI_clamp (by omega)]
  have hP : va_P (dC, dI) vwCl (w1 h1 a1 b1 cI cK fb g zt (nI n) (nI c) so nu ty hh pa ch9 (nI (kd (bY f ag))) ((nv (bY f) ag).toInt32) (hiV (bY f) ag) (nI (ag + hd (bY f ag))) (nI v) (nI k) ++ (w0 h a b0 cB cJ f g (nI n) (nI c) (nI ag) (nI k) ++ wo o cO go)) H := hP.sub [3, 4, 5, 0, 1, 2, 6] rfl
  have hD : va_D (fun q : Nat => s.heap.size ≤ q) (w1 h1 a1 b1 cI cK fb g zt (nI n) (nI c) so nu ty hh pa ch9 (nI (kd (bY f ag))) ((nv (bY f) ag).toInt32) (hiV (bY f) ag) (nI (ag + hd (bY f ag))) (nI v) (nI k) ++ (w0 h a b0 cB cJ f g (nI n) (nI c) (nI ag) (nI k) ++ wo o cO go)) := hD.sub [3, 4, 5, 0, 1, 2, 6] (by decide) rfl
  refine gji (wc := w1 h1 a1 b1 cI cK fb g zt (nI n) (nI c) so nu ty hh pa ch9 (nI (kd (bY f ag))) ((nv (bY f) ag).toInt32) (hiV (bY f) ag) (nI (ag + hd (bY f ag))) (nI v) (nI k)) (wr := w0 h a b0 cB cJ f g (nI n) (nI c) (nI ag) (nI k) ++ wo o cO go) (As := [.int (xs (4 * t + 1))]) (rest := [.int (py f ag (xs (4 * t + 1)))]) ⟨hx, hb, hml, hown, hts⟩ (c_X1_payload l dC dI tk tw h1 a1 b1 cI cK _ fb g zt (nI n) (nI c) so nu ty hh pa ch9 (nI (kd (bY f ag))) ((nv (bY f) ag).toInt32) (hiV (bY f) ag) (nI k) (ag + hd (bY f ag)) v (by omega) (xs (4 * t + 1))) (cwV 1 hts gL_law_X1_payload rfl rfl rfl (by decide +kernel) ⟨Nat.le_of_ble_eq_true rfl, Nat.le_of_ble_eq_true rfl⟩) hKm hP hD hS hA hZ (q0 := 0) (ci := 1) rfl rfl rfl rfl hl.1 rfl (Nat.le_of_ble_eq_true rfl) dL_law_462 ⟨by show _ ≤ 1042; omega, by show _ ≤ 16674; omega⟩ (fun r_6 u_8 H locs hw_7 hP hD hS => ?_)
  have hP : va_P (dC, dI) vwCl (w1 h1 a1 b1 cI cK fb g 0 (nI n) (nI c) so nu ty hh pa ch9 (nI (kd (bY f ag))) ((nv (bY f) ag).toInt32) (hiV (bY f) ag) (nI (ag + hd (bY f ag))) (nI v) (nI k) ++ (w0 h a b0 cB cJ f g (nI n) (nI c) (nI ag) (nI k) ++ wo o cO go)) H := hP
  have hD : va_D (fun q : Nat => s.heap.size ≤ q) (w1 h1 a1 b1 cI cK fb g 0 (nI n) (nI c) so nu ty hh pa ch9 (nI (kd (bY f ag))) ((nv (bY f) ag).toInt32) (hiV (bY f) ag) (nI (ag + hd (bY f ag))) (nI v) (nI k) ++ (w0 h a b0 cB cJ f g (nI n) (nI c) (nI ag) (nI k) ++ wo o cO go)) := hD
  obtain rfl : r_6 = (if xs (4 * t + 1) < 0 then -1 else if xs (4 * t + 1) < nI v then fb (ag + hd (bY f ag) + (xs (4 * t + 1)).toNatClampNeg) else -1) := hw_7
  refine lv_icmp_eq (tgt := 644) hx hb dL_law_465 (by decide) (fun c_9 => ?_) (fun c_9 => ?_)
  · skip
    have hP : va_P (dC, dI) vwCl (w0 h a b0 cB cJ f g (nI n) (nI c) (nI ag) (nI k) ++ (w1 h1 a1 b1 cI cK fb g 0 (nI n) (nI c) so nu ty hh pa ch9 (nI (kd (bY f ag))) ((nv (bY f) ag).toInt32) (hiV (bY f) ag) (nI (ag + hd (bY f ag))) (nI v) (nI k) ++ wo o cO go)) H := hP.sub [3, 4, 5, 0, 1, 2, 6] rfl
    have hD : va_D (fun q : Nat => s.heap.size ≤ q) (w0 h a b0 cB cJ f g (nI n) (nI c) (nI ag) (nI k) ++ (w1 h1 a1 b1 cI cK fb g 0 (nI n) (nI c) so nu ty hh pa ch9 (nI (kd (bY f ag))) ((nv (bY f) ag).toInt32) (hiV (bY f) ag) (nI (ag + hd (bY f ag))) (nI v) (nI k) ++ wo o cO go)) := hD.sub [3, 4, 5, 0, 1, 2, 6] (by decide) rfl
    refine W.widen (k := 7 + t + 1) (n := 8416 + 6 * (t + 1)) (by omega) (by omega) ?_
    exact K _ _ _ ⟨n, c, k, f, fb, g, nI ag, 0, so, nu, ty, hh, pa, ch9, nI (kd (bY f ag)), (nv (bY f) ag).toInt32, hiV (bY f) ag, nI (ag + hd (bY f ag)), nI v, go, hn, hc, hk, hRB, (Or.inr ⟨ag, v, rfl, hg1, hg2, rfl, rfl, rfl, rfl, rfl⟩), hP, hD, hS, lv_sub hl [0, 1, 2, 3, 4] rfl⟩
  · skip
    exact absurd (py_agree hn hRB (by omega) hg2 _) c_9
set_option maxHeartbeats 4000000 in
set_option maxRecDepth 100000 in
theorem op_level {p : Program} {e : Env} {s : State} {m : MethodId} {below : List Frame} {meth : Method} {cd : Code} {l : Launch} {b L : Nat} {xs : Nat → Int32} {dC : Nat → ClassId} {dI : Nat → Nat → Nat} {tk tw : Nat} {sa : Nat → Nat} {cB cJ cI cK cO : ClassId} {h a b0 h1 a1 b1 o t : Nat} {H : Heap} {locs : List Loc} {ls : Array Slot} (CX : LC l p s m meth cd b L xs dC dI tk tw sa cB cJ cI cK cO) (ht4 : 4 * t + 4 ≤ L) (K : ∀ (H : Heap) (locs : List Loc) (ls : Array Slot), LI s b dC dI h a b0 cB cJ h1 a1 b1 cI cK o cO t H locs ls → W p l e room_1 s m #[Value.ref b] below meth cd H locs (7 + t + 1) (8416 + 6 * (t + 1)) (lw_Z below #[Value.ref b] s) (F0 m 644 ls [])) (n : Nat) (c : Nat) (k : Nat) (f : Nat → Int32) (fb : Nat → Int32) (g : Nat → Int64) (zg : Int32) (zt : Int32) (so : Int32) (nu : Int64) (ty : Int32) (hh : Int32) (pa : Int64) (ch9 : Int64) (zk : Int32) (zl : Int32) (zh : Int32) (zp : Int32) (zq : Int32) (go : Nat → Int64) (hn : n ≤ 4096) (hc : c ≤ n) (hk : k ≤ 100) (hRB : RB n f fb) (hG : GV f c zg zk zl zh zp zq) (hP : va_P (dC, dI) vwCl (w0 h a b0 cB cJ f g (nI n) (nI c) zg (nI k) ++ (w1 h1 a1 b1 cI cK fb g zt (nI n) (nI c) so nu ty hh pa ch9 zk zl zh zp zq (nI k) ++ wo o cO go)) H) (hD : va_D (fun q : Nat => s.heap.size ≤ q) (w0 h a b0 cB cJ f g (nI n) (nI c) zg (nI k) ++ (w1 h1 a1 b1 cI cK fb g zt (nI n) (nI c) so nu ty hh pa ch9 zk zl zh zp zq (nI k) ++ wo o cO go))) (hS : va_S (fun q : Nat => s.heap.size ≤ q) s.heap H locs) (hl : lv_has ls 8 [(0, .ref b), (1, .ref h), (2, .ref h1), (3, .ref o), (4, .int (nI (4 * t)))])  : W p l e room_1 s m #[Value.ref b] below meth cd H locs (7 + t) (8416 + 6 * t) (lw_Z below #[Value.ref b] s) (F0 m 470 ls []) := by
  obtain ⟨⟨hx, hb, hr, hml, hown, hts, hXs, hbl, hlocks⟩, hst, hL, hK, hZ, hX⟩ := CX
  have hA : ∀ q : Nat, s.heap.size ≤ q → (fun q : Nat => s.heap.size ≤ q) q := fun _ h => h
  have hbA : ¬ (fun q : Nat => s.heap.size ≤ q) b := Nat.not_le.mpr hbl
  have hKx := hK.sub (tys' := t0 cB cJ) [0, 1] rfl
  have hKm := hK.sub (tys' := t1 cI cK) [2, 3] rfl
  have hKh := hK.sub (tys' := th cB cJ cO) [0, 1, 4] rfl
  refine lv_aload_n hx hb dL_law_470 rfl (lv_at hl 1 rfl) ?_
  refine gji (wc := w0 h a b0 cB cJ f g (nI n) (nI c) zg (nI k)) (wr := w1 h1 a1 b1 cI cK fb g zt (nI n) (nI c) so nu ty hh pa ch9 zk zl zh zp zq (nI k) ++ wo o cO go) (As := []) (rest := []) ⟨hx, hb, hml, hown, hts⟩ (c_X0_level l dC dI tk tw h a b0 cB cJ _ f g (nI n) (nI c) zg (nI k) ) (cwV 0 hts gL_law_X0_level rfl rfl rfl (by decide +kernel) ⟨Nat.le_of_ble_eq_true rfl, Nat.le_of_ble_eq_true rfl⟩) hKx hP hD hS hA hZ (q0 := 0) (ci := 0) rfl rfl rfl rfl hl.1 rfl (Nat.le_of_ble_eq_true rfl) dL_law_471 ⟨by show _ ≤ 1042; omega, by show _ ≤ 16674; omega⟩ (fun r_1 u_3 H locs hw_2 hP hD hS => ?_)
  have hP : va_P (dC, dI) vwCl (w0 h a b0 cB cJ f g (nI n) (nI c) zg (nI k) ++ (w1 h1 a1 b1 cI cK fb g zt (nI n) (nI c) so nu ty hh pa ch9 zk zl zh zp zq (nI k) ++ wo o cO go)) H := hP
  have hD : va_D (fun q : Nat => s.heap.size ≤ q) (w0 h a b0 cB cJ f g (nI n) (nI c) zg (nI k) ++ (w1 h1 a1 b1 cI cK fb g zt (nI n) (nI c) so nu ty hh pa ch9 zk zl zh zp zq (nI k) ++ wo o cO go)) := hD
  obtain rfl : r_1 = nI k := hw_2
  refine lv_aload_n hx hb dL_law_474 rfl (lv_at hl 2 rfl) ?_
  have hP : va_P (dC, dI) vwCl (w1 h1 a1 b1 cI cK fb g zt (nI n) (nI c) so nu ty hh pa ch9 zk zl zh zp zq (nI k) ++ (w0 h a b0 cB cJ f g (nI n) (nI c) zg (nI k) ++ wo o cO go)) H := hP.sub [3, 4, 5, 0, 1, 2, 6] rfl
  have hD : va_D (fun q : Nat => s.heap.size ≤ q) (w1 h1 a1 b1 cI cK fb g zt (nI n) (nI c) so nu ty hh pa ch9 zk zl zh zp zq (nI k) ++ (w0 h a b0 cB cJ f g (nI n) (nI c) zg (nI k) ++ wo o cO go)) := hD.sub [3, 4, 5, 0, 1, 2, 6] (by decide) rfl
  refine gji (wc := w1 h1 a1 b1 cI cK fb g zt (nI n) (nI c) so nu ty hh pa ch9 zk zl zh zp zq (nI k)) (wr := w0 h a b0 cB cJ f g (nI n) (nI c) zg (nI k) ++ wo o cO go) (As := []) (rest := [.int (nI k)]) ⟨hx, hb, hml, hown, hts⟩ (c_X1_level l dC dI tk tw h1 a1 b1 cI cK _ fb g zt (nI n) (nI c) so nu ty hh pa ch9 zk zl zh zp zq (nI k) ) (cwV 0 hts gL_law_X1_level rfl rfl rfl (by decide +kernel) ⟨Nat.le_of_ble_eq_true rfl, Nat.le_of_ble_eq_true rfl⟩) hKm hP hD hS hA hZ (q0 := 0) (ci := 1) rfl rfl rfl rfl hl.1 rfl (Nat.le_of_ble_eq_true rfl) dL_law_475 ⟨by show _ ≤ 1042; omega, by show _ ≤ 16674; omega⟩ (fun r_4 u_6 H locs hw_5 hP hD hS => ?_)
  have hP : va_P (dC, dI) vwCl (w1 h1 a1 b1 cI cK fb g 0 (nI n) (nI c) so nu ty hh pa ch9 zk zl zh zp zq (nI k) ++ (w0 h a b0 cB cJ f g (nI n) (nI c) zg (nI k) ++ wo o cO go)) H := hP
  have hD : va_D (fun q : Nat => s.heap.size ≤ q) (w1 h1 a1 b1 cI cK fb g 0 (nI n) (nI c) so nu ty hh pa ch9 zk zl zh zp zq (nI k) ++ (w0 h a b0 cB cJ f g (nI n) (nI c) zg (nI k) ++ wo o cO go)) := hD
  obtain rfl : r_4 = nI k := hw_5
  refine lv_icmp_eq (tgt := 644) hx hb dL_law_478 (by decide) (fun c_7 => ?_) (fun c_7 => ?_)
  · skip
    have hP : va_P (dC, dI) vwCl (w0 h a b0 cB cJ f g (nI n) (nI c) zg (nI k) ++ (w1 h1 a1 b1 cI cK fb g 0 (nI n) (nI c) so nu ty hh pa ch9 zk zl zh zp zq (nI k) ++ wo o cO go)) H := hP.sub [3, 4, 5, 0, 1, 2, 6] rfl
    have hD : va_D (fun q : Nat => s.heap.size ≤ q) (w0 h a b0 cB cJ f g (nI n) (nI c) zg (nI k) ++ (w1 h1 a1 b1 cI cK fb g 0 (nI n) (nI c) so nu ty hh pa ch9 zk zl zh zp zq (nI k) ++ wo o cO go)) := hD.sub [3, 4, 5, 0, 1, 2, 6] (by decide) rfl
    refine W.widen (k := 7 + t + 1) (n := 8416 + 6 * (t + 1)) (by omega) (by omega) ?_
    exact K _ _ _ ⟨n, c, k, f, fb, g, zg, 0, so, nu, ty, hh, pa, ch9, zk, zl, zh, zp, zq, go, hn, hc, hk, hRB, hG, hP, hD, hS, lv_sub hl [0, 1, 2, 3, 4] rfl⟩
  · skip
    exact absurd rfl c_7
set_option maxHeartbeats 4000000 in
set_option maxRecDepth 100000 in
theorem op_consumed {p : Program} {e : Env} {s : State} {m : MethodId} {below : List Frame} {meth : Method} {cd : Code} {l : Launch} {b L : Nat} {xs : Nat → Int32} {dC : Nat → ClassId} {dI : Nat → Nat → Nat} {tk tw : Nat} {sa : Nat → Nat} {cB cJ cI cK cO : ClassId} {h a b0 h1 a1 b1 o t : Nat} {H : Heap} {locs : List Loc} {ls : Array Slot} (CX : LC l p s m meth cd b L xs dC dI tk tw sa cB cJ cI cK cO) (ht4 : 4 * t + 4 ≤ L) (K : ∀ (H : Heap) (locs : List Loc) (ls : Array Slot), LI s b dC dI h a b0 cB cJ h1 a1 b1 cI cK o cO t H locs ls → W p l e room_1 s m #[Value.ref b] below meth cd H locs (7 + t + 1) (8416 + 6 * (t + 1)) (lw_Z below #[Value.ref b] s) (F0 m 644 ls [])) (n : Nat) (c : Nat) (k : Nat) (f : Nat → Int32) (fb : Nat → Int32) (g : Nat → Int64) (zg : Int32) (zt : Int32) (so : Int32) (nu : Int64) (ty : Int32) (hh : Int32) (pa : Int64) (ch9 : Int64) (zk : Int32) (zl : Int32) (zh : Int32) (zp : Int32) (zq : Int32) (go : Nat → Int64) (hn : n ≤ 4096) (hc : c ≤ n) (hk : k ≤ 100) (hRB : RB n f fb) (hG : GV f c zg zk zl zh zp zq) (hP : va_P (dC, dI) vwCl (w0 h a b0 cB cJ f g (nI n) (nI c) zg (nI k) ++ (w1 h1 a1 b1 cI cK fb g zt (nI n) (nI c) so nu ty hh pa ch9 zk zl zh zp zq (nI k) ++ wo o cO go)) H) (hD : va_D (fun q : Nat => s.heap.size ≤ q) (w0 h a b0 cB cJ f g (nI n) (nI c) zg (nI k) ++ (w1 h1 a1 b1 cI cK fb g zt (nI n) (nI c) so nu ty hh pa ch9 zk zl zh zp zq (nI k) ++ wo o cO go))) (hS : va_S (fun q : Nat => s.heap.size ≤ q) s.heap H locs) (hl : lv_has ls 8 [(0, .ref b), (1, .ref h), (2, .ref h1), (3, .ref o), (4, .int (nI (4 * t)))])  : W p l e room_1 s m #[Value.ref b] below meth cd H locs (7 + t) (8416 + 6 * t) (lw_Z below #[Value.ref b] s) (F0 m 538 ls []) := by
  obtain ⟨⟨hx, hb, hr, hml, hown, hts, hXs, hbl, hlocks⟩, hst, hL, hK, hZ, hX⟩ := CX
  have hA : ∀ q : Nat, s.heap.size ≤ q → (fun q : Nat => s.heap.size ≤ q) q := fun _ h => h
  have hbA : ¬ (fun q : Nat => s.heap.size ≤ q) b := Nat.not_le.mpr hbl
  have hKx := hK.sub (tys' := t0 cB cJ) [0, 1] rfl
  have hKm := hK.sub (tys' := t1 cI cK) [2, 3] rfl
  have hKh := hK.sub (tys' := th cB cJ cO) [0, 1, 4] rfl
  refine lv_aload_n hx hb dL_law_538 rfl (lv_at hl 1 rfl) ?_
  refine gji (wc := w0 h a b0 cB cJ f g (nI n) (nI c) zg (nI k)) (wr := w1 h1 a1 b1 cI cK fb g zt (nI n) (nI c) so nu ty hh pa ch9 zk zl zh zp zq (nI k) ++ wo o cO go) (As := []) (rest := []) ⟨hx, hb, hml, hown, hts⟩ (c_X0_consumed l dC dI tk tw h a b0 cB cJ _ f g (nI n) (nI c) zg (nI k) ) (cwV 0 hts gL_law_X0_consumed rfl rfl rfl (by decide +kernel) ⟨Nat.le_of_ble_eq_true rfl, Nat.le_of_ble_eq_true rfl⟩) hKx hP hD hS hA hZ (q0 := 0) (ci := 0) rfl rfl rfl rfl hl.1 rfl (Nat.le_of_ble_eq_true rfl) dL_law_539 ⟨by show _ ≤ 1042; omega, by show _ ≤ 16674; omega⟩ (fun r_1 u_3 H locs hw_2 hP hD hS => ?_)
  have hP : va_P (dC, dI) vwCl (w0 h a b0 cB cJ f g (nI n) (nI c) zg (nI k) ++ (w1 h1 a1 b1 cI cK fb g zt (nI n) (nI c) so nu ty hh pa ch9 zk zl zh zp zq (nI k) ++ wo o cO go)) H := hP
  have hD : va_D (fun q : Nat => s.heap.size ≤ q) (w0 h a b0 cB cJ f g (nI n) (nI c) zg (nI k) ++ (w1 h1 a1 b1 cI cK fb g zt (nI n) (nI c) so nu ty hh pa ch9 zk zl zh zp zq (nI k) ++ wo o cO go)) := hD
  obtain rfl : r_1 = nI c := hw_2
  refine lv_aload_n hx hb dL_law_542 rfl (lv_at hl 2 rfl) ?_
  have hP : va_P (dC, dI) vwCl (w1 h1 a1 b1 cI cK fb g zt (nI n) (nI c) so nu ty hh pa ch9 zk zl zh zp zq (nI k) ++ (w0 h a b0 cB cJ f g (nI n) (nI c) zg (nI k) ++ wo o cO go)) H := hP.sub [3, 4, 5, 0, 1, 2, 6] rfl
  have hD : va_D (fun q : Nat => s.heap.size ≤ q) (w1 h1 a1 b1 cI cK fb g zt (nI n) (nI c) so nu ty hh pa ch9 zk zl zh zp zq (nI k) ++ (w0 h a b0 cB cJ f g (nI n) (nI c) zg (nI k) ++ wo o cO go)) := hD.sub [3, 4, 5, 0, 1, 2, 6] (by decide) rfl
  refine gji (wc := w1 h1 a1 b1 cI cK fb g zt (nI n) (nI c) so nu ty hh pa ch9 zk zl zh zp zq (nI k)) (wr := w0 h a b0 cB cJ f g (nI n) (nI c) zg (nI k) ++ wo o cO go) (As := []) (rest := [.int (nI c)]) ⟨hx, hb, hml, hown, hts⟩ (c_X1_consumed l dC dI tk tw h1 a1 b1 cI cK _ fb g zt (nI n) (nI c) so nu ty hh pa ch9 zk zl zh zp zq (nI k) ) (cwV 0 hts gL_law_X1_consumed rfl rfl rfl (by decide +kernel) ⟨Nat.le_of_ble_eq_true rfl, Nat.le_of_ble_eq_true rfl⟩) hKm hP hD hS hA hZ (q0 := 0) (ci := 1) rfl rfl rfl rfl hl.1 rfl (Nat.le_of_ble_eq_true rfl) dL_law_543 ⟨by show _ ≤ 1042; omega, by show _ ≤ 16674; omega⟩ (fun r_4 u_6 H locs hw_5 hP hD hS => ?_)
  have hP : va_P (dC, dI) vwCl (w1 h1 a1 b1 cI cK fb g 0 (nI n) (nI c) so nu ty hh pa ch9 zk zl zh zp zq (nI k) ++ (w0 h a b0 cB cJ f g (nI n) (nI c) zg (nI k) ++ wo o cO go)) H := hP
  have hD : va_D (fun q : Nat => s.heap.size ≤ q) (w1 h1 a1 b1 cI cK fb g 0 (nI n) (nI c) so nu ty hh pa ch9 zk zl zh zp zq (nI k) ++ (w0 h a b0 cB cJ f g (nI n) (nI c) zg (nI k) ++ wo o cO go)) := hD
  obtain rfl : r_4 = nI c := hw_5
  refine lv_icmp_eq (tgt := 644) hx hb dL_law_546 (by decide) (fun c_7 => ?_) (fun c_7 => ?_)
  · skip
    have hP : va_P (dC, dI) vwCl (w0 h a b0 cB cJ f g (nI n) (nI c) zg (nI k) ++ (w1 h1 a1 b1 cI cK fb g 0 (nI n) (nI c) so nu ty hh pa ch9 zk zl zh zp zq (nI k) ++ wo o cO go)) H := hP.sub [3, 4, 5, 0, 1, 2, 6] rfl
    have hD : va_D (fun q : Nat => s.heap.size ≤ q) (w0 h a b0 cB cJ f g (nI n) (nI c) zg (nI k) ++ (w1 h1 a1 b1 cI cK fb g 0 (nI n) (nI c) so nu ty hh pa ch9 zk zl zh zp zq (nI k) ++ wo o cO go)) := hD.sub [3, 4, 5, 0, 1, 2, 6] (by decide) rfl
    refine W.widen (k := 7 + t + 1) (n := 8416 + 6 * (t + 1)) (by omega) (by omega) ?_
    exact K _ _ _ ⟨n, c, k, f, fb, g, zg, 0, so, nu, ty, hh, pa, ch9, zk, zl, zh, zp, zq, go, hn, hc, hk, hRB, hG, hP, hD, hS, lv_sub hl [0, 1, 2, 3, 4] rfl⟩
  · skip
    exact absurd rfl c_7
set_option maxHeartbeats 4000000 in
set_option maxRecDepth 100000 in
theorem op_whole {p : Program} {e : Env} {s : State} {m : MethodId} {below : List Frame} {meth : Method} {cd : Code} {l : Launch} {b L : Nat} {xs : Nat → Int32} {dC : Nat → ClassId} {dI : Nat → Nat → Nat} {tk tw : Nat} {sa : Nat → Nat} {cB cJ cI cK cO : ClassId} {h a b0 h1 a1 b1 o t : Nat} {H : Heap} {locs : List Loc} {ls : Array Slot} (CX : LC l p s m meth cd b L xs dC dI tk tw sa cB cJ cI cK cO) (ht4 : 4 * t + 4 ≤ L) (K : ∀ (H : Heap) (locs : List Loc) (ls : Array Slot), LI s b dC dI h a b0 cB cJ h1 a1 b1 cI cK o cO t H locs ls → W p l e room_1 s m #[Value.ref b] below meth cd H locs (7 + t + 1) (8416 + 6 * (t + 1)) (lw_Z below #[Value.ref b] s) (F0 m 644 ls [])) (n : Nat) (c : Nat) (k : Nat) (f : Nat → Int32) (fb : Nat → Int32) (g : Nat → Int64) (zg : Int32) (zt : Int32) (so : Int32) (nu : Int64) (ty : Int32) (hh : Int32) (pa : Int64) (ch9 : Int64) (zk : Int32) (zl : Int32) (zh : Int32) (zp : Int32) (zq : Int32) (go : Nat → Int64) (hn : n ≤ 4096) (hc : c ≤ n) (hk : k ≤ 100) (hRB : RB n f fb) (hG : GV f c zg zk zl zh zp zq) (hP : va_P (dC, dI) vwCl (w0 h a b0 cB cJ f g (nI n) (nI c) zg (nI k) ++ (w1 h1 a1 b1 cI cK fb g zt (nI n) (nI c) so nu ty hh pa ch9 zk zl zh zp zq (nI k) ++ wo o cO go)) H) (hD : va_D (fun q : Nat => s.heap.size ≤ q) (w0 h a b0 cB cJ f g (nI n) (nI c) zg (nI k) ++ (w1 h1 a1 b1 cI cK fb g zt (nI n) (nI c) so nu ty hh pa ch9 zk zl zh zp zq (nI k) ++ wo o cO go))) (hS : va_S (fun q : Nat => s.heap.size ≤ q) s.heap H locs) (hl : lv_has ls 8 [(0, .ref b), (1, .ref h), (2, .ref h1), (3, .ref o), (4, .int (nI (4 * t)))])  : W p l e room_1 s m #[Value.ref b] below meth cd H locs (7 + t) (8416 + 6 * t) (lw_Z below #[Value.ref b] s) (F0 m 551 ls []) := by
  obtain ⟨⟨hx, hb, hr, hml, hown, hts, hXs, hbl, hlocks⟩, hst, hL, hK, hZ, hX⟩ := CX
  have hA : ∀ q : Nat, s.heap.size ≤ q → (fun q : Nat => s.heap.size ≤ q) q := fun _ h => h
  have hbA : ¬ (fun q : Nat => s.heap.size ≤ q) b := Nat.not_le.mpr hbl
  have hKx := hK.sub (tys' := t0 cB cJ) [0, 1] rfl
  have hKm := hK.sub (tys' := t1 cI cK) [2, 3] rfl
  have hKh := hK.sub (tys' := th cB cJ cO) [0, 1, 4] rfl
  refine lv_aload_n hx hb dL_law_551 rfl (lv_at hl 1 rfl) ?_
  refine gji (wc := w0 h a b0 cB cJ f g (nI n) (nI c) zg (nI k)) (wr := w1 h1 a1 b1 cI cK fb g zt (nI n) (nI c) so nu ty hh pa ch9 zk zl zh zp zq (nI k) ++ wo o cO go) (As := []) (rest := []) ⟨hx, hb, hml, hown, hts⟩ (c_X0_whole l dC dI tk tw h a b0 cB cJ _ f g zg (nI k) n c hn (by omega)) (cwV 0 hts gL_law_X0_whole rfl rfl rfl (by decide +kernel) ⟨Nat.le_of_ble_eq_true rfl, Nat.le_of_ble_eq_true rfl⟩) hKx hP hD hS hA hZ (q0 := 0) (ci := 0) rfl rfl rfl rfl hl.1 rfl (Nat.le_of_ble_eq_true rfl) dL_law_552 ⟨by show _ ≤ 1042; omega, by show _ ≤ 16674; omega⟩ (fun r_1 u_3 H locs hw_2 hP hD hS => ?_)
  have hP : va_P (dC, dI) vwCl (w0 h a b0 cB cJ f g (nI n) (nI c) zg (nI k) ++ (w1 h1 a1 b1 cI cK fb g zt (nI n) (nI c) so nu ty hh pa ch9 zk zl zh zp zq (nI k) ++ wo o cO go)) H := hP
  have hD : va_D (fun q : Nat => s.heap.size ≤ q) (w0 h a b0 cB cJ f g (nI n) (nI c) zg (nI k) ++ (w1 h1 a1 b1 cI cK fb g zt (nI n) (nI c) so nu ty hh pa ch9 zk zl zh zp zq (nI k) ++ wo o cO go)) := hD
  obtain rfl : r_1 = nI (wh (bY f) n 4096 c) := hw_2
  refine lv_aload_n hx hb dL_law_555 rfl (lv_at hl 2 rfl) ?_
  have hP : va_P (dC, dI) vwCl (w1 h1 a1 b1 cI cK fb g zt (nI n) (nI c) so nu ty hh pa ch9 zk zl zh zp zq (nI k) ++ (w0 h a b0 cB cJ f g (nI n) (nI c) zg (nI k) ++ wo o cO go)) H := hP.sub [3, 4, 5, 0, 1, 2, 6] rfl
  have hD : va_D (fun q : Nat => s.heap.size ≤ q) (w1 h1 a1 b1 cI cK fb g zt (nI n) (nI c) so nu ty hh pa ch9 zk zl zh zp zq (nI k) ++ (w0 h a b0 cB cJ f g (nI n) (nI c) zg (nI k) ++ wo o cO go)) := hD.sub [3, 4, 5, 0, 1, 2, 6] (by decide) rfl
  refine gji (wc := w1 h1 a1 b1 cI cK fb g zt (nI n) (nI c) so nu ty hh pa ch9 zk zl zh zp zq (nI k)) (wr := w0 h a b0 cB cJ f g (nI n) (nI c) zg (nI k) ++ wo o cO go) (As := []) (rest := [.int (nI (wh (bY f) n 4096 c))]) ⟨hx, hb, hml, hown, hts⟩ (c_X1_whole l dC dI tk tw h1 a1 b1 cI cK _ fb g zt so nu ty hh pa ch9 zk zl zh zp zq (nI k) (bY f) (bY_lt f) n c hn (by omega) (fun j hj => (hRB j hj).1)) (cwV 0 hts gL_law_X1_whole rfl rfl rfl (by decide +kernel) ⟨Nat.le_of_ble_eq_true rfl, Nat.le_of_ble_eq_true rfl⟩) hKm hP hD hS hA hZ (q0 := 0) (ci := 1) rfl rfl rfl rfl hl.1 rfl (Nat.le_of_ble_eq_true rfl) dL_law_556 ⟨by show _ ≤ 1042; omega, by show _ ≤ 16674; omega⟩ (fun r_4 u_6 H locs hw_5 hP hD hS => ?_)
  obtain ⟨so1, nu1, ty1, hd1, pa1, ch1⟩ := u_6
  have hP : va_P (dC, dI) vwCl (w1 h1 a1 b1 cI cK fb g 0 (nI n) (nI c) so1 nu1 ty1 hd1 pa1 ch1 zk zl zh zp zq (nI k) ++ (w0 h a b0 cB cJ f g (nI n) (nI c) zg (nI k) ++ wo o cO go)) H := hP
  have hD : va_D (fun q : Nat => s.heap.size ≤ q) (w1 h1 a1 b1 cI cK fb g 0 (nI n) (nI c) so1 nu1 ty1 hd1 pa1 ch1 zk zl zh zp zq (nI k) ++ (w0 h a b0 cB cJ f g (nI n) (nI c) zg (nI k) ++ wo o cO go)) := hD
  obtain rfl : r_4 = nI (wh (bY f) n 4096 c) := hw_5
  refine lv_icmp_eq (tgt := 644) hx hb dL_law_559 (by decide) (fun c_7 => ?_) (fun c_7 => ?_)
  · skip
    have hP : va_P (dC, dI) vwCl (w0 h a b0 cB cJ f g (nI n) (nI c) zg (nI k) ++ (w1 h1 a1 b1 cI cK fb g 0 (nI n) (nI c) so1 nu1 ty1 hd1 pa1 ch1 zk zl zh zp zq (nI k) ++ wo o cO go)) H := hP.sub [3, 4, 5, 0, 1, 2, 6] rfl
    have hD : va_D (fun q : Nat => s.heap.size ≤ q) (w0 h a b0 cB cJ f g (nI n) (nI c) zg (nI k) ++ (w1 h1 a1 b1 cI cK fb g 0 (nI n) (nI c) so1 nu1 ty1 hd1 pa1 ch1 zk zl zh zp zq (nI k) ++ wo o cO go)) := hD.sub [3, 4, 5, 0, 1, 2, 6] (by decide) rfl
    refine W.widen (k := 7 + t + 1) (n := 8416 + 6 * (t + 1)) (by omega) (by omega) ?_
    exact K _ _ _ ⟨n, c, k, f, fb, g, zg, 0, so1, nu1, ty1, hd1, pa1, ch1, zk, zl, zh, zp, zq, go, hn, hc, hk, hRB, hG, hP, hD, hS, lv_sub hl [0, 1, 2, 3, 4] rfl⟩
  · skip
    exact absurd rfl c_7
set_option maxHeartbeats 4000000 in
set_option maxRecDepth 100000 in
theorem op_remaining_g {p : Program} {e : Env} {s : State} {m : MethodId} {below : List Frame} {meth : Method} {cd : Code} {l : Launch} {b L : Nat} {xs : Nat → Int32} {dC : Nat → ClassId} {dI : Nat → Nat → Nat} {tk tw : Nat} {sa : Nat → Nat} {cB cJ cI cK cO : ClassId} {h a b0 h1 a1 b1 o t : Nat} {H : Heap} {locs : List Loc} {ls : Array Slot} (CX : LC l p s m meth cd b L xs dC dI tk tw sa cB cJ cI cK cO) (ht4 : 4 * t + 4 ≤ L) (K : ∀ (H : Heap) (locs : List Loc) (ls : Array Slot), LI s b dC dI h a b0 cB cJ h1 a1 b1 cI cK o cO t H locs ls → W p l e room_1 s m #[Value.ref b] below meth cd H locs (7 + t + 1) (8416 + 6 * (t + 1)) (lw_Z below #[Value.ref b] s) (F0 m 644 ls [])) (n : Nat) (c : Nat) (k : Nat) (f : Nat → Int32) (fb : Nat → Int32) (g : Nat → Int64) (zg : Int32) (zt : Int32) (so : Int32) (nu : Int64) (ty : Int32) (hh : Int32) (pa : Int64) (ch9 : Int64) (zk : Int32) (zl : Int32) (zh : Int32) (zp : Int32) (zq : Int32) (go : Nat → Int64) (hn : n ≤ 4096) (hc : c ≤ n) (hk : k ≤ 100) (hRB : RB n f fb) (hG : GV f c zg zk zl zh zp zq) (hP : va_P (dC, dI) vwCl (w0 h a b0 cB cJ f g (nI n) (nI c) zg (nI k) ++ (w1 h1 a1 b1 cI cK fb g zt (nI n) (nI c) so nu ty hh pa ch9 zk zl zh zp zq (nI k) ++ wo o cO go)) H) (hD : va_D (fun q : Nat => s.heap.size ≤ q) (w0 h a b0 cB cJ f g (nI n) (nI c) zg (nI k) ++ (w1 h1 a1 b1 cI cK fb g zt (nI n) (nI c) so nu ty hh pa ch9 zk zl zh zp zq (nI k) ++ wo o cO go))) (hS : va_S (fun q : Nat => s.heap.size ≤ q) s.heap H locs) (hl : lv_has ls 8 [(0, .ref b), (1, .ref h), (2, .ref h1), (3, .ref o), (4, .int (nI (4 * t)))]) (hi9 : ¬ xs (4 * t + 1) < 0) : W p l e room_1 s m #[Value.ref b] below meth cd H locs (7 + t) (8416 + 6 * t) (lw_Z below #[Value.ref b] s) (F0 m 483 ls []) := by
  obtain ⟨⟨hx, hb, hr, hml, hown, hts, hXs, hbl, hlocks⟩, hst, hL, hK, hZ, hX⟩ := CX
  have hA : ∀ q : Nat, s.heap.size ≤ q → (fun q : Nat => s.heap.size ≤ q) q := fun _ h => h
  have hbA : ¬ (fun q : Nat => s.heap.size ≤ q) b := Nat.not_le.mpr hbl
  have hKx := hK.sub (tys' := t0 cB cJ) [0, 1] rfl
  have hKm := hK.sub (tys' := t1 cI cK) [2, 3] rfl
  have hKh := hK.sub (tys' := th cB cJ cO) [0, 1, 4] rfl
  refine lv_aload_n hx hb dL_law_483 rfl (lv_at hl 1 rfl) ?_
  refine lv_aload_n hx hb dL_law_484 rfl (lv_at hl 0 rfl) ?_
  refine lv_iload hx hb dL_law_485 (lv_at hl 4 rfl) ?_
  refine lv_iconst (v := 1) hx hb dL_law_487 (by decide) ?_
  refine lv_iadd hx hb dL_law_488 ?_
  have e_1 : (nI (4 * t) + (1 : Int32)) = nI (4 * t + 1) := nI_add (4 * t) 1
  rw [e_1]
  refine va_sld hx hb hXs hbl hbA hS (vp_in_nI (by omega) (by omega)) dL_law_489 ?_
  rw [nI_clamp (by omega)]
  refine lv_aload_n hx hb dL_law_490 rfl (lv_at hl 3 rfl) ?_
  have hP : va_P (dC, dI) vwCl ((w0 h a b0 cB cJ f g (nI n) (nI c) zg (nI k) ++ wo o cO go) ++ w1 h1 a1 b1 cI cK fb g zt (nI n) (nI c) so nu ty hh pa ch9 zk zl zh zp zq (nI k)) H := hP.sub [0, 1, 2, 6, 3, 4, 5] rfl
  have hD : va_D (fun q : Nat => s.heap.size ≤ q) ((w0 h a b0 cB cJ f g (nI n) (nI c) zg (nI k) ++ wo o cO go) ++ w1 h1 a1 b1 cI cK fb g zt (nI n) (nI c) so nu ty hh pa ch9 zk zl zh zp zq (nI k)) := hD.sub [0, 1, 2, 6, 3, 4, 5] (by decide) rfl
  refine ghi (wc := w0 h a b0 cB cJ f g (nI n) (nI c) zg (nI k) ++ wo o cO go) (wr := w1 h1 a1 b1 cI cK fb g zt (nI n) (nI c) so nu ty hh pa ch9 zk zl zh zp zq (nI k)) (As := [.ref h, .int (xs (4 * t + 1)), .ref o]) (rest := []) ⟨hx, hb, hml, hown, hts⟩ (c_L_remaining l hst sa dC dI tk tw h a b0 cB cJ o cO go _ f g (nI n) (nI c) zg k hk (xs (4 * t + 1)) hi9) (vx_cwSW 3 hts gL_law_L_remaining rfl rfl rfl (by decide +kernel) ⟨Nat.le_of_ble_eq_true rfl, Nat.le_of_ble_eq_true rfl⟩) hKh hP hD hS hA hZ hX rfl hl.1 rfl (Nat.le_of_ble_eq_true rfl) dL_law_491 ⟨by show _ ≤ 1042; omega, by show _ ≤ 16674; omega⟩ (fun r_2 u_4 H locs hw_3 hP hD hS => ?_)
  have hP : va_P (dC, dI) vwCl ((w0 h a b0 cB cJ f g (nI n) (nI c) zg (nI k) ++ wo o cO (vp_updL go 0 (rmS g k (xs (4 * t + 1))))) ++ w1 h1 a1 b1 cI cK fb g zt (nI n) (nI c) so nu ty hh pa ch9 zk zl zh zp zq (nI k)) H := hP
  have hD : va_D (fun q : Nat => s.heap.size ≤ q) ((w0 h a b0 cB cJ f g (nI n) (nI c) zg (nI k) ++ wo o cO (vp_updL go 0 (rmS g k (xs (4 * t + 1))))) ++ w1 h1 a1 b1 cI cK fb g zt (nI n) (nI c) so nu ty hh pa ch9 zk zl zh zp zq (nI k)) := hD
  obtain rfl : r_2 = 0 := hw_3
  refine lv_istore (lv' := [(5, .int 0), (0, .ref b), (1, .ref h), (2, .ref h1), (3, .ref o), (4, .int (nI (4 * t)))]) hx hb dL_law_494 hl (by decide) rfl (fun ls hl => ?_)
  refine lv_aload_n hx hb dL_law_496 rfl (lv_at hl 3 rfl) ?_
  refine lv_aload_n hx hb dL_law_497 rfl (lv_at hl 1 rfl) ?_
  refine lv_iload hx hb dL_law_498 (lv_at hl 5 rfl) ?_
  refine lv_iconst (v := 1) hx hb dL_law_500 (by decide) ?_
  refine lv_iadd hx hb dL_law_501 ?_
  have e_5 : (nI (4 * t) + (1 : Int32)) = nI (4 * t + 1) := nI_add (4 * t) 1
  rw [e_5]
  refine va_sld hx hb hXs hbl hbA hS (vp_in_nI (by omega) (by omega)) dL_law_502 ?_
  rw [nI_clamp (by omega)]
  have hP : va_P (dC, dI) vwCl (w1 h1 a1 b1 cI cK fb g zt (nI n) (nI c) so nu ty hh pa ch9 zk zl zh zp zq (nI k) ++ (w0 h a b0 cB cJ f g (nI n) (nI c) zg (nI k) ++ wo o cO (vp_updL go 0 (rmS g k (xs (4 * t + 1)))))) H := hP.sub [4, 5, 6, 0, 1, 2, 3] rfl
  have hD : va_D (fun q : Nat => s.heap.size ≤ q) (w1 h1 a1 b1 cI cK fb g zt (nI n) (nI c) so nu ty hh pa ch9 zk zl zh zp zq (nI k) ++ (w0 h a b0 cB cJ f g (nI n) (nI c) zg (nI k) ++ wo o cO (vp_updL go 0 (rmS g k (xs (4 * t + 1)))))) := hD.sub [4, 5, 6, 0, 1, 2, 3] (by decide) rfl
  refine gjl (wc := w1 h1 a1 b1 cI cK fb g zt (nI n) (nI c) so nu ty hh pa ch9 zk zl zh zp zq (nI k)) (wr := w0 h a b0 cB cJ f g (nI n) (nI c) zg (nI k) ++ wo o cO (vp_updL go 0 (rmS g k (xs (4 * t + 1))))) (As := [.int (xs (4 * t + 1))]) (rest := []) ⟨hx, hb, hml, hown, hts⟩ (c_X1_remaining l dC dI tk tw h1 a1 b1 cI cK _ fb g zt (nI n) (nI c) so nu ty hh pa ch9 zk zl zh zp zq k hk (xs (4 * t + 1)) hi9) (cwV 1 hts gL_law_X1_remaining rfl rfl rfl (by decide +kernel) ⟨Nat.le_of_ble_eq_true rfl, Nat.le_of_ble_eq_true rfl⟩) hKm hP hD hS hA hZ (q0 := 0) (ci := 1) rfl rfl rfl rfl hl.1 rfl (Nat.le_of_ble_eq_true rfl) dL_law_503 ⟨by show _ ≤ 1042; omega, by show _ ≤ 16674; omega⟩ (fun r_6 u_8 H locs hw_7 hP hD hS => ?_)
  have hP : va_P (dC, dI) vwCl (w1 h1 a1 b1 cI cK fb g 0 (nI n) (nI c) so nu ty hh pa ch9 zk zl zh zp zq (nI k) ++ (w0 h a b0 cB cJ f g (nI n) (nI c) zg (nI k) ++ wo o cO (vp_updL go 0 (rmS g k (xs (4 * t + 1)))))) H := hP
  have hD : va_D (fun q : Nat => s.heap.size ≤ q) (w1 h1 a1 b1 cI cK fb g 0 (nI n) (nI c) so nu ty hh pa ch9 zk zl zh zp zq (nI k) ++ (w0 h a b0 cB cJ f g (nI n) (nI c) zg (nI k) ++ wo o cO (vp_updL go 0 (rmS g k (xs (4 * t + 1)))))) := hD
  obtain rfl : r_6 = rmS g k (xs (4 * t + 1)) := hw_7
  refine lv_lstore (lv' := [(6, .long (rmS g k (xs (4 * t + 1)))), (5, .int 0), (0, .ref b), (1, .ref h), (2, .ref h1), (3, .ref o), (4, .int (nI (4 * t)))]) hx hb dL_law_506 hl (by decide) rfl (fun ls hl => ?_)
  refine lv_aload_n hx hb dL_law_508 rfl (lv_at hl 4 rfl) ?_
  refine gji (wc := w1 h1 a1 b1 cI cK fb g 0 (nI n) (nI c) so nu ty hh pa ch9 zk zl zh zp zq (nI k)) (wr := w0 h a b0 cB cJ f g (nI n) (nI c) zg (nI k) ++ wo o cO (vp_updL go 0 (rmS g k (xs (4 * t + 1))))) (As := []) (rest := []) ⟨hx, hb, hml, hown, hts⟩ (c_X1_thrown l dC dI tk tw h1 a1 b1 cI cK _ fb g 0 (nI n) (nI c) so nu ty hh pa ch9 zk zl zh zp zq (nI k) ) (cwV 0 hts gL_law_X1_thrown rfl rfl rfl (by decide +kernel) ⟨Nat.le_of_ble_eq_true rfl, Nat.le_of_ble_eq_true rfl⟩) hKm hP hD hS hA hZ (q0 := 0) (ci := 1) rfl rfl rfl rfl hl.1 rfl (Nat.le_of_ble_eq_true rfl) dL_law_509 ⟨by show _ ≤ 1042; omega, by show _ ≤ 16674; omega⟩ (fun r_9 u_11 H locs hw_10 hP hD hS => ?_)
  have hP : va_P (dC, dI) vwCl (w1 h1 a1 b1 cI cK fb g 0 (nI n) (nI c) so nu ty hh pa ch9 zk zl zh zp zq (nI k) ++ (w0 h a b0 cB cJ f g (nI n) (nI c) zg (nI k) ++ wo o cO (vp_updL go 0 (rmS g k (xs (4 * t + 1)))))) H := hP
  have hD : va_D (fun q : Nat => s.heap.size ≤ q) (w1 h1 a1 b1 cI cK fb g 0 (nI n) (nI c) so nu ty hh pa ch9 zk zl zh zp zq (nI k) ++ (w0 h a b0 cB cJ f g (nI n) (nI c) zg (nI k) ++ wo o cO (vp_updL go 0 (rmS g k (xs (4 * t + 1)))))) := hD
  obtain rfl : r_9 = 0 := hw_10
  refine lv_iload hx hb dL_law_512 (lv_at hl 1 rfl) ?_
  refine lv_icmp_eq (tgt := 519) hx hb dL_law_514 (by decide) (fun c_12 => ?_) (fun c_12 => ?_)
  · skip
    refine lv_iload hx hb dL_law_519 (lv_at hl 1 rfl) ?_
    refine lv_if_ne (tgt := 535) hx hb dL_law_521 (by decide) (fun c_13 => ?_) (fun c_13 => ?_)
    · skip
      exact absurd (by decide) c_13
    · skip
      refine lv_aload_n hx hb dL_law_524 rfl (lv_at hl 5 rfl) ?_
      refine lv_iconst (v := 0) hx hb dL_law_525 (by decide) ?_
      refine va_lald hx hb hK hP 6 4 rfl rfl vp01 dL_law_526 ?_
      have e_14 : (vp_updL go 0 (rmS g k (xs (4 * t + 1))) (0 : Int32).toNatClampNeg : Int64) = (rmS g k (xs (4 * t + 1))) := pk_uLs
      rw [e_14]
      refine lv_lload hx hb dL_law_527 (lv_at hl 0 rfl) ?_
      refine W.lcmp hx hb dL_law_529 ?_
      refine lv_if_eq (tgt := 535) hx hb dL_law_530 (by decide) (fun c_15 => ?_) (fun c_15 => ?_)
      · skip
        have c_15 := (lg_cmp_eq (rmS g k (xs (4 * t + 1))) (rmS g k (xs (4 * t + 1)))).mp c_15
        refine lv_goto (tgt := 644) hx hb dL_law_535 (by decide) ?_
        have hP : va_P (dC, dI) vwCl (w0 h a b0 cB cJ f g (nI n) (nI c) zg (nI k) ++ (w1 h1 a1 b1 cI cK fb g 0 (nI n) (nI c) so nu ty hh pa ch9 zk zl zh zp zq (nI k) ++ wo o cO (vp_updL go 0 (rmS g k (xs (4 * t + 1)))))) H := hP.sub [3, 4, 5, 0, 1, 2, 6] rfl
        have hD : va_D (fun q : Nat => s.heap.size ≤ q) (w0 h a b0 cB cJ f g (nI n) (nI c) zg (nI k) ++ (w1 h1 a1 b1 cI cK fb g 0 (nI n) (nI c) so nu ty hh pa ch9 zk zl zh zp zq (nI k) ++ wo o cO (vp_updL go 0 (rmS g k (xs (4 * t + 1)))))) := hD.sub [3, 4, 5, 0, 1, 2, 6] (by decide) rfl
        refine W.widen (k := 7 + t + 1) (n := 8416 + 6 * (t + 1)) (by omega) (by omega) ?_
        exact K _ _ _ ⟨n, c, k, f, fb, g, zg, 0, so, nu, ty, hh, pa, ch9, zk, zl, zh, zp, zq, vp_updL go 0 (rmS g k (xs (4 * t + 1))), hn, hc, hk, hRB, hG, hP, hD, hS, lv_sub hl [2, 3, 4, 5, 6] rfl⟩
      · skip
        have c_15 := (not_congr (lg_cmp_eq (rmS g k (xs (4 * t + 1))) (rmS g k (xs (4 * t + 1))))).mp c_15
        exact absurd (rfl) c_15
  · skip
    exact absurd rfl c_12
set_option maxHeartbeats 4000000 in
set_option maxRecDepth 100000 in
theorem op_remaining_b {p : Program} {e : Env} {s : State} {m : MethodId} {below : List Frame} {meth : Method} {cd : Code} {l : Launch} {b L : Nat} {xs : Nat → Int32} {dC : Nat → ClassId} {dI : Nat → Nat → Nat} {tk tw : Nat} {sa : Nat → Nat} {cB cJ cI cK cO : ClassId} {h a b0 h1 a1 b1 o t : Nat} {H : Heap} {locs : List Loc} {ls : Array Slot} (CX : LC l p s m meth cd b L xs dC dI tk tw sa cB cJ cI cK cO) (ht4 : 4 * t + 4 ≤ L) (K : ∀ (H : Heap) (locs : List Loc) (ls : Array Slot), LI s b dC dI h a b0 cB cJ h1 a1 b1 cI cK o cO t H locs ls → W p l e room_1 s m #[Value.ref b] below meth cd H locs (7 + t + 1) (8416 + 6 * (t + 1)) (lw_Z below #[Value.ref b] s) (F0 m 644 ls [])) (n : Nat) (c : Nat) (k : Nat) (f : Nat → Int32) (fb : Nat → Int32) (g : Nat → Int64) (zg : Int32) (zt : Int32) (so : Int32) (nu : Int64) (ty : Int32) (hh : Int32) (pa : Int64) (ch9 : Int64) (zk : Int32) (zl : Int32) (zh : Int32) (zp : Int32) (zq : Int32) (go : Nat → Int64) (hn : n ≤ 4096) (hc : c ≤ n) (hk : k ≤ 100) (hRB : RB n f fb) (hG : GV f c zg zk zl zh zp zq) (hP : va_P (dC, dI) vwCl (w0 h a b0 cB cJ f g (nI n) (nI c) zg (nI k) ++ (w1 h1 a1 b1 cI cK fb g zt (nI n) (nI c) so nu ty hh pa ch9 zk zl zh zp zq (nI k) ++ wo o cO go)) H) (hD : va_D (fun q : Nat => s.heap.size ≤ q) (w0 h a b0 cB cJ f g (nI n) (nI c) zg (nI k) ++ (w1 h1 a1 b1 cI cK fb g zt (nI n) (nI c) so nu ty hh pa ch9 zk zl zh zp zq (nI k) ++ wo o cO go))) (hS : va_S (fun q : Nat => s.heap.size ≤ q) s.heap H locs) (hl : lv_has ls 8 [(0, .ref b), (1, .ref h), (2, .ref h1), (3, .ref o), (4, .int (nI (4 * t)))]) (hi9 : xs (4 * t + 1) < 0) : W p l e room_1 s m #[Value.ref b] below meth cd H locs (7 + t) (8416 + 6 * t) (lw_Z below #[Value.ref b] s) (F0 m 483 ls []) := by
  obtain ⟨⟨hx, hb, hr, hml, hown, hts, hXs, hbl, hlocks⟩, hst, hL, hK, hZ, hX⟩ := CX
  have hA : ∀ q : Nat, s.heap.size ≤ q → (fun q : Nat => s.heap.size ≤ q) q := fun _ h => h
  have hbA : ¬ (fun q : Nat => s.heap.size ≤ q) b := Nat.not_le.mpr hbl
  have hKx := hK.sub (tys' := t0 cB cJ) [0, 1] rfl
  have hKm := hK.sub (tys' := t1 cI cK) [2, 3] rfl
  have hKh := hK.sub (tys' := th cB cJ cO) [0, 1, 4] rfl
  refine lv_aload_n hx hb dL_law_483 rfl (lv_at hl 1 rfl) ?_
  refine lv_aload_n hx hb dL_law_484 rfl (lv_at hl 0 rfl) ?_
  refine lv_iload hx hb dL_law_485 (lv_at hl 4 rfl) ?_
  refine lv_iconst (v := 1) hx hb dL_law_487 (by decide) ?_
  refine lv_iadd hx hb dL_law_488 ?_
  have e_1 : (nI (4 * t) + (1 : Int32)) = nI (4 * t + 1) := nI_add (4 * t) 1
  rw [e_1]
  refine va_sld hx hb hXs hbl hbA hS (vp_in_nI (by omega) (by omega)) dL_law_489 ?_
  rw [nI_clamp (by omega)]
  refine lv_aload_n hx hb dL_law_490 rfl (lv_at hl 3 rfl) ?_
  have hP : va_P (dC, dI) vwCl ((w0 h a b0 cB cJ f g (nI n) (nI c) zg (nI k) ++ wo o cO go) ++ w1 h1 a1 b1 cI cK fb g zt (nI n) (nI c) so nu ty hh pa ch9 zk zl zh zp zq (nI k)) H := hP.sub [0, 1, 2, 6, 3, 4, 5] rfl
  have hD : va_D (fun q : Nat => s.heap.size ≤ q) ((w0 h a b0 cB cJ f g (nI n) (nI c) zg (nI k) ++ wo o cO go) ++ w1 h1 a1 b1 cI cK fb g zt (nI n) (nI c) so nu ty hh pa ch9 zk zl zh zp zq (nI k)) := hD.sub [0, 1, 2, 6, 3, 4, 5] (by decide) rfl
  refine ghi (wc := w0 h a b0 cB cJ f g (nI n) (nI c) zg (nI k) ++ wo o cO go) (wr := w1 h1 a1 b1 cI cK fb g zt (nI n) (nI c) so nu ty hh pa ch9 zk zl zh zp zq (nI k)) (As := [.ref h, .int (xs (4 * t + 1)), .ref o]) (rest := []) ⟨hx, hb, hml, hown, hts⟩ (c_L_remaining_b l hst sa dC dI tk tw h a b0 cB cJ o cO go _ f g (nI n) (nI c) zg (nI k) (xs (4 * t + 1)) hi9) (vx_cwSW 3 hts gL_law_L_remaining rfl rfl rfl (by decide +kernel) ⟨Nat.le_of_ble_eq_true rfl, Nat.le_of_ble_eq_true rfl⟩) hKh hP hD hS hA hZ hX rfl hl.1 rfl (Nat.le_of_ble_eq_true rfl) dL_law_491 ⟨by show _ ≤ 1042; omega, by show _ ≤ 16674; omega⟩ (fun r_2 u_4 H locs hw_3 hP hD hS => ?_)
  have hP : va_P (dC, dI) vwCl ((w0 h a b0 cB cJ f g (nI n) (nI c) zg (nI k) ++ wo o cO go) ++ w1 h1 a1 b1 cI cK fb g zt (nI n) (nI c) so nu ty hh pa ch9 zk zl zh zp zq (nI k)) H := hP
  have hD : va_D (fun q : Nat => s.heap.size ≤ q) ((w0 h a b0 cB cJ f g (nI n) (nI c) zg (nI k) ++ wo o cO go) ++ w1 h1 a1 b1 cI cK fb g zt (nI n) (nI c) so nu ty hh pa ch9 zk zl zh zp zq (nI k)) := hD
  obtain rfl : r_2 = 1 := hw_3
  refine lv_istore (lv' := [(5, .int 1), (0, .ref b), (1, .ref h), (2, .ref h1), (3, .ref o), (4, .int (nI (4 * t)))]) hx hb dL_law_494 hl (by decide) rfl (fun ls hl => ?_)
  refine lv_aload_n hx hb dL_law_496 rfl (lv_at hl 3 rfl) ?_
  refine lv_aload_n hx hb dL_law_497 rfl (lv_at hl 1 rfl) ?_
  refine lv_iload hx hb dL_law_498 (lv_at hl 5 rfl) ?_
  refine lv_iconst (v := 1) hx hb dL_law_500 (by decide) ?_
  refine lv_iadd hx hb dL_law_501 ?_
  have e_5 : (nI (4 * t) + (1 : Int32)) = nI (4 * t + 1) := nI_add (4 * t) 1
  rw [e_5]
  refine va_sld hx hb hXs hbl hbA hS (vp_in_nI (by omega) (by omega)) dL_law_502 ?_
  rw [nI_clamp (by omega)]
  have hP : va_P (dC, dI) vwCl (w1 h1 a1 b1 cI cK fb g zt (nI n) (nI c) so nu ty hh pa ch9 zk zl zh zp zq (nI k) ++ (w0 h a b0 cB cJ f g (nI n) (nI c) zg (nI k) ++ wo o cO go)) H := hP.sub [4, 5, 6, 0, 1, 2, 3] rfl
  have hD : va_D (fun q : Nat => s.heap.size ≤ q) (w1 h1 a1 b1 cI cK fb g zt (nI n) (nI c) so nu ty hh pa ch9 zk zl zh zp zq (nI k) ++ (w0 h a b0 cB cJ f g (nI n) (nI c) zg (nI k) ++ wo o cO go)) := hD.sub [4, 5, 6, 0, 1, 2, 3] (by decide) rfl
  refine gjl (wc := w1 h1 a1 b1 cI cK fb g zt (nI n) (nI c) so nu ty hh pa ch9 zk zl zh zp zq (nI k)) (wr := w0 h a b0 cB cJ f g (nI n) (nI c) zg (nI k) ++ wo o cO go) (As := [.int (xs (4 * t + 1))]) (rest := []) ⟨hx, hb, hml, hown, hts⟩ (c_X1_remaining_b l dC dI tk tw h1 a1 b1 cI cK _ fb g zt (nI n) (nI c) so nu ty hh pa ch9 zk zl zh zp zq (nI k) (xs (4 * t + 1)) hi9) (cwV 1 hts gL_law_X1_remaining rfl rfl rfl (by decide +kernel) ⟨Nat.le_of_ble_eq_true rfl, Nat.le_of_ble_eq_true rfl⟩) hKm hP hD hS hA hZ (q0 := 0) (ci := 1) rfl rfl rfl rfl hl.1 rfl (Nat.le_of_ble_eq_true rfl) dL_law_503 ⟨by show _ ≤ 1042; omega, by show _ ≤ 16674; omega⟩ (fun r_6 u_8 H locs hw_7 hP hD hS => ?_)
  have hP : va_P (dC, dI) vwCl (w1 h1 a1 b1 cI cK fb g 1 (nI n) (nI c) so nu ty hh pa ch9 zk zl zh zp zq (nI k) ++ (w0 h a b0 cB cJ f g (nI n) (nI c) zg (nI k) ++ wo o cO go)) H := hP
  have hD : va_D (fun q : Nat => s.heap.size ≤ q) (w1 h1 a1 b1 cI cK fb g 1 (nI n) (nI c) so nu ty hh pa ch9 zk zl zh zp zq (nI k) ++ (w0 h a b0 cB cJ f g (nI n) (nI c) zg (nI k) ++ wo o cO go)) := hD
  refine lv_lstore (lv' := [(6, .long r_6), (5, .int 1), (0, .ref b), (1, .ref h), (2, .ref h1), (3, .ref o), (4, .int (nI (4 * t)))]) hx hb dL_law_506 hl (by decide) rfl (fun ls hl => ?_)
  refine lv_aload_n hx hb dL_law_508 rfl (lv_at hl 4 rfl) ?_
  refine gji (wc := w1 h1 a1 b1 cI cK fb g 1 (nI n) (nI c) so nu ty hh pa ch9 zk zl zh zp zq (nI k)) (wr := w0 h a b0 cB cJ f g (nI n) (nI c) zg (nI k) ++ wo o cO go) (As := []) (rest := []) ⟨hx, hb, hml, hown, hts⟩ (c_X1_thrown l dC dI tk tw h1 a1 b1 cI cK _ fb g 1 (nI n) (nI c) so nu ty hh pa ch9 zk zl zh zp zq (nI k) ) (cwV 0 hts gL_law_X1_thrown rfl rfl rfl (by decide +kernel) ⟨Nat.le_of_ble_eq_true rfl, Nat.le_of_ble_eq_true rfl⟩) hKm hP hD hS hA hZ (q0 := 0) (ci := 1) rfl rfl rfl rfl hl.1 rfl (Nat.le_of_ble_eq_true rfl) dL_law_509 ⟨by show _ ≤ 1042; omega, by show _ ≤ 16674; omega⟩ (fun r_9 u_11 H locs hw_10 hP hD hS => ?_)
  have hP : va_P (dC, dI) vwCl (w1 h1 a1 b1 cI cK fb g 1 (nI n) (nI c) so nu ty hh pa ch9 zk zl zh zp zq (nI k) ++ (w0 h a b0 cB cJ f g (nI n) (nI c) zg (nI k) ++ wo o cO go)) H := hP
  have hD : va_D (fun q : Nat => s.heap.size ≤ q) (w1 h1 a1 b1 cI cK fb g 1 (nI n) (nI c) so nu ty hh pa ch9 zk zl zh zp zq (nI k) ++ (w0 h a b0 cB cJ f g (nI n) (nI c) zg (nI k) ++ wo o cO go)) := hD
  obtain rfl : r_9 = 1 := hw_10
  refine lv_iload hx hb dL_law_512 (lv_at hl 1 rfl) ?_
  refine lv_icmp_eq (tgt := 519) hx hb dL_law_514 (by decide) (fun c_12 => ?_) (fun c_12 => ?_)
  · skip
    refine lv_iload hx hb dL_law_519 (lv_at hl 1 rfl) ?_
    refine lv_if_ne (tgt := 535) hx hb dL_law_521 (by decide) (fun c_13 => ?_) (fun c_13 => ?_)
    · skip
      refine lv_goto (tgt := 644) hx hb dL_law_535 (by decide) ?_
      have hP : va_P (dC, dI) vwCl (w0 h a b0 cB cJ f g (nI n) (nI c) zg (nI k) ++ (w1 h1 a1 b1 cI cK fb g 1 (nI n) (nI c) so nu ty hh pa ch9 zk zl zh zp zq (nI k) ++ wo o cO go)) H := hP.sub [3, 4, 5, 0, 1, 2, 6] rfl
      have hD : va_D (fun q : Nat => s.heap.size ≤ q) (w0 h a b0 cB cJ f g (nI n) (nI c) zg (nI k) ++ (w1 h1 a1 b1 cI cK fb g 1 (nI n) (nI c) so nu ty hh pa ch9 zk zl zh zp zq (nI k) ++ wo o cO go)) := hD.sub [3, 4, 5, 0, 1, 2, 6] (by decide) rfl
      refine W.widen (k := 7 + t + 1) (n := 8416 + 6 * (t + 1)) (by omega) (by omega) ?_
      exact K _ _ _ ⟨n, c, k, f, fb, g, zg, 1, so, nu, ty, hh, pa, ch9, zk, zl, zh, zp, zq, go, hn, hc, hk, hRB, hG, hP, hD, hS, lv_sub hl [2, 3, 4, 5, 6] rfl⟩
    · skip
      exact absurd c_13 (by decide)
  · skip
    exact absurd rfl c_12
