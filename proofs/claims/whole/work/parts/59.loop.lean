theorem lt_asym {x : Int32} (h : 0 < x) : ¬ x < 0 := by
  rw [Int32.lt_iff_toInt_lt] at h ⊢
  omega
theorem gt_of {x c : Int32} {k : Nat} (h : nI k ≤ x) (hc : c < nI k) : c < x := by
  rw [Int32.lt_iff_toInt_lt] at hc ⊢
  rw [Int32.le_iff_toInt_le] at h
  omega
theorem lt_of_le9 {x c d : Int32} (hc : c < d) (h : d ≤ x) : c < x := by
  rw [Int32.lt_iff_toInt_lt] at hc ⊢
  rw [Int32.le_iff_toInt_le] at h
  omega
theorem lt1_of {x : Int32} (h : x < 0) : x < 1 := by
  rw [Int32.lt_iff_toInt_lt] at h ⊢
  have e1 : (1 : Int32).toInt = 1 := by decide
  have e0 : (0 : Int32).toInt = 0 := by decide
  omega
theorem more_of {L t : Nat} (hL : L ≤ 2048) (ht : 4 * t ≤ 2052) (h : ¬ (Int32.ofNat L - 4) < nI (4 * t)) : 4 * t + 4 ≤ L := by
  have e : (nI L - nI 4).toInt = (L : Int) - 4 := pk_sub_toInt (by omega) (by decide)
  have h2 : ¬ (nI L - nI 4) < nI (4 * t) := h
  rw [Int32.lt_iff_toInt_lt, e, nI_toInt (by omega)] at h2
  omega
set_option maxHeartbeats 4000000 in
set_option maxRecDepth 100000 in
theorem cs_0 {p : Program} {e : Env} {s : State} {m : MethodId} {below : List Frame} {meth : Method} {cd : Code} {l : Launch} {b L : Nat} {xs : Nat → Int32} {dC : Nat → ClassId} {dI : Nat → Nat → Nat} {tk tw : Nat} {sa : Nat → Nat} {cB cJ cI cK cO : ClassId} {h a b0 h1 a1 b1 o : Nat} (CX : LC l p s m meth cd b L xs dC dI tk tw sa cB cJ cI cK cO) {t : Nat} {H : Heap} {locs : List Loc} {ls : Array Slot} (ht4 : 4 * t + 4 ≤ L) (K : ∀ (H : Heap) (locs : List Loc) (ls : Array Slot), LI s b dC dI h a b0 cB cJ h1 a1 b1 cI cK o cO t H locs ls → W p l e room_1 s m #[Value.ref b] below meth cd H locs (7 + t + 1) (8416 + 6 * (t + 1)) (lw_Z below #[Value.ref b] s) (F0 m 644 ls [])) (HI : LI s b dC dI h a b0 cB cJ h1 a1 b1 cI cK o cO t H locs ls) : W p l e room_1 s m #[Value.ref b] below meth cd H locs (7 + t) (8416 + 6 * t) (lw_Z below #[Value.ref b] s) (F0 m 112 ls []) := by
  have hL2 : L ≤ 2048 := CX.2.2.1
  obtain ⟨n, c, k, f, fb, g, zg, zt, so, nu, ty, hh, pa, ch9, zk, zl, zh, zp, zq, go, hn, hc, hk, hRB, hG, hP, hD, hS, hl⟩ := HI
  rcases pk_ix (xs (4 * t + 1)) (n := 256) (by decide) with z | z | ⟨v, hv, e1⟩
  · exact op_feed_b CX ht4 K _ _ _ _ _ _ _ _ _ _ _ _ _ _ _ _ _ _ _ _ hn hc hk hRB hG hP hD hS hl (Or.inl z)
  · exact op_feed_b CX ht4 K _ _ _ _ _ _ _ _ _ _ _ _ _ _ _ _ _ _ _ _ hn hc hk hRB hG hP hD hS hl (Or.inr (gt_of z (by decide)))
  · rcases Nat.lt_or_ge n 4096 with y | y
    · exact op_feed_g CX ht4 K _ _ _ _ _ _ _ _ _ _ _ _ _ _ _ _ _ _ _ _ hn hc hk hRB hG hP hD hS hl y v hv e1
    · obtain rfl : n = 4096 := by omega
      exact op_feed_f CX ht4 K _ _ _ _ _ _ _ _ _ _ _ _ _ _ _ _ _ _ _ hn hc hk hRB hG hP hD hS hl v hv e1
set_option maxHeartbeats 4000000 in
set_option maxRecDepth 100000 in
theorem cs_1 {p : Program} {e : Env} {s : State} {m : MethodId} {below : List Frame} {meth : Method} {cd : Code} {l : Launch} {b L : Nat} {xs : Nat → Int32} {dC : Nat → ClassId} {dI : Nat → Nat → Nat} {tk tw : Nat} {sa : Nat → Nat} {cB cJ cI cK cO : ClassId} {h a b0 h1 a1 b1 o : Nat} (CX : LC l p s m meth cd b L xs dC dI tk tw sa cB cJ cI cK cO) {t : Nat} {H : Heap} {locs : List Loc} {ls : Array Slot} (ht4 : 4 * t + 4 ≤ L) (K : ∀ (H : Heap) (locs : List Loc) (ls : Array Slot), LI s b dC dI h a b0 cB cJ h1 a1 b1 cI cK o cO t H locs ls → W p l e room_1 s m #[Value.ref b] below meth cd H locs (7 + t + 1) (8416 + 6 * (t + 1)) (lw_Z below #[Value.ref b] s) (F0 m 644 ls [])) (HI : LI s b dC dI h a b0 cB cJ h1 a1 b1 cI cK o cO t H locs ls) : W p l e room_1 s m #[Value.ref b] below meth cd H locs (7 + t) (8416 + 6 * t) (lw_Z below #[Value.ref b] s) (F0 m 168 ls []) := by
  have hL2 : L ≤ 2048 := CX.2.2.1
  obtain ⟨n, c, k, f, fb, g, zg, zt, so, nu, ty, hh, pa, ch9, zk, zl, zh, zp, zq, go, hn, hc, hk, hRB, hG, hP, hD, hS, hl⟩ := HI
  rcases pk_ix (xs (4 * t + 3)) (n := 9) (by decide) with z | z | ⟨v, hv, e3⟩
  · exact op_put_b CX ht4 K _ _ _ _ _ _ _ _ _ _ _ _ _ _ _ _ _ _ _ _ hn hc hk hRB hG hP hD hS hl (Or.inl (lt1_of z))
  · exact op_put_b CX ht4 K _ _ _ _ _ _ _ _ _ _ _ _ _ _ _ _ _ _ _ _ hn hc hk hRB hG hP hD hS hl (Or.inr (gt_of z (by decide)))
  · rcases Nat.eq_zero_or_pos v with y | y
    · exact op_put_b CX ht4 K _ _ _ _ _ _ _ _ _ _ _ _ _ _ _ _ _ _ _ _ hn hc hk hRB hG hP hD hS hl (Or.inl (by rw [e3, y]; decide))
    · rcases Nat.lt_or_ge 4096 (n + v) with w | w
      · exact op_put_f CX ht4 K _ _ _ _ _ _ _ _ _ _ _ _ _ _ _ _ _ _ _ _ hn hc hk hRB hG hP hD hS hl v ⟨y, by omega⟩ w e3
      · exact op_put_g CX ht4 K _ _ _ _ _ _ _ _ _ _ _ _ _ _ _ _ _ _ _ _ hn hc hk hRB hG hP hD hS hl v ⟨y, by omega⟩ w e3
set_option maxHeartbeats 4000000 in
set_option maxRecDepth 100000 in
theorem cs_2 {p : Program} {e : Env} {s : State} {m : MethodId} {below : List Frame} {meth : Method} {cd : Code} {l : Launch} {b L : Nat} {xs : Nat → Int32} {dC : Nat → ClassId} {dI : Nat → Nat → Nat} {tk tw : Nat} {sa : Nat → Nat} {cB cJ cI cK cO : ClassId} {h a b0 h1 a1 b1 o : Nat} (CX : LC l p s m meth cd b L xs dC dI tk tw sa cB cJ cI cK cO) {t : Nat} {H : Heap} {locs : List Loc} {ls : Array Slot} (ht4 : 4 * t + 4 ≤ L) (K : ∀ (H : Heap) (locs : List Loc) (ls : Array Slot), LI s b dC dI h a b0 cB cJ h1 a1 b1 cI cK o cO t H locs ls → W p l e room_1 s m #[Value.ref b] below meth cd H locs (7 + t + 1) (8416 + 6 * (t + 1)) (lw_Z below #[Value.ref b] s) (F0 m 644 ls [])) (HI : LI s b dC dI h a b0 cB cJ h1 a1 b1 cI cK o cO t H locs ls) : W p l e room_1 s m #[Value.ref b] below meth cd H locs (7 + t) (8416 + 6 * t) (lw_Z below #[Value.ref b] s) (F0 m 268 ls []) := by
  have hL2 : L ≤ 2048 := CX.2.2.1
  obtain ⟨n, c, k, f, fb, g, zg, zt, so, nu, ty, hh, pa, ch9, zk, zl, zh, zp, zq, go, hn, hc, hk, hRB, hG, hP, hD, hS, hl⟩ := HI
  rcases pk_ix (xs (4 * t + 1)) (n := n - c + 1) (by omega) with z | z | ⟨v, hv, e1⟩
  · exact op_cut_b CX ht4 K _ _ _ _ _ _ _ _ _ _ _ _ _ _ _ _ _ _ _ _ hn hc hk hRB hG hP hD hS hl (Or.inl z)
  · exact op_cut_b CX ht4 K _ _ _ _ _ _ _ _ _ _ _ _ _ _ _ _ _ _ _ _ hn hc hk hRB hG hP hD hS hl (Or.inr (lt_of_le9 (nI_lt (Nat.lt_succ_self _) (by omega)) z))
  · exact op_cut_g CX ht4 K _ _ _ _ _ _ _ _ _ _ _ _ _ _ _ _ _ _ _ _ hn hc hk hRB hG hP hD hS hl v (by omega) e1
set_option maxHeartbeats 4000000 in
set_option maxRecDepth 100000 in
theorem cs_3 {p : Program} {e : Env} {s : State} {m : MethodId} {below : List Frame} {meth : Method} {cd : Code} {l : Launch} {b L : Nat} {xs : Nat → Int32} {dC : Nat → ClassId} {dI : Nat → Nat → Nat} {tk tw : Nat} {sa : Nat → Nat} {cB cJ cI cK cO : ClassId} {h a b0 h1 a1 b1 o : Nat} (CX : LC l p s m meth cd b L xs dC dI tk tw sa cB cJ cI cK cO) {t : Nat} {H : Heap} {locs : List Loc} {ls : Array Slot} (ht4 : 4 * t + 4 ≤ L) (K : ∀ (H : Heap) (locs : List Loc) (ls : Array Slot), LI s b dC dI h a b0 cB cJ h1 a1 b1 cI cK o cO t H locs ls → W p l e room_1 s m #[Value.ref b] below meth cd H locs (7 + t + 1) (8416 + 6 * (t + 1)) (lw_Z below #[Value.ref b] s) (F0 m 644 ls [])) (HI : LI s b dC dI h a b0 cB cJ h1 a1 b1 cI cK o cO t H locs ls) : W p l e room_1 s m #[Value.ref b] below meth cd H locs (7 + t) (8416 + 6 * t) (lw_Z below #[Value.ref b] s) (F0 m 324 ls []) := by
  have hL2 : L ≤ 2048 := CX.2.2.1
  obtain ⟨n, c, k, f, fb, g, zg, zt, so, nu, ty, hh, pa, ch9, zk, zl, zh, zp, zq, go, hn, hc, hk, hRB, hG, hP, hD, hS, hl⟩ := HI
  rcases pk_ix (xs (4 * t + 1)) (n := n) (by omega) with z | z | ⟨v, hv, e1⟩
  · exact op_byteAt_b CX ht4 K _ _ _ _ _ _ _ _ _ _ _ _ _ _ _ _ _ _ _ _ hn hc hk hRB hG hP hD hS hl (Or.inl z)
  · exact op_byteAt_b CX ht4 K _ _ _ _ _ _ _ _ _ _ _ _ _ _ _ _ _ _ _ _ hn hc hk hRB hG hP hD hS hl (Or.inr z)
  · exact op_byteAt_g CX ht4 K _ _ _ _ _ _ _ _ _ _ _ _ _ _ _ _ _ _ _ _ hn hc hk hRB hG hP hD hS hl v hv e1
set_option maxHeartbeats 4000000 in
set_option maxRecDepth 100000 in
theorem cs_4 {p : Program} {e : Env} {s : State} {m : MethodId} {below : List Frame} {meth : Method} {cd : Code} {l : Launch} {b L : Nat} {xs : Nat → Int32} {dC : Nat → ClassId} {dI : Nat → Nat → Nat} {tk tw : Nat} {sa : Nat → Nat} {cB cJ cI cK cO : ClassId} {h a b0 h1 a1 b1 o : Nat} (CX : LC l p s m meth cd b L xs dC dI tk tw sa cB cJ cI cK cO) {t : Nat} {H : Heap} {locs : List Loc} {ls : Array Slot} (ht4 : 4 * t + 4 ≤ L) (K : ∀ (H : Heap) (locs : List Loc) (ls : Array Slot), LI s b dC dI h a b0 cB cJ h1 a1 b1 cI cK o cO t H locs ls → W p l e room_1 s m #[Value.ref b] below meth cd H locs (7 + t + 1) (8416 + 6 * (t + 1)) (lw_Z below #[Value.ref b] s) (F0 m 644 ls [])) (HI : LI s b dC dI h a b0 cB cJ h1 a1 b1 cI cK o cO t H locs ls) : W p l e room_1 s m #[Value.ref b] below meth cd H locs (7 + t) (8416 + 6 * t) (lw_Z below #[Value.ref b] s) (F0 m 380 ls []) := by
  have hL2 : L ≤ 2048 := CX.2.2.1
  obtain ⟨n, c, k, f, fb, g, zg, zt, so, nu, ty, hh, pa, ch9, zk, zl, zh, zp, zq, go, hn, hc, hk, hRB, hG, hP, hD, hS, hl⟩ := HI
  exact op_next CX ht4 K _ _ _ _ _ _ _ _ _ _ _ _ _ _ _ _ _ _ _ _ hn hc hk hRB hG hP hD hS hl
set_option maxHeartbeats 4000000 in
set_option maxRecDepth 100000 in
theorem cs_5 {p : Program} {e : Env} {s : State} {m : MethodId} {below : List Frame} {meth : Method} {cd : Code} {l : Launch} {b L : Nat} {xs : Nat → Int32} {dC : Nat → ClassId} {dI : Nat → Nat → Nat} {tk tw : Nat} {sa : Nat → Nat} {cB cJ cI cK cO : ClassId} {h a b0 h1 a1 b1 o : Nat} (CX : LC l p s m meth cd b L xs dC dI tk tw sa cB cJ cI cK cO) {t : Nat} {H : Heap} {locs : List Loc} {ls : Array Slot} (ht4 : 4 * t + 4 ≤ L) (K : ∀ (H : Heap) (locs : List Loc) (ls : Array Slot), LI s b dC dI h a b0 cB cJ h1 a1 b1 cI cK o cO t H locs ls → W p l e room_1 s m #[Value.ref b] below meth cd H locs (7 + t + 1) (8416 + 6 * (t + 1)) (lw_Z below #[Value.ref b] s) (F0 m 644 ls [])) (HI : LI s b dC dI h a b0 cB cJ h1 a1 b1 cI cK o cO t H locs ls) : W p l e room_1 s m #[Value.ref b] below meth cd H locs (7 + t) (8416 + 6 * t) (lw_Z below #[Value.ref b] s) (F0 m 393 ls []) := by
  have hL2 : L ≤ 2048 := CX.2.2.1
  obtain ⟨n, c, k, f, fb, g, zg, zt, so, nu, ty, hh, pa, ch9, zk, zl, zh, zp, zq, go, hn, hc, hk, hRB, hG, hP, hD, hS, hl⟩ := HI
  exact op_skip CX ht4 K _ _ _ _ _ _ _ _ _ _ _ _ _ _ _ _ _ _ _ _ hn hc hk hRB hG hP hD hS hl
set_option maxHeartbeats 4000000 in
set_option maxRecDepth 100000 in
theorem cs_6 {p : Program} {e : Env} {s : State} {m : MethodId} {below : List Frame} {meth : Method} {cd : Code} {l : Launch} {b L : Nat} {xs : Nat → Int32} {dC : Nat → ClassId} {dI : Nat → Nat → Nat} {tk tw : Nat} {sa : Nat → Nat} {cB cJ cI cK cO : ClassId} {h a b0 h1 a1 b1 o : Nat} (CX : LC l p s m meth cd b L xs dC dI tk tw sa cB cJ cI cK cO) {t : Nat} {H : Heap} {locs : List Loc} {ls : Array Slot} (ht4 : 4 * t + 4 ≤ L) (K : ∀ (H : Heap) (locs : List Loc) (ls : Array Slot), LI s b dC dI h a b0 cB cJ h1 a1 b1 cI cK o cO t H locs ls → W p l e room_1 s m #[Value.ref b] below meth cd H locs (7 + t + 1) (8416 + 6 * (t + 1)) (lw_Z below #[Value.ref b] s) (F0 m 644 ls [])) (HI : LI s b dC dI h a b0 cB cJ h1 a1 b1 cI cK o cO t H locs ls) : W p l e room_1 s m #[Value.ref b] below meth cd H locs (7 + t) (8416 + 6 * t) (lw_Z below #[Value.ref b] s) (F0 m 406 ls []) := by
  have hL2 : L ≤ 2048 := CX.2.2.1
  obtain ⟨n, c, k, f, fb, g, zg, zt, so, nu, ty, hh, pa, ch9, zk, zl, zh, zp, zq, go, hn, hc, hk, hRB, hG, hP, hD, hS, hl⟩ := HI
  rcases hG with ⟨rfl, rfl, rfl, rfl, rfl, rfl⟩ | ⟨ag, v, rfl, hg1, hg2, rfl, rfl, rfl, rfl, rfl⟩
  · exact op_kind_n CX ht4 K _ _ _ _ _ _ _ _ _ _ _ _ _ _ hn hc hk hRB hP hD hS hl
  · exact op_kind_g CX ht4 K _ _ _ _ _ _ _ _ _ _ _ _ _ _ ag v hn hc hk hRB hP hD hS hl hg1 hg2
set_option maxHeartbeats 4000000 in
set_option maxRecDepth 100000 in
theorem cs_7 {p : Program} {e : Env} {s : State} {m : MethodId} {below : List Frame} {meth : Method} {cd : Code} {l : Launch} {b L : Nat} {xs : Nat → Int32} {dC : Nat → ClassId} {dI : Nat → Nat → Nat} {tk tw : Nat} {sa : Nat → Nat} {cB cJ cI cK cO : ClassId} {h a b0 h1 a1 b1 o : Nat} (CX : LC l p s m meth cd b L xs dC dI tk tw sa cB cJ cI cK cO) {t : Nat} {H : Heap} {locs : List Loc} {ls : Array Slot} (ht4 : 4 * t + 4 ≤ L) (K : ∀ (H : Heap) (locs : List Loc) (ls : Array Slot), LI s b dC dI h a b0 cB cJ h1 a1 b1 cI cK o cO t H locs ls → W p l e room_1 s m #[Value.ref b] below meth cd H locs (7 + t + 1) (8416 + 6 * (t + 1)) (lw_Z below #[Value.ref b] s) (F0 m 644 ls [])) (HI : LI s b dC dI h a b0 cB cJ h1 a1 b1 cI cK o cO t H locs ls) : W p l e room_1 s m #[Value.ref b] below meth cd H locs (7 + t) (8416 + 6 * t) (lw_Z below #[Value.ref b] s) (F0 m 419 ls []) := by
  have hL2 : L ≤ 2048 := CX.2.2.1
  obtain ⟨n, c, k, f, fb, g, zg, zt, so, nu, ty, hh, pa, ch9, zk, zl, zh, zp, zq, go, hn, hc, hk, hRB, hG, hP, hD, hS, hl⟩ := HI
  rcases hG with ⟨rfl, rfl, rfl, rfl, rfl, rfl⟩ | ⟨ag, v, rfl, hg1, hg2, rfl, rfl, rfl, rfl, rfl⟩
  · exact op_valueLow_n CX ht4 K _ _ _ _ _ _ _ _ _ _ _ _ _ _ hn hc hk hRB hP hD hS hl
  · exact op_valueLow_g CX ht4 K _ _ _ _ _ _ _ _ _ _ _ _ _ _ ag v hn hc hk hRB hP hD hS hl hg1 hg2
set_option maxHeartbeats 4000000 in
set_option maxRecDepth 100000 in
theorem cs_8 {p : Program} {e : Env} {s : State} {m : MethodId} {below : List Frame} {meth : Method} {cd : Code} {l : Launch} {b L : Nat} {xs : Nat → Int32} {dC : Nat → ClassId} {dI : Nat → Nat → Nat} {tk tw : Nat} {sa : Nat → Nat} {cB cJ cI cK cO : ClassId} {h a b0 h1 a1 b1 o : Nat} (CX : LC l p s m meth cd b L xs dC dI tk tw sa cB cJ cI cK cO) {t : Nat} {H : Heap} {locs : List Loc} {ls : Array Slot} (ht4 : 4 * t + 4 ≤ L) (K : ∀ (H : Heap) (locs : List Loc) (ls : Array Slot), LI s b dC dI h a b0 cB cJ h1 a1 b1 cI cK o cO t H locs ls → W p l e room_1 s m #[Value.ref b] below meth cd H locs (7 + t + 1) (8416 + 6 * (t + 1)) (lw_Z below #[Value.ref b] s) (F0 m 644 ls [])) (HI : LI s b dC dI h a b0 cB cJ h1 a1 b1 cI cK o cO t H locs ls) : W p l e room_1 s m #[Value.ref b] below meth cd H locs (7 + t) (8416 + 6 * t) (lw_Z below #[Value.ref b] s) (F0 m 432 ls []) := by
  have hL2 : L ≤ 2048 := CX.2.2.1
  obtain ⟨n, c, k, f, fb, g, zg, zt, so, nu, ty, hh, pa, ch9, zk, zl, zh, zp, zq, go, hn, hc, hk, hRB, hG, hP, hD, hS, hl⟩ := HI
  rcases hG with ⟨rfl, rfl, rfl, rfl, rfl, rfl⟩ | ⟨ag, v, rfl, hg1, hg2, rfl, rfl, rfl, rfl, rfl⟩
  · exact op_valueHigh_n CX ht4 K _ _ _ _ _ _ _ _ _ _ _ _ _ _ hn hc hk hRB hP hD hS hl
  · exact op_valueHigh_g CX ht4 K _ _ _ _ _ _ _ _ _ _ _ _ _ _ ag v hn hc hk hRB hP hD hS hl hg1 hg2
set_option maxHeartbeats 4000000 in
set_option maxRecDepth 100000 in
theorem cs_9 {p : Program} {e : Env} {s : State} {m : MethodId} {below : List Frame} {meth : Method} {cd : Code} {l : Launch} {b L : Nat} {xs : Nat → Int32} {dC : Nat → ClassId} {dI : Nat → Nat → Nat} {tk tw : Nat} {sa : Nat → Nat} {cB cJ cI cK cO : ClassId} {h a b0 h1 a1 b1 o : Nat} (CX : LC l p s m meth cd b L xs dC dI tk tw sa cB cJ cI cK cO) {t : Nat} {H : Heap} {locs : List Loc} {ls : Array Slot} (ht4 : 4 * t + 4 ≤ L) (K : ∀ (H : Heap) (locs : List Loc) (ls : Array Slot), LI s b dC dI h a b0 cB cJ h1 a1 b1 cI cK o cO t H locs ls → W p l e room_1 s m #[Value.ref b] below meth cd H locs (7 + t + 1) (8416 + 6 * (t + 1)) (lw_Z below #[Value.ref b] s) (F0 m 644 ls [])) (HI : LI s b dC dI h a b0 cB cJ h1 a1 b1 cI cK o cO t H locs ls) : W p l e room_1 s m #[Value.ref b] below meth cd H locs (7 + t) (8416 + 6 * t) (lw_Z below #[Value.ref b] s) (F0 m 445 ls []) := by
  have hL2 : L ≤ 2048 := CX.2.2.1
  obtain ⟨n, c, k, f, fb, g, zg, zt, so, nu, ty, hh, pa, ch9, zk, zl, zh, zp, zq, go, hn, hc, hk, hRB, hG, hP, hD, hS, hl⟩ := HI
  rcases hG with ⟨rfl, rfl, rfl, rfl, rfl, rfl⟩ | ⟨ag, v, rfl, hg1, hg2, rfl, rfl, rfl, rfl, rfl⟩
  · exact op_payload_n CX ht4 K _ _ _ _ _ _ _ _ _ _ _ _ _ _ hn hc hk hRB hP hD hS hl
  · exact op_payload_g CX ht4 K _ _ _ _ _ _ _ _ _ _ _ _ _ _ ag v hn hc hk hRB hP hD hS hl hg1 hg2
set_option maxHeartbeats 4000000 in
set_option maxRecDepth 100000 in
theorem cs_10 {p : Program} {e : Env} {s : State} {m : MethodId} {below : List Frame} {meth : Method} {cd : Code} {l : Launch} {b L : Nat} {xs : Nat → Int32} {dC : Nat → ClassId} {dI : Nat → Nat → Nat} {tk tw : Nat} {sa : Nat → Nat} {cB cJ cI cK cO : ClassId} {h a b0 h1 a1 b1 o : Nat} (CX : LC l p s m meth cd b L xs dC dI tk tw sa cB cJ cI cK cO) {t : Nat} {H : Heap} {locs : List Loc} {ls : Array Slot} (ht4 : 4 * t + 4 ≤ L) (K : ∀ (H : Heap) (locs : List Loc) (ls : Array Slot), LI s b dC dI h a b0 cB cJ h1 a1 b1 cI cK o cO t H locs ls → W p l e room_1 s m #[Value.ref b] below meth cd H locs (7 + t + 1) (8416 + 6 * (t + 1)) (lw_Z below #[Value.ref b] s) (F0 m 644 ls [])) (HI : LI s b dC dI h a b0 cB cJ h1 a1 b1 cI cK o cO t H locs ls) : W p l e room_1 s m #[Value.ref b] below meth cd H locs (7 + t) (8416 + 6 * t) (lw_Z below #[Value.ref b] s) (F0 m 470 ls []) := by
  have hL2 : L ≤ 2048 := CX.2.2.1
  obtain ⟨n, c, k, f, fb, g, zg, zt, so, nu, ty, hh, pa, ch9, zk, zl, zh, zp, zq, go, hn, hc, hk, hRB, hG, hP, hD, hS, hl⟩ := HI
  exact op_level CX ht4 K _ _ _ _ _ _ _ _ _ _ _ _ _ _ _ _ _ _ _ _ hn hc hk hRB hG hP hD hS hl
set_option maxHeartbeats 4000000 in
set_option maxRecDepth 100000 in
theorem cs_11 {p : Program} {e : Env} {s : State} {m : MethodId} {below : List Frame} {meth : Method} {cd : Code} {l : Launch} {b L : Nat} {xs : Nat → Int32} {dC : Nat → ClassId} {dI : Nat → Nat → Nat} {tk tw : Nat} {sa : Nat → Nat} {cB cJ cI cK cO : ClassId} {h a b0 h1 a1 b1 o : Nat} (CX : LC l p s m meth cd b L xs dC dI tk tw sa cB cJ cI cK cO) {t : Nat} {H : Heap} {locs : List Loc} {ls : Array Slot} (ht4 : 4 * t + 4 ≤ L) (K : ∀ (H : Heap) (locs : List Loc) (ls : Array Slot), LI s b dC dI h a b0 cB cJ h1 a1 b1 cI cK o cO t H locs ls → W p l e room_1 s m #[Value.ref b] below meth cd H locs (7 + t + 1) (8416 + 6 * (t + 1)) (lw_Z below #[Value.ref b] s) (F0 m 644 ls [])) (HI : LI s b dC dI h a b0 cB cJ h1 a1 b1 cI cK o cO t H locs ls) : W p l e room_1 s m #[Value.ref b] below meth cd H locs (7 + t) (8416 + 6 * t) (lw_Z below #[Value.ref b] s) (F0 m 483 ls []) := by
  have hL2 : L ≤ 2048 := CX.2.2.1
  obtain ⟨n, c, k, f, fb, g, zg, zt, so, nu, ty, hh, pa, ch9, zk, zl, zh, zp, zq, go, hn, hc, hk, hRB, hG, hP, hD, hS, hl⟩ := HI
  by_cases z : xs (4 * t + 1) < 0
  · exact op_remaining_b CX ht4 K _ _ _ _ _ _ _ _ _ _ _ _ _ _ _ _ _ _ _ _ hn hc hk hRB hG hP hD hS hl z
  · exact op_remaining_g CX ht4 K _ _ _ _ _ _ _ _ _ _ _ _ _ _ _ _ _ _ _ _ hn hc hk hRB hG hP hD hS hl z
set_option maxHeartbeats 4000000 in
set_option maxRecDepth 100000 in
theorem cs_12 {p : Program} {e : Env} {s : State} {m : MethodId} {below : List Frame} {meth : Method} {cd : Code} {l : Launch} {b L : Nat} {xs : Nat → Int32} {dC : Nat → ClassId} {dI : Nat → Nat → Nat} {tk tw : Nat} {sa : Nat → Nat} {cB cJ cI cK cO : ClassId} {h a b0 h1 a1 b1 o : Nat} (CX : LC l p s m meth cd b L xs dC dI tk tw sa cB cJ cI cK cO) {t : Nat} {H : Heap} {locs : List Loc} {ls : Array Slot} (ht4 : 4 * t + 4 ≤ L) (K : ∀ (H : Heap) (locs : List Loc) (ls : Array Slot), LI s b dC dI h a b0 cB cJ h1 a1 b1 cI cK o cO t H locs ls → W p l e room_1 s m #[Value.ref b] below meth cd H locs (7 + t + 1) (8416 + 6 * (t + 1)) (lw_Z below #[Value.ref b] s) (F0 m 644 ls [])) (HI : LI s b dC dI h a b0 cB cJ h1 a1 b1 cI cK o cO t H locs ls) : W p l e room_1 s m #[Value.ref b] below meth cd H locs (7 + t) (8416 + 6 * t) (lw_Z below #[Value.ref b] s) (F0 m 538 ls []) := by
  have hL2 : L ≤ 2048 := CX.2.2.1
  obtain ⟨n, c, k, f, fb, g, zg, zt, so, nu, ty, hh, pa, ch9, zk, zl, zh, zp, zq, go, hn, hc, hk, hRB, hG, hP, hD, hS, hl⟩ := HI
  exact op_consumed CX ht4 K _ _ _ _ _ _ _ _ _ _ _ _ _ _ _ _ _ _ _ _ hn hc hk hRB hG hP hD hS hl
set_option maxHeartbeats 4000000 in
set_option maxRecDepth 100000 in
theorem cs_13 {p : Program} {e : Env} {s : State} {m : MethodId} {below : List Frame} {meth : Method} {cd : Code} {l : Launch} {b L : Nat} {xs : Nat → Int32} {dC : Nat → ClassId} {dI : Nat → Nat → Nat} {tk tw : Nat} {sa : Nat → Nat} {cB cJ cI cK cO : ClassId} {h a b0 h1 a1 b1 o : Nat} (CX : LC l p s m meth cd b L xs dC dI tk tw sa cB cJ cI cK cO) {t : Nat} {H : Heap} {locs : List Loc} {ls : Array Slot} (ht4 : 4 * t + 4 ≤ L) (K : ∀ (H : Heap) (locs : List Loc) (ls : Array Slot), LI s b dC dI h a b0 cB cJ h1 a1 b1 cI cK o cO t H locs ls → W p l e room_1 s m #[Value.ref b] below meth cd H locs (7 + t + 1) (8416 + 6 * (t + 1)) (lw_Z below #[Value.ref b] s) (F0 m 644 ls [])) (HI : LI s b dC dI h a b0 cB cJ h1 a1 b1 cI cK o cO t H locs ls) : W p l e room_1 s m #[Value.ref b] below meth cd H locs (7 + t) (8416 + 6 * t) (lw_Z below #[Value.ref b] s) (F0 m 551 ls []) := by
  have hL2 : L ≤ 2048 := CX.2.2.1
  obtain ⟨n, c, k, f, fb, g, zg, zt, so, nu, ty, hh, pa, ch9, zk, zl, zh, zp, zq, go, hn, hc, hk, hRB, hG, hP, hD, hS, hl⟩ := HI
  exact op_whole CX ht4 K _ _ _ _ _ _ _ _ _ _ _ _ _ _ _ _ _ _ _ _ hn hc hk hRB hG hP hD hS hl
set_option maxHeartbeats 4000000 in
set_option maxRecDepth 100000 in
theorem cs_14 {p : Program} {e : Env} {s : State} {m : MethodId} {below : List Frame} {meth : Method} {cd : Code} {l : Launch} {b L : Nat} {xs : Nat → Int32} {dC : Nat → ClassId} {dI : Nat → Nat → Nat} {tk tw : Nat} {sa : Nat → Nat} {cB cJ cI cK cO : ClassId} {h a b0 h1 a1 b1 o : Nat} (CX : LC l p s m meth cd b L xs dC dI tk tw sa cB cJ cI cK cO) {t : Nat} {H : Heap} {locs : List Loc} {ls : Array Slot} (ht4 : 4 * t + 4 ≤ L) (K : ∀ (H : Heap) (locs : List Loc) (ls : Array Slot), LI s b dC dI h a b0 cB cJ h1 a1 b1 cI cK o cO t H locs ls → W p l e room_1 s m #[Value.ref b] below meth cd H locs (7 + t + 1) (8416 + 6 * (t + 1)) (lw_Z below #[Value.ref b] s) (F0 m 644 ls [])) (HI : LI s b dC dI h a b0 cB cJ h1 a1 b1 cI cK o cO t H locs ls) : W p l e room_1 s m #[Value.ref b] below meth cd H locs (7 + t) (8416 + 6 * t) (lw_Z below #[Value.ref b] s) (F0 m 564 ls []) := by
  have hL2 : L ≤ 2048 := CX.2.2.1
  obtain ⟨n, c, k, f, fb, g, zg, zt, so, nu, ty, hh, pa, ch9, zk, zl, zh, zp, zq, go, hn, hc, hk, hRB, hG, hP, hD, hS, hl⟩ := HI
  by_cases hgd : (0 < xs (4 * t + 1) ∧ xs (4 * t + 1) < 13 ∧ (¬ xs (4 * t + 1) < 8 → ¬ xs (4 * t + 2) < 0) ∧ (xs (4 * t + 1) = 12 → ¬ xs (4 * t + 3) < -128 ∧ ¬ 127 < xs (4 * t + 3)))
  · rcases pk_ix (xs (4 * t + 1)) (n := 13) (by decide) with z | z | ⟨j9, hj9, e1⟩
    · exact absurd z (lt_asym hgd.1)
    · exact absurd hgd.2.1 (Int32.not_lt.mpr z)
    · rcases (show j9 = 0 ∨ j9 = 1 ∨ j9 = 2 ∨ j9 = 3 ∨ j9 = 4 ∨ j9 = 5 ∨ j9 = 6 ∨ j9 = 7 ∨ j9 = 8 ∨ j9 = 9 ∨ j9 = 10 ∨ j9 = 11 ∨ j9 = 12 by omega) with rfl | rfl | rfl | rfl | rfl | rfl | rfl | rfl | rfl | rfl | rfl | rfl | rfl
      · exact absurd hgd.1 (by rw [e1]; decide)
      · rcases Nat.lt_or_ge 4096 (n + phL (pk1 (xs (4 * t + 2)) (xs (4 * t + 3)))) with z | z
        · exact op_pack_f1 CX ht4 K _ _ _ _ _ _ _ _ _ _ _ _ _ _ _ _ _ _ _ _ hn hc hk hRB hG hP hD hS hl e1 z
        · exact op_pack_g1 CX ht4 K _ _ _ _ _ _ _ _ _ _ _ _ _ _ _ _ _ _ _ _ hn hc hk hRB hG hP hD hS hl e1 z
      · rcases Nat.lt_or_ge 4096 (n + phL (pk2 (xs (4 * t + 2)) (xs (4 * t + 3)))) with z | z
        · exact op_pack_f2 CX ht4 K _ _ _ _ _ _ _ _ _ _ _ _ _ _ _ _ _ _ _ _ hn hc hk hRB hG hP hD hS hl e1 z
        · exact op_pack_g2 CX ht4 K _ _ _ _ _ _ _ _ _ _ _ _ _ _ _ _ _ _ _ _ hn hc hk hRB hG hP hD hS hl e1 z
      · rcases Nat.lt_or_ge 4096 (n + phL (pk3 (xs (4 * t + 2)) (xs (4 * t + 3)))) with z | z
        · exact op_pack_f3 CX ht4 K _ _ _ _ _ _ _ _ _ _ _ _ _ _ _ _ _ _ _ _ hn hc hk hRB hG hP hD hS hl e1 z
        · exact op_pack_g3 CX ht4 K _ _ _ _ _ _ _ _ _ _ _ _ _ _ _ _ _ _ _ _ hn hc hk hRB hG hP hD hS hl e1 z
      · rcases Nat.lt_or_ge 4096 (n + phL (pk4 (xs (4 * t + 2)) (xs (4 * t + 3)))) with z | z
        · exact op_pack_f4 CX ht4 K _ _ _ _ _ _ _ _ _ _ _ _ _ _ _ _ _ _ _ _ hn hc hk hRB hG hP hD hS hl e1 z
        · exact op_pack_g4 CX ht4 K _ _ _ _ _ _ _ _ _ _ _ _ _ _ _ _ _ _ _ _ hn hc hk hRB hG hP hD hS hl e1 z
      · rcases Nat.lt_or_ge 4096 (n + phL (pk5 (xs (4 * t + 2)) (xs (4 * t + 3)))) with z | z
        · exact op_pack_f5 CX ht4 K _ _ _ _ _ _ _ _ _ _ _ _ _ _ _ _ _ _ _ _ hn hc hk hRB hG hP hD hS hl e1 z
        · exact op_pack_g5 CX ht4 K _ _ _ _ _ _ _ _ _ _ _ _ _ _ _ _ _ _ _ _ hn hc hk hRB hG hP hD hS hl e1 z
      · rcases Nat.lt_or_ge 4096 (n + phL (pk6 (xs (4 * t + 2)) (xs (4 * t + 3)))) with z | z
        · exact op_pack_f6 CX ht4 K _ _ _ _ _ _ _ _ _ _ _ _ _ _ _ _ _ _ _ _ hn hc hk hRB hG hP hD hS hl e1 z
        · exact op_pack_g6 CX ht4 K _ _ _ _ _ _ _ _ _ _ _ _ _ _ _ _ _ _ _ _ hn hc hk hRB hG hP hD hS hl e1 z
      · rcases Nat.lt_or_ge 4096 (n + phL (pk7 (xs (4 * t + 2)) (xs (4 * t + 3)))) with z | z
        · exact op_pack_f7 CX ht4 K _ _ _ _ _ _ _ _ _ _ _ _ _ _ _ _ _ _ _ _ hn hc hk hRB hG hP hD hS hl e1 z
        · exact op_pack_g7 CX ht4 K _ _ _ _ _ _ _ _ _ _ _ _ _ _ _ _ _ _ _ _ hn hc hk hRB hG hP hD hS hl e1 z
      · rcases Nat.lt_or_ge 4096 (n + phL (pk8 (xs (4 * t + 2)) (xs (4 * t + 3)))) with z | z
        · exact op_pack_f8 CX ht4 K _ _ _ _ _ _ _ _ _ _ _ _ _ _ _ _ _ _ _ _ hn hc hk hRB hG hP hD hS hl e1 (hgd.2.2.1 (by rw [e1]; decide)) z
        · exact op_pack_g8 CX ht4 K _ _ _ _ _ _ _ _ _ _ _ _ _ _ _ _ _ _ _ _ hn hc hk hRB hG hP hD hS hl e1 (hgd.2.2.1 (by rw [e1]; decide)) z
      · rcases Nat.lt_or_ge 4096 (n + phL (pk9 (xs (4 * t + 2)) (xs (4 * t + 3)))) with z | z
        · exact op_pack_f9 CX ht4 K _ _ _ _ _ _ _ _ _ _ _ _ _ _ _ _ _ _ _ _ hn hc hk hRB hG hP hD hS hl e1 (hgd.2.2.1 (by rw [e1]; decide)) z
        · exact op_pack_g9 CX ht4 K _ _ _ _ _ _ _ _ _ _ _ _ _ _ _ _ _ _ _ _ hn hc hk hRB hG hP hD hS hl e1 (hgd.2.2.1 (by rw [e1]; decide)) z
      · rcases Nat.lt_or_ge 4096 (n + phL (pk10 (xs (4 * t + 2)) (xs (4 * t + 3)))) with z | z
        · exact op_pack_f10 CX ht4 K _ _ _ _ _ _ _ _ _ _ _ _ _ _ _ _ _ _ _ _ hn hc hk hRB hG hP hD hS hl e1 (hgd.2.2.1 (by rw [e1]; decide)) z
        · exact op_pack_g10 CX ht4 K _ _ _ _ _ _ _ _ _ _ _ _ _ _ _ _ _ _ _ _ hn hc hk hRB hG hP hD hS hl e1 (hgd.2.2.1 (by rw [e1]; decide)) z
      · rcases Nat.lt_or_ge 4096 (n + phL (pk11 (xs (4 * t + 2)) (xs (4 * t + 3)))) with z | z
        · exact op_pack_f11 CX ht4 K _ _ _ _ _ _ _ _ _ _ _ _ _ _ _ _ _ _ _ _ hn hc hk hRB hG hP hD hS hl e1 (hgd.2.2.1 (by rw [e1]; decide)) z
        · exact op_pack_g11 CX ht4 K _ _ _ _ _ _ _ _ _ _ _ _ _ _ _ _ _ _ _ _ hn hc hk hRB hG hP hD hS hl e1 (hgd.2.2.1 (by rw [e1]; decide)) z
      · rcases Nat.lt_or_ge 4096 (n + phL (pk12 (xs (4 * t + 2)) (xs (4 * t + 3)))) with z | z
        · exact op_pack_f12 CX ht4 K _ _ _ _ _ _ _ _ _ _ _ _ _ _ _ _ _ _ _ _ hn hc hk hRB hG hP hD hS hl e1 (hgd.2.2.1 (by rw [e1]; decide)) (hgd.2.2.2 (by rw [e1]; rfl)).1 (hgd.2.2.2 (by rw [e1]; rfl)).2 z
        · exact op_pack_g12 CX ht4 K _ _ _ _ _ _ _ _ _ _ _ _ _ _ _ _ _ _ _ _ hn hc hk hRB hG hP hD hS hl e1 (hgd.2.2.1 (by rw [e1]; decide)) (hgd.2.2.2 (by rw [e1]; rfl)).1 (hgd.2.2.2 (by rw [e1]; rfl)).2 z
  · exact op_pack_b CX ht4 K _ _ _ _ _ _ _ _ _ _ _ _ _ _ _ _ _ _ _ _ hn hc hk hRB hG hP hD hS hl hgd
set_option maxHeartbeats 4000000 in
set_option maxRecDepth 100000 in
theorem law_loop {p : Program} {e : Env} {s : State} {m : MethodId} {below : List Frame} {meth : Method} {cd : Code} {l : Launch} {b L : Nat} {xs : Nat → Int32} {dC : Nat → ClassId} {dI : Nat → Nat → Nat} {tk tw : Nat} {sa : Nat → Nat} {cB cJ cI cK cO : ClassId} {h a b0 h1 a1 b1 o : Nat} (CX : LC l p s m meth cd b L xs dC dI tk tw sa cB cJ cI cK cO) : ∀ (q t : Nat), t + q = 514 → t ≤ 512 → ∀ (H : Heap) (locs : List Loc) (ls : Array Slot), LI s b dC dI h a b0 cB cJ h1 a1 b1 cI cK o cO t H locs ls → W p l e room_1 s m #[Value.ref b] below meth cd H locs (7 + t) (8416 + 6 * t) (lw_Z below #[Value.ref b] s) (F0 m 23 ls []) := by
  intro q
  induction q with
  | zero => intro t h1 h2; omega
  | succ q ih =>
    intro t hq ht H locs ls HI
    obtain ⟨⟨hx, hb, hr, hml, hown, hts, hXs, hbl, hlocks⟩, hst, hL, hK, hZ, hX⟩ := id CX
    have hA : ∀ q : Nat, s.heap.size ≤ q → (fun q : Nat => s.heap.size ≤ q) q := fun _ h => h
    have hbA : ¬ (fun q : Nat => s.heap.size ≤ q) b := Nat.not_le.mpr hbl
    have HI0 := HI
    obtain ⟨n, c, k, f, fb, g, zg, zt, so, nu, ty, hh, pa, ch9, zk, zl, zh, zp, zq, go, hn, hc, hk, hRB, hG, hP, hD, hS, hl⟩ := HI
    refine lv_iload hx hb dL_law_23 (lv_at hl 4 rfl) ?_
    refine lv_aload_n hx hb dL_law_25 rfl (lv_at hl 0 rfl) ?_
    refine va_slen hx hb hXs hbl hbA hS dL_law_26 ?_
    refine lv_iconst (v := 4) hx hb dL_law_27 (by decide) ?_
    refine lv_isub hx hb dL_law_28 ?_
    refine lv_icmp_gt (tgt := 650) hx hb dL_law_29 (by decide) (fun c_1 => ?_) (fun c_1 => ?_)
    · refine lv_iconst (v := 1) hx hb dL_law_650 (by decide) ?_
      refine va_forget (fun q hq => hS.2.2 q hq) ?_
      refine W.widen (k := 1042) (n := 16674) (by omega) (by omega) ?_
      exact lw_ret hx hb hr hlocks dL_law_651
    · have ht4 := more_of hL (by omega) c_1
      have K : ∀ (H : Heap) (locs : List Loc) (ls : Array Slot), LI s b dC dI h a b0 cB cJ h1 a1 b1 cI cK o cO t H locs ls → W p l e room_1 s m #[Value.ref b] below meth cd H locs (7 + t + 1) (8416 + 6 * (t + 1)) (lw_Z below #[Value.ref b] s) (F0 m 644 ls []) := by
        intro H locs ls HI
        obtain ⟨n, c, k, f, fb, g, zg, zt, so, nu, ty, hh, pa, ch9, zk, zl, zh, zp, zq, go, hn, hc, hk, hRB, hG, hP, hD, hS, hl⟩ := HI
        refine lv_iinc (v := nI (4 * (t + 1))) (lv' := [(4, .int (nI (4 * (t + 1)))), (0, .ref b), (1, .ref h), (2, .ref h1), (3, .ref o)]) hx hb dL_law_644 hl (k := 4) rfl (show nI (4 * t) + nI 4 = nI (4 * t + 4) from nI_add _ _) (by decide) rfl (fun ls hl => ?_)
        refine lv_goto (tgt := 23) hx hb dL_law_647 (by decide) ?_
        exact ih (t + 1) (by omega) (by omega) _ _ _ ⟨n, c, k, f, fb, g, zg, zt, so, nu, ty, hh, pa, ch9, zk, zl, zh, zp, zq, go, hn, hc, hk, hRB, hG, hP, hD, hS, lv_sub hl [1, 2, 3, 4, 0] rfl⟩
      refine lv_aload_n hx hb dL_law_32 rfl (lv_at hl 0 rfl) ?_
      refine lv_iload hx hb dL_law_33 (lv_at hl 4 rfl) ?_
      refine va_sld hx hb hXs hbl hbA hS (vp_in_nI (by omega) (by omega)) dL_law_35 ?_
      refine lv_bipush (v := 15) hx hb dL_law_36 (by decide) ?_
      refine lv_iand hx hb dL_law_38 ?_
      obtain ⟨j, hj, ej⟩ := pk_andE (xs (nI (4 * t)).toNatClampNeg) (m := 15) 4 (by decide)
      rw [ej]
      rcases (show j = 0 ∨ j = 1 ∨ j = 2 ∨ j = 3 ∨ j = 4 ∨ j = 5 ∨ j = 6 ∨ j = 7 ∨ j = 8 ∨ j = 9 ∨ j = 10 ∨ j = 11 ∨ j = 12 ∨ j = 13 ∨ j = 14 ∨ j = 15 by omega) with rfl | rfl | rfl | rfl | rfl | rfl | rfl | rfl | rfl | rfl | rfl | rfl | rfl | rfl | rfl | rfl
      · refine lv_tableIn (tgt := 112) hx hb dL_law_39 (by decide) (by decide) rfl (by decide) ?_
        exact cs_0 CX ht4 K HI0
      · refine lv_tableIn (tgt := 168) hx hb dL_law_39 (by decide) (by decide) rfl (by decide) ?_
        exact cs_1 CX ht4 K HI0
      · refine lv_tableIn (tgt := 268) hx hb dL_law_39 (by decide) (by decide) rfl (by decide) ?_
        exact cs_2 CX ht4 K HI0
      · refine lv_tableIn (tgt := 324) hx hb dL_law_39 (by decide) (by decide) rfl (by decide) ?_
        exact cs_3 CX ht4 K HI0
      · refine lv_tableIn (tgt := 380) hx hb dL_law_39 (by decide) (by decide) rfl (by decide) ?_
        exact cs_4 CX ht4 K HI0
      · refine lv_tableIn (tgt := 393) hx hb dL_law_39 (by decide) (by decide) rfl (by decide) ?_
        exact cs_5 CX ht4 K HI0
      · refine lv_tableIn (tgt := 406) hx hb dL_law_39 (by decide) (by decide) rfl (by decide) ?_
        exact cs_6 CX ht4 K HI0
      · refine lv_tableIn (tgt := 419) hx hb dL_law_39 (by decide) (by decide) rfl (by decide) ?_
        exact cs_7 CX ht4 K HI0
      · refine lv_tableIn (tgt := 432) hx hb dL_law_39 (by decide) (by decide) rfl (by decide) ?_
        exact cs_8 CX ht4 K HI0
      · refine lv_tableIn (tgt := 445) hx hb dL_law_39 (by decide) (by decide) rfl (by decide) ?_
        exact cs_9 CX ht4 K HI0
      · refine lv_tableIn (tgt := 470) hx hb dL_law_39 (by decide) (by decide) rfl (by decide) ?_
        exact cs_10 CX ht4 K HI0
      · refine lv_tableIn (tgt := 483) hx hb dL_law_39 (by decide) (by decide) rfl (by decide) ?_
        exact cs_11 CX ht4 K HI0
      · refine lv_tableIn (tgt := 538) hx hb dL_law_39 (by decide) (by decide) rfl (by decide) ?_
        exact cs_12 CX ht4 K HI0
      · refine lv_tableIn (tgt := 551) hx hb dL_law_39 (by decide) (by decide) rfl (by decide) ?_
        exact cs_13 CX ht4 K HI0
      · refine lv_tableIn (tgt := 564) hx hb dL_law_39 (by decide) (by decide) rfl (by decide) ?_
        exact cs_14 CX ht4 K HI0
      · refine lv_tableOut (tgt := 644) hx hb dL_law_39 (by decide) (by decide) ?_
        refine W.widen (k := 7 + t + 1) (n := 8416 + 6 * (t + 1)) (by omega) (by omega) ?_
        exact K _ _ _ HI0
