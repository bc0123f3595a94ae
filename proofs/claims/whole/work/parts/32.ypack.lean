def bo (lo hi : Int32) : Int64 := (hi.toInt64 <<< ((32 : Int32).toInt64 &&& 63)) ||| (lo.toInt64 &&& 4294967295)
abbrev pkY : Type := Int32 × Nat × Int64 × Int32
def phL (T : pkY) : Nat := 1 + T.2.1 + (if T.2.2.2 = -1 then 0 else 1)
def phF (f : Nat → Int32) (n : Nat) (T : pkY) : Nat → Int32 := if T.2.2.2 = -1 then apM (upd f n T.1) (n + 1) T.2.2.1 T.2.1 else apM (apM (upd f n T.1) (n + 1) T.2.2.1 T.2.1) (n + 1 + T.2.1) T.2.2.2.toInt64 1
theorem phL_n {a : Int32} {w : Nat} {v : Int64} : phL (a, w, v, -1) = 1 + w := rfl
theorem phL_m {a : Int32} {w : Nat} {v : Int64} {m : Int32} (h : ¬ m = -1) : phL (a, w, v, m) = 1 + w + 1 := by
  show 1 + w + (if m = -1 then 0 else 1) = _
  rw [if_neg h]
theorem phF_n {f : Nat → Int32} {n : Nat} {a : Int32} {w : Nat} {v : Int64} : phF f n (a, w, v, -1) = apM (upd f n a) (n + 1) v w := rfl
theorem phF_m {f : Nat → Int32} {n : Nat} {a : Int32} {w : Nat} {v : Int64} {m : Int32} (h : ¬ m = -1) : phF f n (a, w, v, m) = apM (apM (upd f n a) (n + 1) v w) (n + 1 + w) m.toInt64 1 := if_neg h
theorem and255 (x : Int32) : (-1 : Int32) < x &&& 255 ∧ ¬ (x &&& 255 : Int32) = -1 := by
  have e : x &&& 255 = nI (x.toBitVec.toNat % 2 ^ 8) := pk_and x 8 (by decide)
  have h : x.toBitVec.toNat % 2 ^ 8 < 256 := Nat.mod_lt _ (by decide)
  have h2 : (-1 : Int32) < nI (x.toBitVec.toNat % 2 ^ 8) := by
    rw [Int32.lt_iff_toInt_lt, nI_toInt (by omega)]
    have : (-1 : Int32).toInt = -1 := by decide
    omega
  rw [e]
  exact ⟨h2, fun z => by rw [z] at h2; exact absurd h2 (by decide)⟩
def pk1 (_ _ : Int32) : pkY := (192, 0, 0, -1)
def pk2 (_ _ : Int32) : pkY := (192 + 2, 0, 0, -1)
def pk3 (_ _ : Int32) : pkY := (192 + 3, 0, 0, -1)
def pk4 (lo hi : Int32) : pkY := if ((bo lo hi).toUInt64 >>> ((7 : Int32).toInt64.toUInt64 &&& Int64.toUInt64 63)).toInt64 = (0 : Int64) then (lo, 0, 0, -1) else (204 + nI (lgN (ndN (bo lo hi))), ndN (bo lo hi), bo lo hi, -1)
def pk5 (lo hi : Int32) : pkY := if bo lo hi < -32 then (208 + nI (lgN (nsN (bo lo hi))), nsN (bo lo hi), bo lo hi, -1) else if 0 ≤ bo lo hi then (208 + nI (lgN (nsN (bo lo hi))), nsN (bo lo hi), bo lo hi, -1) else ((bo lo hi).toInt32 + 256, 0, 0, -1)
def pk6 (lo _ : Int32) : pkY := (202, 4, lo.toInt64, -1)
def pk7 (lo hi : Int32) : pkY := (203, 8, bo lo hi, -1)
def pk8 (lo _ : Int32) : pkY := if 32 ≤ lo then (217 + nI (lgN (ndN lo.toInt64)), ndN lo.toInt64, lo.toInt64, -1) else (160 + lo, 0, 0, -1)
def pk9 (lo _ : Int32) : pkY := (196 + nI (lgN (ndN lo.toInt64)), ndN lo.toInt64, lo.toInt64, -1)
def pk10 (lo _ : Int32) : pkY := if 16 ≤ lo then (if 65536 ≤ lo then (220 + 1, 4, lo.toInt64, -1) else (220, 2, lo.toInt64, -1)) else (144 + lo, 0, 0, -1)
def pk11 (lo _ : Int32) : pkY := if 16 ≤ lo then (if 65536 ≤ lo then (222 + 1, 4, lo.toInt64, -1) else (222, 2, lo.toInt64, -1)) else (128 + lo, 0, 0, -1)
def pk12 (lo hi : Int32) : pkY := if lo = 1 then (212 + nI (lgN 1), 0, 0, hi &&& 255) else if lo = 2 then (212 + nI (lgN 2), 0, 0, hi &&& 255) else if lo = 4 then (212 + nI (lgN 4), 0, 0, hi &&& 255) else if lo = 8 then (212 + nI (lgN 8), 0, 0, hi &&& 255) else if lo = 16 then (212 + 4, 0, 0, hi &&& 255) else (199 + nI (lgN (ndN lo.toInt64)), ndN lo.toInt64, lo.toInt64, hi &&& 255)
set_option maxHeartbeats 4000000 in
set_option maxRecDepth 100000 in
theorem c_X1_pack_1 (l : Launch) (dC : Nat → ClassId) (dI : Nat → Nat → Nat) (tk tw : Nat) (h a b : Nat) (cI cJ : ClassId) (sz : Nat) (f : Nat → Int32) (g : Nat → Int64) (zt : Int32) (zc : Int32) (zso : Int32) (znu : Int64) (zty : Int32) (zhd : Int32) (zpa : Int64) (zch : Int64) (zlk : Int32) (zlo : Int32) (zhi : Int32) (zlp : Int32) (zll : Int32) (zlv : Int32) (n8 : Nat) (lo hi : Int32) (hr8 : n8 + phL (pk1 lo hi) ≤ 4096) : Met l yX1_pack wsX1_pack ({ frames := 2, cells := 0, slots := 0, locals := 49 }) (va_Pc [.ref h, .int 1, .int lo, .int hi] (pr dC dI (t1 cI cJ) (w1 h a b cI cJ f g zt (nI n8) zc zso znu zty zhd zpa zch zlk zlo zhi zlp zll zlv) sz tk tw)) (va_Qi (fun (r : Int32) (_ : Unit) => r = nI (phL (pk1 lo hi))) (fun (_ : Unit) => po dC dI (t1 cI cJ) (va_A (w1 h a b cI cJ f g zt (nI n8) zc zso znu zty zhd zpa zch zlk zlo zhi zlp zll zlv) sz) (w1 h a b cI cJ (phF f n8 (pk1 lo hi)) g 0 (nI (n8 + phL (pk1 lo hi))) zc zso znu zty zhd zpa zch zlk zlo zhi zlp zll zlv)) (va_A (w1 h a b cI cJ f g zt (nI n8) zc zso znu zty zhd zpa zch zlk zlo zhi zlp zll zlv) sz)) 0 0 (va_A (w1 h a b cI cJ f g zt (nI n8) zc zso znu zty zhd zpa zch zlk zlo zhi zlp zll zlv) sz) := by
  refine Met.ofW (cc := cX1_pack) (maxL := 11) (ret := (some .int)) (by decide) rfl ?_
  intro p e s m args below meth c s₁ Bd hml hv
  obtain ⟨rfl, hsz, hP, hK, hD0, hZ⟩ := hv
  have hx := Bd.exec
  have hb := Bd.bytes
  have hr := Bd.returns
  have hts := atoms_spec (ws := wsX1_pack) Bd.pre
  have hown : s.vm.findClass RX1 = some m.cls := findClass_of_methodNamed Bd.named
  have hlocks := Bd.notSynchronized
  subst hsz
  have hD := hD0.self (sz := s.heap.size)
  generalize hAe : va_A (w1 h a b cI cJ f g zt (nI n8) zc zso znu zty zhd zpa zch zlk zlo zhi zlp zll zlv) s.heap.size = A at hD hZ ⊢
  have hA : ∀ q : Nat, s.heap.size ≤ q → A q := fun q h => by rw [← hAe]; exact Or.inr h
  have hS : va_S A s.heap s.heap [] := va_S.rf
  have hP : va_P (dC, dI) vwCl (w1 h a b cI cJ f g zt (nI n8) zc zso znu zty zhd zpa zch zlk zlo zhi zlp zll zlv) s.heap := hP
  have hin0 : ∀ w ∈ wsX10, w ∈ wsX1_pack := by decide +kernel
  have fl21 := hts (.fieldLink RX1 21 "MessageReaderModel" "thrown" "I") (by decide +kernel)
  have hl := lv_entry ([.ref h, .int 1, .int lo, .int hi]) (n := 11) (Nat.le_of_ble_eq_true rfl)
  rw [lg_entry_eq]
  generalize (lg_sl ([.ref h, .int 1, .int lo, .int hi]) ++ List.replicate (11 - (lg_sl ([.ref h, .int 1, .int lo, .int hi])).length) Slot.unset).toArray = ls at hl ⊢
  have hl : lv_has ls 11 [(0, .ref h), (1, .int 1), (2, .int lo), (3, .int hi)] := hl
  refine lv_aload_n hx hb dX1_pack_0 rfl (lv_at hl 0 rfl) ?_
  refine lv_iconst (v := 0) hx hb dX1_pack_1 (by decide) ?_
  refine va_put (D := (dC, dI)) (ci := 1) (v := .int 0) (ty := .int) (C := RX1) (T := TX1) (N := 17) hx hb hts hin0 tyX1 tyX1_ok nmX1 hown hK hP hD hS 0 rfl rfl 0 (by decide) fl21 (fun _ h9 => h9) rfl (by decide +kernel) rfl rfl (Nat.le_of_ble_eq_true rfl) dX1_pack_2 (fun H locs hP hD hS => ?_)
  have hP : va_P (dC, dI) vwCl (w1 h a b cI cJ f g 0 (nI n8) zc zso znu zty zhd zpa zch zlk zlo zhi zlp zll zlv) H := hP
  have hD : va_D A (w1 h a b cI cJ f g 0 (nI n8) zc zso znu zty zhd zpa zch zlk zlo zhi zlp zll zlv) := hD
  refine lv_iload_n hx hb dX1_pack_5 rfl (lv_at hl 1 rfl) ?_
  refine lv_if_le (tgt := 47) hx hb dX1_pack_6 (by decide) (fun c_1 => ?_) (fun c_1 => ?_)
  · skip
    exact absurd c_1 (by decide)
  · skip
    refine lv_iload_n hx hb dX1_pack_9 rfl (lv_at hl 1 rfl) ?_
    refine lv_bipush (v := 13) hx hb dX1_pack_10 (by decide) ?_
    refine lv_icmp_ge (tgt := 47) hx hb dX1_pack_12 (by decide) (fun c_2 => ?_) (fun c_2 => ?_)
    · skip
      exact absurd c_2 (by decide)
    · skip
      refine lv_iload_n hx hb dX1_pack_15 rfl (lv_at hl 1 rfl) ?_
      refine lv_bipush (v := 8) hx hb dX1_pack_16 (by decide) ?_
      refine lv_icmp_lt (tgt := 25) hx hb dX1_pack_18 (by decide) (fun c_3 => ?_) (fun c_3 => ?_)
      · skip
        refine lv_iload_n hx hb dX1_pack_25 rfl (lv_at hl 1 rfl) ?_
        refine lv_bipush (v := 12) hx hb dX1_pack_26 (by decide) ?_
        refine lv_icmp_ne (tgt := 43) hx hb dX1_pack_28 (by decide) (fun c_4 => ?_) (fun c_4 => ?_)
        · skip
          refine lv_iconst (v := 1) hx hb dX1_pack_43 (by decide) ?_
          refine lv_goto (tgt := 48) hx hb dX1_pack_44 (by decide) ?_
          refine lv_istore (lv' := [(4, .int 1), (0, .ref h), (1, .int 1), (2, .int lo), (3, .int hi)]) hx hb dX1_pack_48 hl (by decide) rfl (fun ls hl => ?_)
          refine lv_aload_n hx hb dX1_pack_50 rfl (lv_at hl 1 rfl) ?_
          refine lv_iload hx hb dX1_pack_51 (lv_at hl 0 rfl) ?_
          refine lv_if_ne (tgt := 60) hx hb dX1_pack_53 (by decide) (fun c_5 => ?_) (fun c_5 => ?_)
          · skip
            refine lv_iconst (v := 0) hx hb dX1_pack_60 (by decide) ?_
            refine lv_iconst (v := 1) hx hb dX1_pack_61 (by decide) ?_
            refine gvi (As := [.int 0, .int 1]) (rest := []) ⟨hx, hb, hml, hown, hts⟩ (c_X1_fails l dC dI tk tw h a b cI cJ _ f g 0 (nI n8) zc zso znu zty zhd zpa zch zlk zlo zhi zlp zll zlv 0 1) (cwV 2 hts gX1_pack_X1_fails rfl rfl rfl (by decide +kernel) ⟨Nat.le_of_ble_eq_true rfl, Nat.le_of_ble_eq_true rfl⟩) hK hP hD hS hA hZ (q0 := 0) (ci := 1) rfl rfl rfl rfl hl.1 rfl (Nat.le_of_ble_eq_true rfl) dX1_pack_62 ⟨Nat.le_of_ble_eq_true rfl, Nat.le_of_ble_eq_true rfl⟩ (fun r_7 u_8 H locs hw_6 hP hD hS => ?_)
            obtain rfl : u_8 = 0 := hw_6.1.trans (by decide)
            have hP : va_P (dC, dI) vwCl (w1 h a b cI cJ f g 0 (nI n8) zc zso znu zty zhd zpa zch zlk zlo zhi zlp zll zlv) H := hP
            have hD : va_D A (w1 h a b cI cJ f g 0 (nI n8) zc zso znu zty zhd zpa zch zlk zlo zhi zlp zll zlv) := hD
            obtain rfl : r_7 = 0 := hw_6.2.trans (by decide)
            refine lv_if_eq (tgt := 70) hx hb dX1_pack_65 (by decide) (fun c_9 => ?_) (fun c_9 => ?_)
            · skip
              refine lv_iload_n hx hb dX1_pack_70 rfl (lv_at hl 4 rfl) ?_
              refine lv_i2l hx hb dX1_pack_71 rfl ?_
              refine lv_bipush (v := 32) hx hb dX1_pack_72 (by decide) ?_
              refine lv_lshl hx hb dX1_pack_74 rfl ?_
              refine lv_iload_n hx hb dX1_pack_75 rfl (lv_at hl 3 rfl) ?_
              refine lv_i2l hx hb dX1_pack_76 rfl ?_
              refine lv_ldc2 (v := 4294967295) hx hb hown (hts (.constantLong RX1 118 (4294967295)) (by decide +kernel)) dX1_pack_77 ?_
              refine lv_land hx hb dX1_pack_80 ?_
              refine lv_lor hx hb dX1_pack_81 ?_
              have e_10 : ((hi.toInt64 <<< ((32 : Int32).toInt64 &&& 63)) ||| (lo.toInt64 &&& 4294967295) : Int64) = bo lo hi := rfl
              rw [e_10]
              refine lv_lstore (lv' := [(5, .long (bo lo hi)), (4, .int 1), (0, .ref h), (1, .int 1), (2, .int lo), (3, .int hi)]) hx hb dX1_pack_82 hl (by decide) rfl (fun ls hl => ?_)
              refine lv_iload_n hx hb dX1_pack_84 rfl (lv_at hl 3 rfl) ?_
              refine lv_bipush (v := 7) hx hb dX1_pack_85 (by decide) ?_
              refine lv_icmp_le (tgt := 98) hx hb dX1_pack_87 (by decide) (fun c_11 => ?_) (fun c_11 => ?_)
              · skip
                refine lv_iconst (v := 0) hx hb dX1_pack_98 (by decide) ?_
                refine lv_istore (lv' := [(7, .int 0), (5, .long (bo lo hi)), (4, .int 1), (0, .ref h), (1, .int 1), (2, .int lo), (3, .int hi)]) hx hb dX1_pack_99 hl (by decide) rfl (fun ls hl => ?_)
                refine lv_iload_n hx hb dX1_pack_101 rfl (lv_at hl 4 rfl) ?_
                refine lv_tableIn (tgt := 160) hx hb dX1_pack_102 (by decide) (by decide) rfl (by decide) ?_
                refine lv_aload_n hx hb dX1_pack_160 rfl (lv_at hl 3 rfl) ?_
                refine lv_sipush (v := 192) hx hb dX1_pack_161 (by decide) ?_
                refine lv_iconst (v := 0) hx hb dX1_pack_164 (by decide) ?_
                refine lv_lconst (v := 0) hx hb dX1_pack_165 (by decide) ?_
                refine lv_iconst (v := -1) hx hb dX1_pack_166 (by decide) ?_
                have hT : pk1 lo hi = (192, 0, 0, (-1)) := rfl
                have hr9 : n8 + 1 + 0 ≤ 4096 := by rw [hT, phL_n] at hr8; omega
                refine gvi (As := [.int 192, .int 0, .long 0, .int (-1)]) (rest := []) ⟨hx, hb, hml, hown, hts⟩ (c_X1_packHead l dC dI tk tw h a b cI cJ _ f g zc zso znu zty zhd zpa zch zlk zlo zhi zlp zll zlv n8 192 0 (by decide) 0 hr9) (cwV 4 hts gX1_pack_X1_packHead rfl rfl rfl (by decide +kernel) ⟨Nat.le_of_ble_eq_true rfl, Nat.le_of_ble_eq_true rfl⟩) hK hP hD hS hA hZ (q0 := 0) (ci := 1) rfl rfl rfl rfl hl.1 rfl (Nat.le_of_ble_eq_true rfl) dX1_pack_167 ⟨Nat.le_of_ble_eq_true rfl, Nat.le_of_ble_eq_true rfl⟩ (fun r_13 u_14 H locs hw_12 hP hD hS => ?_)
                have hP : va_P (dC, dI) vwCl (w1 h a b cI cJ (apM (upd f n8 192) (n8 + 1) 0 0) g 0 (nI (n8 + (1 + 0))) zc zso znu zty zhd zpa zch zlk zlo zhi zlp zll zlv) H := hP
                have hD : va_D A (w1 h a b cI cJ (apM (upd f n8 192) (n8 + 1) 0 0) g 0 (nI (n8 + (1 + 0))) zc zso znu zty zhd zpa zch zlk zlo zhi zlp zll zlv) := hD
                obtain rfl : r_13 = nI (1 + 0) := hw_12
                have hP9 : va_P (dC, dI) vwCl ((fun (_ : Unit) => w1 h a b cI cJ (phF f n8 (pk1 lo hi)) g 0 (nI (n8 + phL (pk1 lo hi))) zc zso znu zty zhd zpa zch zlk zlo zhi zlp zll zlv) (())) H := by rw [hT, phL_n, phF_n]; exact hP
                have hD9 : va_D A ((fun (_ : Unit) => w1 h a b cI cJ (phF f n8 (pk1 lo hi)) g 0 (nI (n8 + phL (pk1 lo hi))) zc zso znu zty zhd zpa zch zlk zlo zhi zlp zll zlv) (())) := by rw [hT, phL_n, phF_n]; exact hD
                exact W.iret (v := nI (1 + 0)) hx hb hr (fun t ht hW => ⟨⟨nI (1 + 0), (), rfl, (by rw [hT, phL_n]), by rw [ht]; exact hP9, va_K.moved hW.alike hK, hD9⟩, hS.F ht⟩) hS.2.2 dX1_pack_170
              · skip
                exact absurd (by decide) c_11
            · skip
              exact absurd (by decide) c_9
          · skip
            exact absurd c_5 (by decide)
        · skip
          exact absurd c_4 (by decide)
      · skip
        exact absurd (by decide) c_3
set_option maxHeartbeats 4000000 in
set_option maxRecDepth 100000 in
theorem c_X1_pack_1f (l : Launch) (dC : Nat → ClassId) (dI : Nat → Nat → Nat) (tk tw : Nat) (h a b : Nat) (cI cJ : ClassId) (sz : Nat) (f : Nat → Int32) (g : Nat → Int64) (zt : Int32) (zc : Int32) (zso : Int32) (znu : Int64) (zty : Int32) (zhd : Int32) (zpa : Int64) (zch : Int64) (zlk : Int32) (zlo : Int32) (zhi : Int32) (zlp : Int32) (zll : Int32) (zlv : Int32) (n8 : Nat) (hn8 : n8 ≤ 4096) (lo hi : Int32) (hr8 : 4096 < n8 + phL (pk1 lo hi)) : Met l yX1_pack wsX1_pack ({ frames := 2, cells := 0, slots := 0, locals := 49 }) (va_Pc [.ref h, .int 1, .int lo, .int hi] (pr dC dI (t1 cI cJ) (w1 h a b cI cJ f g zt (nI n8) zc zso znu zty zhd zpa zch zlk zlo zhi zlp zll zlv) sz tk tw)) (va_Qi (fun (r : Int32) (_ : Unit) => True) (fun (_ : Unit) => po dC dI (t1 cI cJ) (va_A (w1 h a b cI cJ f g zt (nI n8) zc zso znu zty zhd zpa zch zlk zlo zhi zlp zll zlv) sz) (w1 h a b cI cJ f g 2 (nI n8) zc zso znu zty zhd zpa zch zlk zlo zhi zlp zll zlv)) (va_A (w1 h a b cI cJ f g zt (nI n8) zc zso znu zty zhd zpa zch zlk zlo zhi zlp zll zlv) sz)) 0 0 (va_A (w1 h a b cI cJ f g zt (nI n8) zc zso znu zty zhd zpa zch zlk zlo zhi zlp zll zlv) sz) := by
  refine Met.ofW (cc := cX1_pack) (maxL := 11) (ret := (some .int)) (by decide) rfl ?_
  intro p e s m args below meth c s₁ Bd hml hv
  obtain ⟨rfl, hsz, hP, hK, hD0, hZ⟩ := hv
  have hx := Bd.exec
  have hb := Bd.bytes
  have hr := Bd.returns
  have hts := atoms_spec (ws := wsX1_pack) Bd.pre
  have hown : s.vm.findClass RX1 = some m.cls := findClass_of_methodNamed Bd.named
  have hlocks := Bd.notSynchronized
  subst hsz
  have hD := hD0.self (sz := s.heap.size)
  generalize hAe : va_A (w1 h a b cI cJ f g zt (nI n8) zc zso znu zty zhd zpa zch zlk zlo zhi zlp zll zlv) s.heap.size = A at hD hZ ⊢
  have hA : ∀ q : Nat, s.heap.size ≤ q → A q := fun q h => by rw [← hAe]; exact Or.inr h
  have hS : va_S A s.heap s.heap [] := va_S.rf
  have hP : va_P (dC, dI) vwCl (w1 h a b cI cJ f g zt (nI n8) zc zso znu zty zhd zpa zch zlk zlo zhi zlp zll zlv) s.heap := hP
  have hin0 : ∀ w ∈ wsX10, w ∈ wsX1_pack := by decide +kernel
  have fl21 := hts (.fieldLink RX1 21 "MessageReaderModel" "thrown" "I") (by decide +kernel)
  have hl := lv_entry ([.ref h, .int 1, .int lo, .int hi]) (n := 11) (Nat.le_of_ble_eq_true rfl)
  rw [lg_entry_eq]
  generalize (lg_sl ([.ref h, .int 1, .int lo, .int hi]) ++ List.replicate (11 - (lg_sl ([.ref h, .int 1, .int lo, .int hi])).length) Slot.unset).toArray = ls at hl ⊢
  have hl : lv_has ls 11 [(0, .ref h), (1, .int 1), (2, .int lo), (3, .int hi)] := hl
  refine lv_aload_n hx hb dX1_pack_0 rfl (lv_at hl 0 rfl) ?_
  refine lv_iconst (v := 0) hx hb dX1_pack_1 (by decide) ?_
  refine va_put (D := (dC, dI)) (ci := 1) (v := .int 0) (ty := .int) (C := RX1) (T := TX1) (N := 17) hx hb hts hin0 tyX1 tyX1_ok nmX1 hown hK hP hD hS 0 rfl rfl 0 (by decide) fl21 (fun _ h9 => h9) rfl (by decide +kernel) rfl rfl (Nat.le_of_ble_eq_true rfl) dX1_pack_2 (fun H locs hP hD hS => ?_)
  have hP : va_P (dC, dI) vwCl (w1 h a b cI cJ f g 0 (nI n8) zc zso znu zty zhd zpa zch zlk zlo zhi zlp zll zlv) H := hP
  have hD : va_D A (w1 h a b cI cJ f g 0 (nI n8) zc zso znu zty zhd zpa zch zlk zlo zhi zlp zll zlv) := hD
  refine lv_iload_n hx hb dX1_pack_5 rfl (lv_at hl 1 rfl) ?_
  refine lv_if_le (tgt := 47) hx hb dX1_pack_6 (by decide) (fun c_1 => ?_) (fun c_1 => ?_)
  · skip
    exact absurd c_1 (by decide)
  · skip
    refine lv_iload_n hx hb dX1_pack_9 rfl (lv_at hl 1 rfl) ?_
    refine lv_bipush (v := 13) hx hb dX1_pack_10 (by decide) ?_
    refine lv_icmp_ge (tgt := 47) hx hb dX1_pack_12 (by decide) (fun c_2 => ?_) (fun c_2 => ?_)
    · skip
      exact absurd c_2 (by decide)
    · skip
      refine lv_iload_n hx hb dX1_pack_15 rfl (lv_at hl 1 rfl) ?_
      refine lv_bipush (v := 8) hx hb dX1_pack_16 (by decide) ?_
      refine lv_icmp_lt (tgt := 25) hx hb dX1_pack_18 (by decide) (fun c_3 => ?_) (fun c_3 => ?_)
      · skip
        refine lv_iload_n hx hb dX1_pack_25 rfl (lv_at hl 1 rfl) ?_
        refine lv_bipush (v := 12) hx hb dX1_pack_26 (by decide) ?_
        refine lv_icmp_ne (tgt := 43) hx hb dX1_pack_28 (by decide) (fun c_4 => ?_) (fun c_4 => ?_)
        · skip
          refine lv_iconst (v := 1) hx hb dX1_pack_43 (by decide) ?_
          refine lv_goto (tgt := 48) hx hb dX1_pack_44 (by decide) ?_
          refine lv_istore (lv' := [(4, .int 1), (0, .ref h), (1, .int 1), (2, .int lo), (3, .int hi)]) hx hb dX1_pack_48 hl (by decide) rfl (fun ls hl => ?_)
          refine lv_aload_n hx hb dX1_pack_50 rfl (lv_at hl 1 rfl) ?_
          refine lv_iload hx hb dX1_pack_51 (lv_at hl 0 rfl) ?_
          refine lv_if_ne (tgt := 60) hx hb dX1_pack_53 (by decide) (fun c_5 => ?_) (fun c_5 => ?_)
          · skip
            refine lv_iconst (v := 0) hx hb dX1_pack_60 (by decide) ?_
            refine lv_iconst (v := 1) hx hb dX1_pack_61 (by decide) ?_
            refine gvi (As := [.int 0, .int 1]) (rest := []) ⟨hx, hb, hml, hown, hts⟩ (c_X1_fails l dC dI tk tw h a b cI cJ _ f g 0 (nI n8) zc zso znu zty zhd zpa zch zlk zlo zhi zlp zll zlv 0 1) (cwV 2 hts gX1_pack_X1_fails rfl rfl rfl (by decide +kernel) ⟨Nat.le_of_ble_eq_true rfl, Nat.le_of_ble_eq_true rfl⟩) hK hP hD hS hA hZ (q0 := 0) (ci := 1) rfl rfl rfl rfl hl.1 rfl (Nat.le_of_ble_eq_true rfl) dX1_pack_62 ⟨Nat.le_of_ble_eq_true rfl, Nat.le_of_ble_eq_true rfl⟩ (fun r_7 u_8 H locs hw_6 hP hD hS => ?_)
            obtain rfl : u_8 = 0 := hw_6.1.trans (by decide)
            have hP : va_P (dC, dI) vwCl (w1 h a b cI cJ f g 0 (nI n8) zc zso znu zty zhd zpa zch zlk zlo zhi zlp zll zlv) H := hP
            have hD : va_D A (w1 h a b cI cJ f g 0 (nI n8) zc zso znu zty zhd zpa zch zlk zlo zhi zlp zll zlv) := hD
            obtain rfl : r_7 = 0 := hw_6.2.trans (by decide)
            refine lv_if_eq (tgt := 70) hx hb dX1_pack_65 (by decide) (fun c_9 => ?_) (fun c_9 => ?_)
            · skip
              refine lv_iload_n hx hb dX1_pack_70 rfl (lv_at hl 4 rfl) ?_
              refine lv_i2l hx hb dX1_pack_71 rfl ?_
              refine lv_bipush (v := 32) hx hb dX1_pack_72 (by decide) ?_
              refine lv_lshl hx hb dX1_pack_74 rfl ?_
              refine lv_iload_n hx hb dX1_pack_75 rfl (lv_at hl 3 rfl) ?_
              refine lv_i2l hx hb dX1_pack_76 rfl ?_
              refine lv_ldc2 (v := 4294967295) hx hb hown (hts (.constantLong RX1 118 (4294967295)) (by decide +kernel)) dX1_pack_77 ?_
              refine lv_land hx hb dX1_pack_80 ?_
              refine lv_lor hx hb dX1_pack_81 ?_
              have e_10 : ((hi.toInt64 <<< ((32 : Int32).toInt64 &&& 63)) ||| (lo.toInt64 &&& 4294967295) : Int64) = bo lo hi := rfl
              rw [e_10]
              refine lv_lstore (lv' := [(5, .long (bo lo hi)), (4, .int 1), (0, .ref h), (1, .int 1), (2, .int lo), (3, .int hi)]) hx hb dX1_pack_82 hl (by decide) rfl (fun ls hl => ?_)
              refine lv_iload_n hx hb dX1_pack_84 rfl (lv_at hl 3 rfl) ?_
              refine lv_bipush (v := 7) hx hb dX1_pack_85 (by decide) ?_
              refine lv_icmp_le (tgt := 98) hx hb dX1_pack_87 (by decide) (fun c_11 => ?_) (fun c_11 => ?_)
              · skip
                refine lv_iconst (v := 0) hx hb dX1_pack_98 (by decide) ?_
                refine lv_istore (lv' := [(7, .int 0), (5, .long (bo lo hi)), (4, .int 1), (0, .ref h), (1, .int 1), (2, .int lo), (3, .int hi)]) hx hb dX1_pack_99 hl (by decide) rfl (fun ls hl => ?_)
                refine lv_iload_n hx hb dX1_pack_101 rfl (lv_at hl 4 rfl) ?_
                refine lv_tableIn (tgt := 160) hx hb dX1_pack_102 (by decide) (by decide) rfl (by decide) ?_
                refine lv_aload_n hx hb dX1_pack_160 rfl (lv_at hl 3 rfl) ?_
                refine lv_sipush (v := 192) hx hb dX1_pack_161 (by decide) ?_
                refine lv_iconst (v := 0) hx hb dX1_pack_164 (by decide) ?_
                refine lv_lconst (v := 0) hx hb dX1_pack_165 (by decide) ?_
                refine lv_iconst (v := -1) hx hb dX1_pack_166 (by decide) ?_
                have hT : pk1 lo hi = (192, 0, 0, (-1)) := rfl
                have hr9 : 4096 < n8 + 1 + 0 := by rw [hT, phL_n] at hr8; omega
                refine gvi (As := [.int 192, .int 0, .long 0, .int (-1)]) (rest := []) ⟨hx, hb, hml, hown, hts⟩ (c_X1_packHead_f l dC dI tk tw h a b cI cJ _ f g zc zso znu zty zhd zpa zch zlk zlo zhi zlp zll zlv n8 hn8 192 0 (by decide) 0 hr9) (cwV 4 hts gX1_pack_X1_packHead rfl rfl rfl (by decide +kernel) ⟨Nat.le_of_ble_eq_true rfl, Nat.le_of_ble_eq_true rfl⟩) hK hP hD hS hA hZ (q0 := 0) (ci := 1) rfl rfl rfl rfl hl.1 rfl (Nat.le_of_ble_eq_true rfl) dX1_pack_167 ⟨Nat.le_of_ble_eq_true rfl, Nat.le_of_ble_eq_true rfl⟩ (fun r_13 u_14 H locs hw_12 hP hD hS => ?_)
                have hP : va_P (dC, dI) vwCl (w1 h a b cI cJ f g 2 (nI n8) zc zso znu zty zhd zpa zch zlk zlo zhi zlp zll zlv) H := hP
                have hD : va_D A (w1 h a b cI cJ f g 2 (nI n8) zc zso znu zty zhd zpa zch zlk zlo zhi zlp zll zlv) := hD
                have hP9 : va_P (dC, dI) vwCl ((fun (_ : Unit) => w1 h a b cI cJ f g 2 (nI n8) zc zso znu zty zhd zpa zch zlk zlo zhi zlp zll zlv) (())) H := hP
                have hD9 : va_D A ((fun (_ : Unit) => w1 h a b cI cJ f g 2 (nI n8) zc zso znu zty zhd zpa zch zlk zlo zhi zlp zll zlv) (())) := hD
                exact W.iret (v := r_13) hx hb hr (fun t ht hW => ⟨⟨r_13, (), rfl, trivial, by rw [ht]; exact hP9, va_K.moved hW.alike hK, hD9⟩, hS.F ht⟩) hS.2.2 dX1_pack_170
              · skip
                exact absurd (by decide) c_11
            · skip
              exact absurd (by decide) c_9
          · skip
            exact absurd c_5 (by decide)
        · skip
          exact absurd c_4 (by decide)
      · skip
        exact absurd (by decide) c_3
set_option maxHeartbeats 4000000 in
set_option maxRecDepth 100000 in
theorem c_X1_pack_2 (l : Launch) (dC : Nat → ClassId) (dI : Nat → Nat → Nat) (tk tw : Nat) (h a b : Nat) (cI cJ : ClassId) (sz : Nat) (f : Nat → Int32) (g : Nat → Int64) (zt : Int32) (zc : Int32) (zso : Int32) (znu : Int64) (zty : Int32) (zhd : Int32) (zpa : Int64) (zch : Int64) (zlk : Int32) (zlo : Int32) (zhi : Int32) (zlp : Int32) (zll : Int32) (zlv : Int32) (n8 : Nat) (lo hi : Int32) (hr8 : n8 + phL (pk2 lo hi) ≤ 4096) : Met l yX1_pack wsX1_pack ({ frames := 2, cells := 0, slots := 0, locals := 49 }) (va_Pc [.ref h, .int 2, .int lo, .int hi] (pr dC dI (t1 cI cJ) (w1 h a b cI cJ f g zt (nI n8) zc zso znu zty zhd zpa zch zlk zlo zhi zlp zll zlv) sz tk tw)) (va_Qi (fun (r : Int32) (_ : Unit) => r = nI (phL (pk2 lo hi))) (fun (_ : Unit) => po dC dI (t1 cI cJ) (va_A (w1 h a b cI cJ f g zt (nI n8) zc zso znu zty zhd zpa zch zlk zlo zhi zlp zll zlv) sz) (w1 h a b cI cJ (phF f n8 (pk2 lo hi)) g 0 (nI (n8 + phL (pk2 lo hi))) zc zso znu zty zhd zpa zch zlk zlo zhi zlp zll zlv)) (va_A (w1 h a b cI cJ f g zt (nI n8) zc zso znu zty zhd zpa zch zlk zlo zhi zlp zll zlv) sz)) 0 0 (va_A (w1 h a b cI cJ f g zt (nI n8) zc zso znu zty zhd zpa zch zlk zlo zhi zlp zll zlv) sz) := by
  refine Met.ofW (cc := cX1_pack) (maxL := 11) (ret := (some .int)) (by decide) rfl ?_
  intro p e s m args below meth c s₁ Bd hml hv
  obtain ⟨rfl, hsz, hP, hK, hD0, hZ⟩ := hv
  have hx := Bd.exec
  have hb := Bd.bytes
  have hr := Bd.returns
  have hts := atoms_spec (ws := wsX1_pack) Bd.pre
  have hown : s.vm.findClass RX1 = some m.cls := findClass_of_methodNamed Bd.named
  have hlocks := Bd.notSynchronized
  subst hsz
  have hD := hD0.self (sz := s.heap.size)
  generalize hAe : va_A (w1 h a b cI cJ f g zt (nI n8) zc zso znu zty zhd zpa zch zlk zlo zhi zlp zll zlv) s.heap.size = A at hD hZ ⊢
  have hA : ∀ q : Nat, s.heap.size ≤ q → A q := fun q h => by rw [← hAe]; exact Or.inr h
  have hS : va_S A s.heap s.heap [] := va_S.rf
  have hP : va_P (dC, dI) vwCl (w1 h a b cI cJ f g zt (nI n8) zc zso znu zty zhd zpa zch zlk zlo zhi zlp zll zlv) s.heap := hP
  have hin0 : ∀ w ∈ wsX10, w ∈ wsX1_pack := by decide +kernel
  have fl21 := hts (.fieldLink RX1 21 "MessageReaderModel" "thrown" "I") (by decide +kernel)
  have hl := lv_entry ([.ref h, .int 2, .int lo, .int hi]) (n := 11) (Nat.le_of_ble_eq_true rfl)
  rw [lg_entry_eq]
  generalize (lg_sl ([.ref h, .int 2, .int lo, .int hi]) ++ List.replicate (11 - (lg_sl ([.ref h, .int 2, .int lo, .int hi])).length) Slot.unset).toArray = ls at hl ⊢
  have hl : lv_has ls 11 [(0, .ref h), (1, .int 2), (2, .int lo), (3, .int hi)] := hl
  refine lv_aload_n hx hb dX1_pack_0 rfl (lv_at hl 0 rfl) ?_
  refine lv_iconst (v := 0) hx hb dX1_pack_1 (by decide) ?_
  refine va_put (D := (dC, dI)) (ci := 1) (v := .int 0) (ty := .int) (C := RX1) (T := TX1) (N := 17) hx hb hts hin0 tyX1 tyX1_ok nmX1 hown hK hP hD hS 0 rfl rfl 0 (by decide) fl21 (fun _ h9 => h9) rfl (by decide +kernel) rfl rfl (Nat.le_of_ble_eq_true rfl) dX1_pack_2 (fun H locs hP hD hS => ?_)
  have hP : va_P (dC, dI) vwCl (w1 h a b cI cJ f g 0 (nI n8) zc zso znu zty zhd zpa zch zlk zlo zhi zlp zll zlv) H := hP
  have hD : va_D A (w1 h a b cI cJ f g 0 (nI n8) zc zso znu zty zhd zpa zch zlk zlo zhi zlp zll zlv) := hD
  refine lv_iload_n hx hb dX1_pack_5 rfl (lv_at hl 1 rfl) ?_
  refine lv_if_le (tgt := 47) hx hb dX1_pack_6 (by decide) (fun c_1 => ?_) (fun c_1 => ?_)
  · skip
    exact absurd c_1 (by decide)
  · skip
    refine lv_iload_n hx hb dX1_pack_9 rfl (lv_at hl 1 rfl) ?_
    refine lv_bipush (v := 13) hx hb dX1_pack_10 (by decide) ?_
    refine lv_icmp_ge (tgt := 47) hx hb dX1_pack_12 (by decide) (fun c_2 => ?_) (fun c_2 => ?_)
    · skip
      exact absurd c_2 (by decide)
    · skip
      refine lv_iload_n hx hb dX1_pack_15 rfl (lv_at hl 1 rfl) ?_
      refine lv_bipush (v := 8) hx hb dX1_pack_16 (by decide) ?_
      refine lv_icmp_lt (tgt := 25) hx hb dX1_pack_18 (by decide) (fun c_3 => ?_) (fun c_3 => ?_)
      · skip
        refine lv_iload_n hx hb dX1_pack_25 rfl (lv_at hl 1 rfl) ?_
        refine lv_bipush (v := 12) hx hb dX1_pack_26 (by decide) ?_
        refine lv_icmp_ne (tgt := 43) hx hb dX1_pack_28 (by decide) (fun c_4 => ?_) (fun c_4 => ?_)
        · skip
          refine lv_iconst (v := 1) hx hb dX1_pack_43 (by decide) ?_
          refine lv_goto (tgt := 48) hx hb dX1_pack_44 (by decide) ?_
          refine lv_istore (lv' := [(4, .int 1), (0, .ref h), (1, .int 2), (2, .int lo), (3, .int hi)]) hx hb dX1_pack_48 hl (by decide) rfl (fun ls hl => ?_)
          refine lv_aload_n hx hb dX1_pack_50 rfl (lv_at hl 1 rfl) ?_
          refine lv_iload hx hb dX1_pack_51 (lv_at hl 0 rfl) ?_
          refine lv_if_ne (tgt := 60) hx hb dX1_pack_53 (by decide) (fun c_5 => ?_) (fun c_5 => ?_)
          · skip
            refine lv_iconst (v := 0) hx hb dX1_pack_60 (by decide) ?_
            refine lv_iconst (v := 1) hx hb dX1_pack_61 (by decide) ?_
            refine gvi (As := [.int 0, .int 1]) (rest := []) ⟨hx, hb, hml, hown, hts⟩ (c_X1_fails l dC dI tk tw h a b cI cJ _ f g 0 (nI n8) zc zso znu zty zhd zpa zch zlk zlo zhi zlp zll zlv 0 1) (cwV 2 hts gX1_pack_X1_fails rfl rfl rfl (by decide +kernel) ⟨Nat.le_of_ble_eq_true rfl, Nat.le_of_ble_eq_true rfl⟩) hK hP hD hS hA hZ (q0 := 0) (ci := 1) rfl rfl rfl rfl hl.1 rfl (Nat.le_of_ble_eq_true rfl) dX1_pack_62 ⟨Nat.le_of_ble_eq_true rfl, Nat.le_of_ble_eq_true rfl⟩ (fun r_7 u_8 H locs hw_6 hP hD hS => ?_)
            obtain rfl : u_8 = 0 := hw_6.1.trans (by decide)
            have hP : va_P (dC, dI) vwCl (w1 h a b cI cJ f g 0 (nI n8) zc zso znu zty zhd zpa zch zlk zlo zhi zlp zll zlv) H := hP
            have hD : va_D A (w1 h a b cI cJ f g 0 (nI n8) zc zso znu zty zhd zpa zch zlk zlo zhi zlp zll zlv) := hD
            obtain rfl : r_7 = 0 := hw_6.2.trans (by decide)
            refine lv_if_eq (tgt := 70) hx hb dX1_pack_65 (by decide) (fun c_9 => ?_) (fun c_9 => ?_)
            · skip
              refine lv_iload_n hx hb dX1_pack_70 rfl (lv_at hl 4 rfl) ?_
              refine lv_i2l hx hb dX1_pack_71 rfl ?_
              refine lv_bipush (v := 32) hx hb dX1_pack_72 (by decide) ?_
              refine lv_lshl hx hb dX1_pack_74 rfl ?_
              refine lv_iload_n hx hb dX1_pack_75 rfl (lv_at hl 3 rfl) ?_
              refine lv_i2l hx hb dX1_pack_76 rfl ?_
              refine lv_ldc2 (v := 4294967295) hx hb hown (hts (.constantLong RX1 118 (4294967295)) (by decide +kernel)) dX1_pack_77 ?_
              refine lv_land hx hb dX1_pack_80 ?_
              refine lv_lor hx hb dX1_pack_81 ?_
              have e_10 : ((hi.toInt64 <<< ((32 : Int32).toInt64 &&& 63)) ||| (lo.toInt64 &&& 4294967295) : Int64) = bo lo hi := rfl
              rw [e_10]
              refine lv_lstore (lv' := [(5, .long (bo lo hi)), (4, .int 1), (0, .ref h), (1, .int 2), (2, .int lo), (3, .int hi)]) hx hb dX1_pack_82 hl (by decide) rfl (fun ls hl => ?_)
              refine lv_iload_n hx hb dX1_pack_84 rfl (lv_at hl 3 rfl) ?_
              refine lv_bipush (v := 7) hx hb dX1_pack_85 (by decide) ?_
              refine lv_icmp_le (tgt := 98) hx hb dX1_pack_87 (by decide) (fun c_11 => ?_) (fun c_11 => ?_)
              · skip
                refine lv_iconst (v := 0) hx hb dX1_pack_98 (by decide) ?_
                refine lv_istore (lv' := [(7, .int 0), (5, .long (bo lo hi)), (4, .int 1), (0, .ref h), (1, .int 2), (2, .int lo), (3, .int hi)]) hx hb dX1_pack_99 hl (by decide) rfl (fun ls hl => ?_)
                refine lv_iload_n hx hb dX1_pack_101 rfl (lv_at hl 4 rfl) ?_
                refine lv_tableIn (tgt := 171) hx hb dX1_pack_102 (by decide) (by decide) rfl (by decide) ?_
                refine lv_aload_n hx hb dX1_pack_171 rfl (lv_at hl 3 rfl) ?_
                refine lv_sipush (v := 192) hx hb dX1_pack_172 (by decide) ?_
                refine lv_iload_n hx hb dX1_pack_175 rfl (lv_at hl 4 rfl) ?_
                refine lv_iadd hx hb dX1_pack_176 ?_
                refine lv_iconst (v := 0) hx hb dX1_pack_177 (by decide) ?_
                refine lv_lconst (v := 0) hx hb dX1_pack_178 (by decide) ?_
                refine lv_iconst (v := -1) hx hb dX1_pack_179 (by decide) ?_
                have hT : pk2 lo hi = ((192 + 2), 0, 0, (-1)) := rfl
                have hr9 : n8 + 1 + 0 ≤ 4096 := by rw [hT, phL_n] at hr8; omega
                refine gvi (As := [.int (192 + 2), .int 0, .long 0, .int (-1)]) (rest := []) ⟨hx, hb, hml, hown, hts⟩ (c_X1_packHead l dC dI tk tw h a b cI cJ _ f g zc zso znu zty zhd zpa zch zlk zlo zhi zlp zll zlv n8 (192 + 2) 0 (by decide) 0 hr9) (cwV 4 hts gX1_pack_X1_packHead rfl rfl rfl (by decide +kernel) ⟨Nat.le_of_ble_eq_true rfl, Nat.le_of_ble_eq_true rfl⟩) hK hP hD hS hA hZ (q0 := 0) (ci := 1) rfl rfl rfl rfl hl.1 rfl (Nat.le_of_ble_eq_true rfl) dX1_pack_180 ⟨Nat.le_of_ble_eq_true rfl, Nat.le_of_ble_eq_true rfl⟩ (fun r_13 u_14 H locs hw_12 hP hD hS => ?_)
                have hP : va_P (dC, dI) vwCl (w1 h a b cI cJ (apM (upd f n8 (192 + 2)) (n8 + 1) 0 0) g 0 (nI (n8 + (1 + 0))) zc zso znu zty zhd zpa zch zlk zlo zhi zlp zll zlv) H := hP
                have hD : va_D A (w1 h a b cI cJ (apM (upd f n8 (192 + 2)) (n8 + 1) 0 0) g 0 (nI (n8 + (1 + 0))) zc zso znu zty zhd zpa zch zlk zlo zhi zlp zll zlv) := hD
                obtain rfl : r_13 = nI (1 + 0) := hw_12
                have hP9 : va_P (dC, dI) vwCl ((fun (_ : Unit) => w1 h a b cI cJ (phF f n8 (pk2 lo hi)) g 0 (nI (n8 + phL (pk2 lo hi))) zc zso znu zty zhd zpa zch zlk zlo zhi zlp zll zlv) (())) H := by rw [hT, phL_n, phF_n]; exact hP
                have hD9 : va_D A ((fun (_ : Unit) => w1 h a b cI cJ (phF f n8 (pk2 lo hi)) g 0 (nI (n8 + phL (pk2 lo hi))) zc zso znu zty zhd zpa zch zlk zlo zhi zlp zll zlv) (())) := by rw [hT, phL_n, phF_n]; exact hD
                exact W.iret (v := nI (1 + 0)) hx hb hr (fun t ht hW => ⟨⟨nI (1 + 0), (), rfl, (by rw [hT, phL_n]), by rw [ht]; exact hP9, va_K.moved hW.alike hK, hD9⟩, hS.F ht⟩) hS.2.2 dX1_pack_183
              · skip
                exact absurd (by decide) c_11
            · skip
              exact absurd (by decide) c_9
          · skip
            exact absurd c_5 (by decide)
        · skip
          exact absurd c_4 (by decide)
      · skip
        exact absurd (by decide) c_3
set_option maxHeartbeats 4000000 in
set_option maxRecDepth 100000 in
theorem c_X1_pack_2f (l : Launch) (dC : Nat → ClassId) (dI : Nat → Nat → Nat) (tk tw : Nat) (h a b : Nat) (cI cJ : ClassId) (sz : Nat) (f : Nat → Int32) (g : Nat → Int64) (zt : Int32) (zc : Int32) (zso : Int32) (znu : Int64) (zty : Int32) (zhd : Int32) (zpa : Int64) (zch : Int64) (zlk : Int32) (zlo : Int32) (zhi : Int32) (zlp : Int32) (zll : Int32) (zlv : Int32) (n8 : Nat) (hn8 : n8 ≤ 4096) (lo hi : Int32) (hr8 : 4096 < n8 + phL (pk2 lo hi)) : Met l yX1_pack wsX1_pack ({ frames := 2, cells := 0, slots := 0, locals := 49 }) (va_Pc [.ref h, .int 2, .int lo, .int hi] (pr dC dI (t1 cI cJ) (w1 h a b cI cJ f g zt (nI n8) zc zso znu zty zhd zpa zch zlk zlo zhi zlp zll zlv) sz tk tw)) (va_Qi (fun (r : Int32) (_ : Unit) => True) (fun (_ : Unit) => po dC dI (t1 cI cJ) (va_A (w1 h a b cI cJ f g zt (nI n8) zc zso znu zty zhd zpa zch zlk zlo zhi zlp zll zlv) sz) (w1 h a b cI cJ f g 2 (nI n8) zc zso znu zty zhd zpa zch zlk zlo zhi zlp zll zlv)) (va_A (w1 h a b cI cJ f g zt (nI n8) zc zso znu zty zhd zpa zch zlk zlo zhi zlp zll zlv) sz)) 0 0 (va_A (w1 h a b cI cJ f g zt (nI n8) zc zso znu zty zhd zpa zch zlk zlo zhi zlp zll zlv) sz) := by
  refine Met.ofW (cc := cX1_pack) (maxL := 11) (ret := (some .int)) (by decide) rfl ?_
  intro p e s m args below meth c s₁ Bd hml hv
  obtain ⟨rfl, hsz, hP, hK, hD0, hZ⟩ := hv
  have hx := Bd.exec
  have hb := Bd.bytes
  have hr := Bd.returns
  have hts := atoms_spec (ws := wsX1_pack) Bd.pre
  have hown : s.vm.findClass RX1 = some m.cls := findClass_of_methodNamed Bd.named
  have hlocks := Bd.notSynchronized
  subst hsz
  have hD := hD0.self (sz := s.heap.size)
  generalize hAe : va_A (w1 h a b cI cJ f g zt (nI n8) zc zso znu zty zhd zpa zch zlk zlo zhi zlp zll zlv) s.heap.size = A at hD hZ ⊢
  have hA : ∀ q : Nat, s.heap.size ≤ q → A q := fun q h => by rw [← hAe]; exact Or.inr h
  have hS : va_S A s.heap s.heap [] := va_S.rf
  have hP : va_P (dC, dI) vwCl (w1 h a b cI cJ f g zt (nI n8) zc zso znu zty zhd zpa zch zlk zlo zhi zlp zll zlv) s.heap := hP
  have hin0 : ∀ w ∈ wsX10, w ∈ wsX1_pack := by decide +kernel
  have fl21 := hts (.fieldLink RX1 21 "MessageReaderModel" "thrown" "I") (by decide +kernel)
  have hl := lv_entry ([.ref h, .int 2, .int lo, .int hi]) (n := 11) (Nat.le_of_ble_eq_true rfl)
  rw [lg_entry_eq]
  generalize (lg_sl ([.ref h, .int 2, .int lo, .int hi]) ++ List.replicate (11 - (lg_sl ([.ref h, .int 2, .int lo, .int hi])).length) Slot.unset).toArray = ls at hl ⊢
  have hl : lv_has ls 11 [(0, .ref h), (1, .int 2), (2, .int lo), (3, .int hi)] := hl
  refine lv_aload_n hx hb dX1_pack_0 rfl (lv_at hl 0 rfl) ?_
  refine lv_iconst (v := 0) hx hb dX1_pack_1 (by decide) ?_
  refine va_put (D := (dC, dI)) (ci := 1) (v := .int 0) (ty := .int) (C := RX1) (T := TX1) (N := 17) hx hb hts hin0 tyX1 tyX1_ok nmX1 hown hK hP hD hS 0 rfl rfl 0 (by decide) fl21 (fun _ h9 => h9) rfl (by decide +kernel) rfl rfl (Nat.le_of_ble_eq_true rfl) dX1_pack_2 (fun H locs hP hD hS => ?_)
  have hP : va_P (dC, dI) vwCl (w1 h a b cI cJ f g 0 (nI n8) zc zso znu zty zhd zpa zch zlk zlo zhi zlp zll zlv) H := hP
  have hD : va_D A (w1 h a b cI cJ f g 0 (nI n8) zc zso znu zty zhd zpa zch zlk zlo zhi zlp zll zlv) := hD
  refine lv_iload_n hx hb dX1_pack_5 rfl (lv_at hl 1 rfl) ?_
  refine lv_if_le (tgt := 47) hx hb dX1_pack_6 (by decide) (fun c_1 => ?_) (fun c_1 => ?_)
  · skip
    exact absurd c_1 (by decide)
  · skip
    refine lv_iload_n hx hb dX1_pack_9 rfl (lv_at hl 1 rfl) ?_
    refine lv_bipush (v := 13) hx hb dX1_pack_10 (by decide) ?_
    refine lv_icmp_ge (tgt := 47) hx hb dX1_pack_12 (by decide) (fun c_2 => ?_) (fun c_2 => ?_)
    · skip
      exact absurd c_2 (by decide)
    · skip
      refine lv_iload_n hx hb dX1_pack_15 rfl (lv_at hl 1 rfl) ?_
      refine lv_bipush (v := 8) hx hb dX1_pack_16 (by decide) ?_
      refine lv_icmp_lt (tgt := 25) hx hb dX1_pack_18 (by decide) (fun c_3 => ?_) (fun c_3 => ?_)
      · skip
        refine lv_iload_n hx hb dX1_pack_25 rfl (lv_at hl 1 rfl) ?_
        refine lv_bipush (v := 12) hx hb dX1_pack_26 (by decide) ?_
        refine lv_icmp_ne (tgt := 43) hx hb dX1_pack_28 (by decide) (fun c_4 => ?_) (fun c_4 => ?_)
        · skip
          refine lv_iconst (v := 1) hx hb dX1_pack_43 (by decide) ?_
          refine lv_goto (tgt := 48) hx hb dX1_pack_44 (by decide) ?_
          refine lv_istore (lv' := [(4, .int 1), (0, .ref h), (1, .int 2), (2, .int lo), (3, .int hi)]) hx hb dX1_pack_48 hl (by decide) rfl (fun ls hl => ?_)
          refine lv_aload_n hx hb dX1_pack_50 rfl (lv_at hl 1 rfl) ?_
          refine lv_iload hx hb dX1_pack_51 (lv_at hl 0 rfl) ?_
          refine lv_if_ne (tgt := 60) hx hb dX1_pack_53 (by decide) (fun c_5 => ?_) (fun c_5 => ?_)
          · skip
            refine lv_iconst (v := 0) hx hb dX1_pack_60 (by decide) ?_
            refine lv_iconst (v := 1) hx hb dX1_pack_61 (by decide) ?_
            refine gvi (As := [.int 0, .int 1]) (rest := []) ⟨hx, hb, hml, hown, hts⟩ (c_X1_fails l dC dI tk tw h a b cI cJ _ f g 0 (nI n8) zc zso znu zty zhd zpa zch zlk zlo zhi zlp zll zlv 0 1) (cwV 2 hts gX1_pack_X1_fails rfl rfl rfl (by decide +kernel) ⟨Nat.le_of_ble_eq_true rfl, Nat.le_of_ble_eq_true rfl⟩) hK hP hD hS hA hZ (q0 := 0) (ci := 1) rfl rfl rfl rfl hl.1 rfl (Nat.le_of_ble_eq_true rfl) dX1_pack_62 ⟨Nat.le_of_ble_eq_true rfl, Nat.le_of_ble_eq_true rfl⟩ (fun r_7 u_8 H locs hw_6 hP hD hS => ?_)
            obtain rfl : u_8 = 0 := hw_6.1.trans (by decide)
            have hP : va_P (dC, dI) vwCl (w1 h a b cI cJ f g 0 (nI n8) zc zso znu zty zhd zpa zch zlk zlo zhi zlp zll zlv) H := hP
            have hD : va_D A (w1 h a b cI cJ f g 0 (nI n8) zc zso znu zty zhd zpa zch zlk zlo zhi zlp zll zlv) := hD
            obtain rfl : r_7 = 0 := hw_6.2.trans (by decide)
            refine lv_if_eq (tgt := 70) hx hb dX1_pack_65 (by decide) (fun c_9 => ?_) (fun c_9 => ?_)
            · skip
              refine lv_iload_n hx hb dX1_pack_70 rfl (lv_at hl 4 rfl) ?_
              refine lv_i2l hx hb dX1_pack_71 rfl ?_
              refine lv_bipush (v := 32) hx hb dX1_pack_72 (by decide) ?_
              refine lv_lshl hx hb dX1_pack_74 rfl ?_
              refine lv_iload_n hx hb dX1_pack_75 rfl (lv_at hl 3 rfl) ?_
              refine lv_i2l hx hb dX1_pack_76 rfl ?_
              refine lv_ldc2 (v := 4294967295) hx hb hown (hts (.constantLong RX1 118 (4294967295)) (by decide +kernel)) dX1_pack_77 ?_
              refine lv_land hx hb dX1_pack_80 ?_
              refine lv_lor hx hb dX1_pack_81 ?_
              have e_10 : ((hi.toInt64 <<< ((32 : Int32).toInt64 &&& 63)) ||| (lo.toInt64 &&& 4294967295) : Int64) = bo lo hi := rfl
              rw [e_10]
              refine lv_lstore (lv' := [(5, .long (bo lo hi)), (4, .int 1), (0, .ref h), (1, .int 2), (2, .int lo), (3, .int hi)]) hx hb dX1_pack_82 hl (by decide) rfl (fun ls hl => ?_)
              refine lv_iload_n hx hb dX1_pack_84 rfl (lv_at hl 3 rfl) ?_
              refine lv_bipush (v := 7) hx hb dX1_pack_85 (by decide) ?_
              refine lv_icmp_le (tgt := 98) hx hb dX1_pack_87 (by decide) (fun c_11 => ?_) (fun c_11 => ?_)
              · skip
                refine lv_iconst (v := 0) hx hb dX1_pack_98 (by decide) ?_
                refine lv_istore (lv' := [(7, .int 0), (5, .long (bo lo hi)), (4, .int 1), (0, .ref h), (1, .int 2), (2, .int lo), (3, .int hi)]) hx hb dX1_pack_99 hl (by decide) rfl (fun ls hl => ?_)
                refine lv_iload_n hx hb dX1_pack_101 rfl (lv_at hl 4 rfl) ?_
                refine lv_tableIn (tgt := 171) hx hb dX1_pack_102 (by decide) (by decide) rfl (by decide) ?_
                refine lv_aload_n hx hb dX1_pack_171 rfl (lv_at hl 3 rfl) ?_
                refine lv_sipush (v := 192) hx hb dX1_pack_172 (by decide) ?_
                refine lv_iload_n hx hb dX1_pack_175 rfl (lv_at hl 4 rfl) ?_
                refine lv_iadd hx hb dX1_pack_176 ?_
                refine lv_iconst (v := 0) hx hb dX1_pack_177 (by decide) ?_
                refine lv_lconst (v := 0) hx hb dX1_pack_178 (by decide) ?_
                refine lv_iconst (v := -1) hx hb dX1_pack_179 (by decide) ?_
                have hT : pk2 lo hi = ((192 + 2), 0, 0, (-1)) := rfl
                have hr9 : 4096 < n8 + 1 + 0 := by rw [hT, phL_n] at hr8; omega
                refine gvi (As := [.int (192 + 2), .int 0, .long 0, .int (-1)]) (rest := []) ⟨hx, hb, hml, hown, hts⟩ (c_X1_packHead_f l dC dI tk tw h a b cI cJ _ f g zc zso znu zty zhd zpa zch zlk zlo zhi zlp zll zlv n8 hn8 (192 + 2) 0 (by decide) 0 hr9) (cwV 4 hts gX1_pack_X1_packHead rfl rfl rfl (by decide +kernel) ⟨Nat.le_of_ble_eq_true rfl, Nat.le_of_ble_eq_true rfl⟩) hK hP hD hS hA hZ (q0 := 0) (ci := 1) rfl rfl rfl rfl hl.1 rfl (Nat.le_of_ble_eq_true rfl) dX1_pack_180 ⟨Nat.le_of_ble_eq_true rfl, Nat.le_of_ble_eq_true rfl⟩ (fun r_13 u_14 H locs hw_12 hP hD hS => ?_)
                have hP : va_P (dC, dI) vwCl (w1 h a b cI cJ f g 2 (nI n8) zc zso znu zty zhd zpa zch zlk zlo zhi zlp zll zlv) H := hP
                have hD : va_D A (w1 h a b cI cJ f g 2 (nI n8) zc zso znu zty zhd zpa zch zlk zlo zhi zlp zll zlv) := hD
                have hP9 : va_P (dC, dI) vwCl ((fun (_ : Unit) => w1 h a b cI cJ f g 2 (nI n8) zc zso znu zty zhd zpa zch zlk zlo zhi zlp zll zlv) (())) H := hP
                have hD9 : va_D A ((fun (_ : Unit) => w1 h a b cI cJ f g 2 (nI n8) zc zso znu zty zhd zpa zch zlk zlo zhi zlp zll zlv) (())) := hD
                exact W.iret (v := r_13) hx hb hr (fun t ht hW => ⟨⟨r_13, (), rfl, trivial, by rw [ht]; exact hP9, va_K.moved hW.alike hK, hD9⟩, hS.F ht⟩) hS.2.2 dX1_pack_183
              · skip
                exact absurd (by decide) c_11
            · skip
              exact absurd (by decide) c_9
          · skip
            exact absurd c_5 (by decide)
        · skip
          exact absurd c_4 (by decide)
      · skip
        exact absurd (by decide) c_3
set_option maxHeartbeats 4000000 in
set_option maxRecDepth 100000 in
theorem c_X1_pack_3 (l : Launch) (dC : Nat → ClassId) (dI : Nat → Nat → Nat) (tk tw : Nat) (h a b : Nat) (cI cJ : ClassId) (sz : Nat) (f : Nat → Int32) (g : Nat → Int64) (zt : Int32) (zc : Int32) (zso : Int32) (znu : Int64) (zty : Int32) (zhd : Int32) (zpa : Int64) (zch : Int64) (zlk : Int32) (zlo : Int32) (zhi : Int32) (zlp : Int32) (zll : Int32) (zlv : Int32) (n8 : Nat) (lo hi : Int32) (hr8 : n8 + phL (pk3 lo hi) ≤ 4096) : Met l yX1_pack wsX1_pack ({ frames := 2, cells := 0, slots := 0, locals := 49 }) (va_Pc [.ref h, .int 3, .int lo, .int hi] (pr dC dI (t1 cI cJ) (w1 h a b cI cJ f g zt (nI n8) zc zso znu zty zhd zpa zch zlk zlo zhi zlp zll zlv) sz tk tw)) (va_Qi (fun (r : Int32) (_ : Unit) => r = nI (phL (pk3 lo hi))) (fun (_ : Unit) => po dC dI (t1 cI cJ) (va_A (w1 h a b cI cJ f g zt (nI n8) zc zso znu zty zhd zpa zch zlk zlo zhi zlp zll zlv) sz) (w1 h a b cI cJ (phF f n8 (pk3 lo hi)) g 0 (nI (n8 + phL (pk3 lo hi))) zc zso znu zty zhd zpa zch zlk zlo zhi zlp zll zlv)) (va_A (w1 h a b cI cJ f g zt (nI n8) zc zso znu zty zhd zpa zch zlk zlo zhi zlp zll zlv) sz)) 0 0 (va_A (w1 h a b cI cJ f g zt (nI n8) zc zso znu zty zhd zpa zch zlk zlo zhi zlp zll zlv) sz) := by
  refine Met.ofW (cc := cX1_pack) (maxL := 11) (ret := (some .int)) (by decide) rfl ?_
  intro p e s m args below meth c s₁ Bd hml hv
  obtain ⟨rfl, hsz, hP, hK, hD0, hZ⟩ := hv
  have hx := Bd.exec
  have hb := Bd.bytes
  have hr := Bd.returns
  have hts := atoms_spec (ws := wsX1_pack) Bd.pre
  have hown : s.vm.findClass RX1 = some m.cls := findClass_of_methodNamed Bd.named
  have hlocks := Bd.notSynchronized
  subst hsz
  have hD := hD0.self (sz := s.heap.size)
  generalize hAe : va_A (w1 h a b cI cJ f g zt (nI n8) zc zso znu zty zhd zpa zch zlk zlo zhi zlp zll zlv) s.heap.size = A at hD hZ ⊢
  have hA : ∀ q : Nat, s.heap.size ≤ q → A q := fun q h => by rw [← hAe]; exact Or.inr h
  have hS : va_S A s.heap s.heap [] := va_S.rf
  have hP : va_P (dC, dI) vwCl (w1 h a b cI cJ f g zt (nI n8) zc zso znu zty zhd zpa zch zlk zlo zhi zlp zll zlv) s.heap := hP
  have hin0 : ∀ w ∈ wsX10, w ∈ wsX1_pack := by decide +kernel
  have fl21 := hts (.fieldLink RX1 21 "MessageReaderModel" "thrown" "I") (by decide +kernel)
  have hl := lv_entry ([.ref h, .int 3, .int lo, .int hi]) (n := 11) (Nat.le_of_ble_eq_true rfl)
  rw [lg_entry_eq]
  generalize (lg_sl ([.ref h, .int 3, .int lo, .int hi]) ++ List.replicate (11 - (lg_sl ([.ref h, .int 3, .int lo, .int hi])).length) Slot.unset).toArray = ls at hl ⊢
  have hl : lv_has ls 11 [(0, .ref h), (1, .int 3), (2, .int lo), (3, .int hi)] := hl
  refine lv_aload_n hx hb dX1_pack_0 rfl (lv_at hl 0 rfl) ?_
  refine lv_iconst (v := 0) hx hb dX1_pack_1 (by decide) ?_
  refine va_put (D := (dC, dI)) (ci := 1) (v := .int 0) (ty := .int) (C := RX1) (T := TX1) (N := 17) hx hb hts hin0 tyX1 tyX1_ok nmX1 hown hK hP hD hS 0 rfl rfl 0 (by decide) fl21 (fun _ h9 => h9) rfl (by decide +kernel) rfl rfl (Nat.le_of_ble_eq_true rfl) dX1_pack_2 (fun H locs hP hD hS => ?_)
  have hP : va_P (dC, dI) vwCl (w1 h a b cI cJ f g 0 (nI n8) zc zso znu zty zhd zpa zch zlk zlo zhi zlp zll zlv) H := hP
  have hD : va_D A (w1 h a b cI cJ f g 0 (nI n8) zc zso znu zty zhd zpa zch zlk zlo zhi zlp zll zlv) := hD
  refine lv_iload_n hx hb dX1_pack_5 rfl (lv_at hl 1 rfl) ?_
  refine lv_if_le (tgt := 47) hx hb dX1_pack_6 (by decide) (fun c_1 => ?_) (fun c_1 => ?_)
  · skip
    exact absurd c_1 (by decide)
  · skip
    refine lv_iload_n hx hb dX1_pack_9 rfl (lv_at hl 1 rfl) ?_
    refine lv_bipush (v := 13) hx hb dX1_pack_10 (by decide) ?_
    refine lv_icmp_ge (tgt := 47) hx hb dX1_pack_12 (by decide) (fun c_2 => ?_) (fun c_2 => ?_)
    · skip
      exact absurd c_2 (by decide)
    · skip
      refine lv_iload_n hx hb dX1_pack_15 rfl (lv_at hl 1 rfl) ?_
      refine lv_bipush (v := 8) hx hb dX1_pack_16 (by decide) ?_
      refine lv_icmp_lt (tgt := 25) hx hb dX1_pack_18 (by decide) (fun c_3 => ?_) (fun c_3 => ?_)
      · skip
        refine lv_iload_n hx hb dX1_pack_25 rfl (lv_at hl 1 rfl) ?_
        refine lv_bipush (v := 12) hx hb dX1_pack_26 (by decide) ?_
        refine lv_icmp_ne (tgt := 43) hx hb dX1_pack_28 (by decide) (fun c_4 => ?_) (fun c_4 => ?_)
        · skip
          refine lv_iconst (v := 1) hx hb dX1_pack_43 (by decide) ?_
          refine lv_goto (tgt := 48) hx hb dX1_pack_44 (by decide) ?_
          refine lv_istore (lv' := [(4, .int 1), (0, .ref h), (1, .int 3), (2, .int lo), (3, .int hi)]) hx hb dX1_pack_48 hl (by decide) rfl (fun ls hl => ?_)
          refine lv_aload_n hx hb dX1_pack_50 rfl (lv_at hl 1 rfl) ?_
          refine lv_iload hx hb dX1_pack_51 (lv_at hl 0 rfl) ?_
          refine lv_if_ne (tgt := 60) hx hb dX1_pack_53 (by decide) (fun c_5 => ?_) (fun c_5 => ?_)
          · skip
            refine lv_iconst (v := 0) hx hb dX1_pack_60 (by decide) ?_
            refine lv_iconst (v := 1) hx hb dX1_pack_61 (by decide) ?_
            refine gvi (As := [.int 0, .int 1]) (rest := []) ⟨hx, hb, hml, hown, hts⟩ (c_X1_fails l dC dI tk tw h a b cI cJ _ f g 0 (nI n8) zc zso znu zty zhd zpa zch zlk zlo zhi zlp zll zlv 0 1) (cwV 2 hts gX1_pack_X1_fails rfl rfl rfl (by decide +kernel) ⟨Nat.le_of_ble_eq_true rfl, Nat.le_of_ble_eq_true rfl⟩) hK hP hD hS hA hZ (q0 := 0) (ci := 1) rfl rfl rfl rfl hl.1 rfl (Nat.le_of_ble_eq_true rfl) dX1_pack_62 ⟨Nat.le_of_ble_eq_true rfl, Nat.le_of_ble_eq_true rfl⟩ (fun r_7 u_8 H locs hw_6 hP hD hS => ?_)
            obtain rfl : u_8 = 0 := hw_6.1.trans (by decide)
            have hP : va_P (dC, dI) vwCl (w1 h a b cI cJ f g 0 (nI n8) zc zso znu zty zhd zpa zch zlk zlo zhi zlp zll zlv) H := hP
            have hD : va_D A (w1 h a b cI cJ f g 0 (nI n8) zc zso znu zty zhd zpa zch zlk zlo zhi zlp zll zlv) := hD
            obtain rfl : r_7 = 0 := hw_6.2.trans (by decide)
            refine lv_if_eq (tgt := 70) hx hb dX1_pack_65 (by decide) (fun c_9 => ?_) (fun c_9 => ?_)
            · skip
              refine lv_iload_n hx hb dX1_pack_70 rfl (lv_at hl 4 rfl) ?_
              refine lv_i2l hx hb dX1_pack_71 rfl ?_
              refine lv_bipush (v := 32) hx hb dX1_pack_72 (by decide) ?_
              refine lv_lshl hx hb dX1_pack_74 rfl ?_
              refine lv_iload_n hx hb dX1_pack_75 rfl (lv_at hl 3 rfl) ?_
              refine lv_i2l hx hb dX1_pack_76 rfl ?_
              refine lv_ldc2 (v := 4294967295) hx hb hown (hts (.constantLong RX1 118 (4294967295)) (by decide +kernel)) dX1_pack_77 ?_
              refine lv_land hx hb dX1_pack_80 ?_
              refine lv_lor hx hb dX1_pack_81 ?_
              have e_10 : ((hi.toInt64 <<< ((32 : Int32).toInt64 &&& 63)) ||| (lo.toInt64 &&& 4294967295) : Int64) = bo lo hi := rfl
              rw [e_10]
              refine lv_lstore (lv' := [(5, .long (bo lo hi)), (4, .int 1), (0, .ref h), (1, .int 3), (2, .int lo), (3, .int hi)]) hx hb dX1_pack_82 hl (by decide) rfl (fun ls hl => ?_)
              refine lv_iload_n hx hb dX1_pack_84 rfl (lv_at hl 3 rfl) ?_
              refine lv_bipush (v := 7) hx hb dX1_pack_85 (by decide) ?_
              refine lv_icmp_le (tgt := 98) hx hb dX1_pack_87 (by decide) (fun c_11 => ?_) (fun c_11 => ?_)
              · skip
                refine lv_iconst (v := 0) hx hb dX1_pack_98 (by decide) ?_
                refine lv_istore (lv' := [(7, .int 0), (5, .long (bo lo hi)), (4, .int 1), (0, .ref h), (1, .int 3), (2, .int lo), (3, .int hi)]) hx hb dX1_pack_99 hl (by decide) rfl (fun ls hl => ?_)
                refine lv_iload_n hx hb dX1_pack_101 rfl (lv_at hl 4 rfl) ?_
                refine lv_tableIn (tgt := 171) hx hb dX1_pack_102 (by decide) (by decide) rfl (by decide) ?_
                refine lv_aload_n hx hb dX1_pack_171 rfl (lv_at hl 3 rfl) ?_
                refine lv_sipush (v := 192) hx hb dX1_pack_172 (by decide) ?_
                refine lv_iload_n hx hb dX1_pack_175 rfl (lv_at hl 4 rfl) ?_
                refine lv_iadd hx hb dX1_pack_176 ?_
                refine lv_iconst (v := 0) hx hb dX1_pack_177 (by decide) ?_
                refine lv_lconst (v := 0) hx hb dX1_pack_178 (by decide) ?_
                refine lv_iconst (v := -1) hx hb dX1_pack_179 (by decide) ?_
                have hT : pk3 lo hi = ((192 + 3), 0, 0, (-1)) := rfl
                have hr9 : n8 + 1 + 0 ≤ 4096 := by rw [hT, phL_n] at hr8; omega
                refine gvi (As := [.int (192 + 3), .int 0, .long 0, .int (-1)]) (rest := []) ⟨hx, hb, hml, hown, hts⟩ (c_X1_packHead l dC dI tk tw h a b cI cJ _ f g zc zso znu zty zhd zpa zch zlk zlo zhi zlp zll zlv n8 (192 + 3) 0 (by decide) 0 hr9) (cwV 4 hts gX1_pack_X1_packHead rfl rfl rfl (by decide +kernel) ⟨Nat.le_of_ble_eq_true rfl, Nat.le_of_ble_eq_true rfl⟩) hK hP hD hS hA hZ (q0 := 0) (ci := 1) rfl rfl rfl rfl hl.1 rfl (Nat.le_of_ble_eq_true rfl) dX1_pack_180 ⟨Nat.le_of_ble_eq_true rfl, Nat.le_of_ble_eq_true rfl⟩ (fun r_13 u_14 H locs hw_12 hP hD hS => ?_)
                have hP : va_P (dC, dI) vwCl (w1 h a b cI cJ (apM (upd f n8 (192 + 3)) (n8 + 1) 0 0) g 0 (nI (n8 + (1 + 0))) zc zso znu zty zhd zpa zch zlk zlo zhi zlp zll zlv) H := hP
                have hD : va_D A (w1 h a b cI cJ (apM (upd f n8 (192 + 3)) (n8 + 1) 0 0) g 0 (nI (n8 + (1 + 0))) zc zso znu zty zhd zpa zch zlk zlo zhi zlp zll zlv) := hD
                obtain rfl : r_13 = nI (1 + 0) := hw_12
                have hP9 : va_P (dC, dI) vwCl ((fun (_ : Unit) => w1 h a b cI cJ (phF f n8 (pk3 lo hi)) g 0 (nI (n8 + phL (pk3 lo hi))) zc zso znu zty zhd zpa zch zlk zlo zhi zlp zll zlv) (())) H := by rw [hT, phL_n, phF_n]; exact hP
                have hD9 : va_D A ((fun (_ : Unit) => w1 h a b cI cJ (phF f n8 (pk3 lo hi)) g 0 (nI (n8 + phL (pk3 lo hi))) zc zso znu zty zhd zpa zch zlk zlo zhi zlp zll zlv) (())) := by rw [hT, phL_n, phF_n]; exact hD
                exact W.iret (v := nI (1 + 0)) hx hb hr (fun t ht hW => ⟨⟨nI (1 + 0), (), rfl, (by rw [hT, phL_n]), by rw [ht]; exact hP9, va_K.moved hW.alike hK, hD9⟩, hS.F ht⟩) hS.2.2 dX1_pack_183
              · skip
                exact absurd (by decide) c_11
            · skip
              exact absurd (by decide) c_9
          · skip
            exact absurd c_5 (by decide)
        · skip
          exact absurd c_4 (by decide)
      · skip
        exact absurd (by decide) c_3
set_option maxHeartbeats 4000000 in
set_option maxRecDepth 100000 in
theorem c_X1_pack_3f (l : Launch) (dC : Nat → ClassId) (dI : Nat → Nat → Nat) (tk tw : Nat) (h a b : Nat) (cI cJ : ClassId) (sz : Nat) (f : Nat → Int32) (g : Nat → Int64) (zt : Int32) (zc : Int32) (zso : Int32) (znu : Int64) (zty : Int32) (zhd : Int32) (zpa : Int64) (zch : Int64) (zlk : Int32) (zlo : Int32) (zhi : Int32) (zlp : Int32) (zll : Int32) (zlv : Int32) (n8 : Nat) (hn8 : n8 ≤ 4096) (lo hi : Int32) (hr8 : 4096 < n8 + phL (pk3 lo hi)) : Met l yX1_pack wsX1_pack ({ frames := 2, cells := 0, slots := 0, locals := 49 }) (va_Pc [.ref h, .int 3, .int lo, .int hi] (pr dC dI (t1 cI cJ) (w1 h a b cI cJ f g zt (nI n8) zc zso znu zty zhd zpa zch zlk zlo zhi zlp zll zlv) sz tk tw)) (va_Qi (fun (r : Int32) (_ : Unit) => True) (fun (_ : Unit) => po dC dI (t1 cI cJ) (va_A (w1 h a b cI cJ f g zt (nI n8) zc zso znu zty zhd zpa zch zlk zlo zhi zlp zll zlv) sz) (w1 h a b cI cJ f g 2 (nI n8) zc zso znu zty zhd zpa zch zlk zlo zhi zlp zll zlv)) (va_A (w1 h a b cI cJ f g zt (nI n8) zc zso znu zty zhd zpa zch zlk zlo zhi zlp zll zlv) sz)) 0 0 (va_A (w1 h a b cI cJ f g zt (nI n8) zc zso znu zty zhd zpa zch zlk zlo zhi zlp zll zlv) sz) := by
  refine Met.ofW (cc := cX1_pack) (maxL := 11) (ret := (some .int)) (by decide) rfl ?_
  intro p e s m args below meth c s₁ Bd hml hv
  obtain ⟨rfl, hsz, hP, hK, hD0, hZ⟩ := hv
  have hx := Bd.exec
  have hb := Bd.bytes
  have hr := Bd.returns
  have hts := atoms_spec (ws := wsX1_pack) Bd.pre
  have hown : s.vm.findClass RX1 = some m.cls := findClass_of_methodNamed Bd.named
  have hlocks := Bd.notSynchronized
  subst hsz
  have hD := hD0.self (sz := s.heap.size)
  generalize hAe : va_A (w1 h a b cI cJ f g zt (nI n8) zc zso znu zty zhd zpa zch zlk zlo zhi zlp zll zlv) s.heap.size = A at hD hZ ⊢
  have hA : ∀ q : Nat, s.heap.size ≤ q → A q := fun q h => by rw [← hAe]; exact Or.inr h
  have hS : va_S A s.heap s.heap [] := va_S.rf
  have hP : va_P (dC, dI) vwCl (w1 h a b cI cJ f g zt (nI n8) zc zso znu zty zhd zpa zch zlk zlo zhi zlp zll zlv) s.heap := hP
  have hin0 : ∀ w ∈ wsX10, w ∈ wsX1_pack := by decide +kernel
  have fl21 := hts (.fieldLink RX1 21 "MessageReaderModel" "thrown" "I") (by decide +kernel)
  have hl := lv_entry ([.ref h, .int 3, .int lo, .int hi]) (n := 11) (Nat.le_of_ble_eq_true rfl)
  rw [lg_entry_eq]
  generalize (lg_sl ([.ref h, .int 3, .int lo, .int hi]) ++ List.replicate (11 - (lg_sl ([.ref h, .int 3, .int lo, .int hi])).length) Slot.unset).toArray = ls at hl ⊢
  have hl : lv_has ls 11 [(0, .ref h), (1, .int 3), (2, .int lo), (3, .int hi)] := hl
  refine lv_aload_n hx hb dX1_pack_0 rfl (lv_at hl 0 rfl) ?_
  refine lv_iconst (v := 0) hx hb dX1_pack_1 (by decide) ?_
  refine va_put (D := (dC, dI)) (ci := 1) (v := .int 0) (ty := .int) (C := RX1) (T := TX1) (N := 17) hx hb hts hin0 tyX1 tyX1_ok nmX1 hown hK hP hD hS 0 rfl rfl 0 (by decide) fl21 (fun _ h9 => h9) rfl (by decide +kernel) rfl rfl (Nat.le_of_ble_eq_true rfl) dX1_pack_2 (fun H locs hP hD hS => ?_)
  have hP : va_P (dC, dI) vwCl (w1 h a b cI cJ f g 0 (nI n8) zc zso znu zty zhd zpa zch zlk zlo zhi zlp zll zlv) H := hP
  have hD : va_D A (w1 h a b cI cJ f g 0 (nI n8) zc zso znu zty zhd zpa zch zlk zlo zhi zlp zll zlv) := hD
  refine lv_iload_n hx hb dX1_pack_5 rfl (lv_at hl 1 rfl) ?_
  refine lv_if_le (tgt := 47) hx hb dX1_pack_6 (by decide) (fun c_1 => ?_) (fun c_1 => ?_)
  · skip
    exact absurd c_1 (by decide)
  · skip
    refine lv_iload_n hx hb dX1_pack_9 rfl (lv_at hl 1 rfl) ?_
    refine lv_bipush (v := 13) hx hb dX1_pack_10 (by decide) ?_
    refine lv_icmp_ge (tgt := 47) hx hb dX1_pack_12 (by decide) (fun c_2 => ?_) (fun c_2 => ?_)
    · skip
      exact absurd c_2 (by decide)
    · skip
      refine lv_iload_n hx hb dX1_pack_15 rfl (lv_at hl 1 rfl) ?_
      refine lv_bipush (v := 8) hx hb dX1_pack_16 (by decide) ?_
      refine lv_icmp_lt (tgt := 25) hx hb dX1_pack_18 (by decide) (fun c_3 => ?_) (fun c_3 => ?_)
      · skip
        refine lv_iload_n hx hb dX1_pack_25 rfl (lv_at hl 1 rfl) ?_
        refine lv_bipush (v := 12) hx hb dX1_pack_26 (by decide) ?_
        refine lv_icmp_ne (tgt := 43) hx hb dX1_pack_28 (by decide) (fun c_4 => ?_) (fun c_4 => ?_)
        · skip
          refine lv_iconst (v := 1) hx hb dX1_pack_43 (by decide) ?_
          refine lv_goto (tgt := 48) hx hb dX1_pack_44 (by decide) ?_
          refine lv_istore (lv' := [(4, .int 1), (0, .ref h), (1, .int 3), (2, .int lo), (3, .int hi)]) hx hb dX1_pack_48 hl (by decide) rfl (fun ls hl => ?_)
          refine lv_aload_n hx hb dX1_pack_50 rfl (lv_at hl 1 rfl) ?_
          refine lv_iload hx hb dX1_pack_51 (lv_at hl 0 rfl) ?_
          refine lv_if_ne (tgt := 60) hx hb dX1_pack_53 (by decide) (fun c_5 => ?_) (fun c_5 => ?_)
          · skip
            refine lv_iconst (v := 0) hx hb dX1_pack_60 (by decide) ?_
            refine lv_iconst (v := 1) hx hb dX1_pack_61 (by decide) ?_
            refine gvi (As := [.int 0, .int 1]) (rest := []) ⟨hx, hb, hml, hown, hts⟩ (c_X1_fails l dC dI tk tw h a b cI cJ _ f g 0 (nI n8) zc zso znu zty zhd zpa zch zlk zlo zhi zlp zll zlv 0 1) (cwV 2 hts gX1_pack_X1_fails rfl rfl rfl (by decide +kernel) ⟨Nat.le_of_ble_eq_true rfl, Nat.le_of_ble_eq_true rfl⟩) hK hP hD hS hA hZ (q0 := 0) (ci := 1) rfl rfl rfl rfl hl.1 rfl (Nat.le_of_ble_eq_true rfl) dX1_pack_62 ⟨Nat.le_of_ble_eq_true rfl, Nat.le_of_ble_eq_true rfl⟩ (fun r_7 u_8 H locs hw_6 hP hD hS => ?_)
            obtain rfl : u_8 = 0 := hw_6.1.trans (by decide)
            have hP : va_P (dC, dI) vwCl (w1 h a b cI cJ f g 0 (nI n8) zc zso znu zty zhd zpa zch zlk zlo zhi zlp zll zlv) H := hP
            have hD : va_D A (w1 h a b cI cJ f g 0 (nI n8) zc zso znu zty zhd zpa zch zlk zlo zhi zlp zll zlv) := hD
            obtain rfl : r_7 = 0 := hw_6.2.trans (by decide)
            refine lv_if_eq (tgt := 70) hx hb dX1_pack_65 (by decide) (fun c_9 => ?_) (fun c_9 => ?_)
            · skip
              refine lv_iload_n hx hb dX1_pack_70 rfl (lv_at hl 4 rfl) ?_
              refine lv_i2l hx hb dX1_pack_71 rfl ?_
              refine lv_bipush (v := 32) hx hb dX1_pack_72 (by decide) ?_
              refine lv_lshl hx hb dX1_pack_74 rfl ?_
              refine lv_iload_n hx hb dX1_pack_75 rfl (lv_at hl 3 rfl) ?_
              refine lv_i2l hx hb dX1_pack_76 rfl ?_
              refine lv_ldc2 (v := 4294967295) hx hb hown (hts (.constantLong RX1 118 (4294967295)) (by decide +kernel)) dX1_pack_77 ?_
              refine lv_land hx hb dX1_pack_80 ?_
              refine lv_lor hx hb dX1_pack_81 ?_
              have e_10 : ((hi.toInt64 <<< ((32 : Int32).toInt64 &&& 63)) ||| (lo.toInt64 &&& 4294967295) : Int64) = bo lo hi := rfl
              rw [e_10]
              refine lv_lstore (lv' := [(5, .long (bo lo hi)), (4, .int 1), (0, .ref h), (1, .int 3), (2, .int lo), (3, .int hi)]) hx hb dX1_pack_82 hl (by decide) rfl (fun ls hl => ?_)
              refine lv_iload_n hx hb dX1_pack_84 rfl (lv_at hl 3 rfl) ?_
              refine lv_bipush (v := 7) hx hb dX1_pack_85 (by decide) ?_
              refine lv_icmp_le (tgt := 98) hx hb dX1_pack_87 (by decide) (fun c_11 => ?_) (fun c_11 => ?_)
              · skip
                refine lv_iconst (v := 0) hx hb dX1_pack_98 (by decide) ?_
                refine lv_istore (lv' := [(7, .int 0), (5, .long (bo lo hi)), (4, .int 1), (0, .ref h), (1, .int 3), (2, .int lo), (3, .int hi)]) hx hb dX1_pack_99 hl (by decide) rfl (fun ls hl => ?_)
                refine lv_iload_n hx hb dX1_pack_101 rfl (lv_at hl 4 rfl) ?_
                refine lv_tableIn (tgt := 171) hx hb dX1_pack_102 (by decide) (by decide) rfl (by decide) ?_
                refine lv_aload_n hx hb dX1_pack_171 rfl (lv_at hl 3 rfl) ?_
                refine lv_sipush (v := 192) hx hb dX1_pack_172 (by decide) ?_
                refine lv_iload_n hx hb dX1_pack_175 rfl (lv_at hl 4 rfl) ?_
                refine lv_iadd hx hb dX1_pack_176 ?_
                refine lv_iconst (v := 0) hx hb dX1_pack_177 (by decide) ?_
                refine lv_lconst (v := 0) hx hb dX1_pack_178 (by decide) ?_
                refine lv_iconst (v := -1) hx hb dX1_pack_179 (by decide) ?_
                have hT : pk3 lo hi = ((192 + 3), 0, 0, (-1)) := rfl
                have hr9 : 4096 < n8 + 1 + 0 := by rw [hT, phL_n] at hr8; omega
                refine gvi (As := [.int (192 + 3), .int 0, .long 0, .int (-1)]) (rest := []) ⟨hx, hb, hml, hown, hts⟩ (c_X1_packHead_f l dC dI tk tw h a b cI cJ _ f g zc zso znu zty zhd zpa zch zlk zlo zhi zlp zll zlv n8 hn8 (192 + 3) 0 (by decide) 0 hr9) (cwV 4 hts gX1_pack_X1_packHead rfl rfl rfl (by decide +kernel) ⟨Nat.le_of_ble_eq_true rfl, Nat.le_of_ble_eq_true rfl⟩) hK hP hD hS hA hZ (q0 := 0) (ci := 1) rfl rfl rfl rfl hl.1 rfl (Nat.le_of_ble_eq_true rfl) dX1_pack_180 ⟨Nat.le_of_ble_eq_true rfl, Nat.le_of_ble_eq_true rfl⟩ (fun r_13 u_14 H locs hw_12 hP hD hS => ?_)
                have hP : va_P (dC, dI) vwCl (w1 h a b cI cJ f g 2 (nI n8) zc zso znu zty zhd zpa zch zlk zlo zhi zlp zll zlv) H := hP
                have hD : va_D A (w1 h a b cI cJ f g 2 (nI n8) zc zso znu zty zhd zpa zch zlk zlo zhi zlp zll zlv) := hD
                have hP9 : va_P (dC, dI) vwCl ((fun (_ : Unit) => w1 h a b cI cJ f g 2 (nI n8) zc zso znu zty zhd zpa zch zlk zlo zhi zlp zll zlv) (())) H := hP
                have hD9 : va_D A ((fun (_ : Unit) => w1 h a b cI cJ f g 2 (nI n8) zc zso znu zty zhd zpa zch zlk zlo zhi zlp zll zlv) (())) := hD
                exact W.iret (v := r_13) hx hb hr (fun t ht hW => ⟨⟨r_13, (), rfl, trivial, by rw [ht]; exact hP9, va_K.moved hW.alike hK, hD9⟩, hS.F ht⟩) hS.2.2 dX1_pack_183
              · skip
                exact absurd (by decide) c_11
            · skip
              exact absurd (by decide) c_9
          · skip
            exact absurd c_5 (by decide)
        · skip
          exact absurd c_4 (by decide)
      · skip
        exact absurd (by decide) c_3
set_option maxHeartbeats 4000000 in
set_option maxRecDepth 100000 in
theorem c_X1_pack_4 (l : Launch) (dC : Nat → ClassId) (dI : Nat → Nat → Nat) (tk tw : Nat) (h a b : Nat) (cI cJ : ClassId) (sz : Nat) (f : Nat → Int32) (g : Nat → Int64) (zt : Int32) (zc : Int32) (zso : Int32) (znu : Int64) (zty : Int32) (zhd : Int32) (zpa : Int64) (zch : Int64) (zlk : Int32) (zlo : Int32) (zhi : Int32) (zlp : Int32) (zll : Int32) (zlv : Int32) (n8 : Nat) (lo hi : Int32) (hr8 : n8 + phL (pk4 lo hi) ≤ 4096) : Met l yX1_pack wsX1_pack ({ frames := 2, cells := 0, slots := 0, locals := 49 }) (va_Pc [.ref h, .int 4, .int lo, .int hi] (pr dC dI (t1 cI cJ) (w1 h a b cI cJ f g zt (nI n8) zc zso znu zty zhd zpa zch zlk zlo zhi zlp zll zlv) sz tk tw)) (va_Qi (fun (r : Int32) (_ : Unit) => r = nI (phL (pk4 lo hi))) (fun (_ : Unit) => po dC dI (t1 cI cJ) (va_A (w1 h a b cI cJ f g zt (nI n8) zc zso znu zty zhd zpa zch zlk zlo zhi zlp zll zlv) sz) (w1 h a b cI cJ (phF f n8 (pk4 lo hi)) g 0 (nI (n8 + phL (pk4 lo hi))) zc zso znu zty zhd zpa zch zlk zlo zhi zlp zll zlv)) (va_A (w1 h a b cI cJ f g zt (nI n8) zc zso znu zty zhd zpa zch zlk zlo zhi zlp zll zlv) sz)) 0 0 (va_A (w1 h a b cI cJ f g zt (nI n8) zc zso znu zty zhd zpa zch zlk zlo zhi zlp zll zlv) sz) := by
  refine Met.ofW (cc := cX1_pack) (maxL := 11) (ret := (some .int)) (by decide) rfl ?_
  intro p e s m args below meth c s₁ Bd hml hv
  obtain ⟨rfl, hsz, hP, hK, hD0, hZ⟩ := hv
  have hx := Bd.exec
  have hb := Bd.bytes
  have hr := Bd.returns
  have hts := atoms_spec (ws := wsX1_pack) Bd.pre
  have hown : s.vm.findClass RX1 = some m.cls := findClass_of_methodNamed Bd.named
  have hlocks := Bd.notSynchronized
  subst hsz
  have hD := hD0.self (sz := s.heap.size)
  generalize hAe : va_A (w1 h a b cI cJ f g zt (nI n8) zc zso znu zty zhd zpa zch zlk zlo zhi zlp zll zlv) s.heap.size = A at hD hZ ⊢
  have hA : ∀ q : Nat, s.heap.size ≤ q → A q := fun q h => by rw [← hAe]; exact Or.inr h
  have hS : va_S A s.heap s.heap [] := va_S.rf
  have hP : va_P (dC, dI) vwCl (w1 h a b cI cJ f g zt (nI n8) zc zso znu zty zhd zpa zch zlk zlo zhi zlp zll zlv) s.heap := hP
  have hin0 : ∀ w ∈ wsX10, w ∈ wsX1_pack := by decide +kernel
  have fl21 := hts (.fieldLink RX1 21 "MessageReaderModel" "thrown" "I") (by decide +kernel)
  have hl := lv_entry ([.ref h, .int 4, .int lo, .int hi]) (n := 11) (Nat.le_of_ble_eq_true rfl)
  rw [lg_entry_eq]
  generalize (lg_sl ([.ref h, .int 4, .int lo, .int hi]) ++ List.replicate (11 - (lg_sl ([.ref h, .int 4, .int lo, .int hi])).length) Slot.unset).toArray = ls at hl ⊢
  have hl : lv_has ls 11 [(0, .ref h), (1, .int 4), (2, .int lo), (3, .int hi)] := hl
  refine lv_aload_n hx hb dX1_pack_0 rfl (lv_at hl 0 rfl) ?_
  refine lv_iconst (v := 0) hx hb dX1_pack_1 (by decide) ?_
  refine va_put (D := (dC, dI)) (ci := 1) (v := .int 0) (ty := .int) (C := RX1) (T := TX1) (N := 17) hx hb hts hin0 tyX1 tyX1_ok nmX1 hown hK hP hD hS 0 rfl rfl 0 (by decide) fl21 (fun _ h9 => h9) rfl (by decide +kernel) rfl rfl (Nat.le_of_ble_eq_true rfl) dX1_pack_2 (fun H locs hP hD hS => ?_)
  have hP : va_P (dC, dI) vwCl (w1 h a b cI cJ f g 0 (nI n8) zc zso znu zty zhd zpa zch zlk zlo zhi zlp zll zlv) H := hP
  have hD : va_D A (w1 h a b cI cJ f g 0 (nI n8) zc zso znu zty zhd zpa zch zlk zlo zhi zlp zll zlv) := hD
  refine lv_iload_n hx hb dX1_pack_5 rfl (lv_at hl 1 rfl) ?_
  refine lv_if_le (tgt := 47) hx hb dX1_pack_6 (by decide) (fun c_1 => ?_) (fun c_1 => ?_)
  · skip
    exact absurd c_1 (by decide)
  · skip
    refine lv_iload_n hx hb dX1_pack_9 rfl (lv_at hl 1 rfl) ?_
    refine lv_bipush (v := 13) hx hb dX1_pack_10 (by decide) ?_
    refine lv_icmp_ge (tgt := 47) hx hb dX1_pack_12 (by decide) (fun c_2 => ?_) (fun c_2 => ?_)
    · skip
      exact absurd c_2 (by decide)
    · skip
      refine lv_iload_n hx hb dX1_pack_15 rfl (lv_at hl 1 rfl) ?_
      refine lv_bipush (v := 8) hx hb dX1_pack_16 (by decide) ?_
      refine lv_icmp_lt (tgt := 25) hx hb dX1_pack_18 (by decide) (fun c_3 => ?_) (fun c_3 => ?_)
      · skip
        refine lv_iload_n hx hb dX1_pack_25 rfl (lv_at hl 1 rfl) ?_
        refine lv_bipush (v := 12) hx hb dX1_pack_26 (by decide) ?_
        refine lv_icmp_ne (tgt := 43) hx hb dX1_pack_28 (by decide) (fun c_4 => ?_) (fun c_4 => ?_)
        · skip
          refine lv_iconst (v := 1) hx hb dX1_pack_43 (by decide) ?_
          refine lv_goto (tgt := 48) hx hb dX1_pack_44 (by decide) ?_
          refine lv_istore (lv' := [(4, .int 1), (0, .ref h), (1, .int 4), (2, .int lo), (3, .int hi)]) hx hb dX1_pack_48 hl (by decide) rfl (fun ls hl => ?_)
          refine lv_aload_n hx hb dX1_pack_50 rfl (lv_at hl 1 rfl) ?_
          refine lv_iload hx hb dX1_pack_51 (lv_at hl 0 rfl) ?_
          refine lv_if_ne (tgt := 60) hx hb dX1_pack_53 (by decide) (fun c_5 => ?_) (fun c_5 => ?_)
          · skip
            refine lv_iconst (v := 0) hx hb dX1_pack_60 (by decide) ?_
            refine lv_iconst (v := 1) hx hb dX1_pack_61 (by decide) ?_
            refine gvi (As := [.int 0, .int 1]) (rest := []) ⟨hx, hb, hml, hown, hts⟩ (c_X1_fails l dC dI tk tw h a b cI cJ _ f g 0 (nI n8) zc zso znu zty zhd zpa zch zlk zlo zhi zlp zll zlv 0 1) (cwV 2 hts gX1_pack_X1_fails rfl rfl rfl (by decide +kernel) ⟨Nat.le_of_ble_eq_true rfl, Nat.le_of_ble_eq_true rfl⟩) hK hP hD hS hA hZ (q0 := 0) (ci := 1) rfl rfl rfl rfl hl.1 rfl (Nat.le_of_ble_eq_true rfl) dX1_pack_62 ⟨Nat.le_of_ble_eq_true rfl, Nat.le_of_ble_eq_true rfl⟩ (fun r_7 u_8 H locs hw_6 hP hD hS => ?_)
            obtain rfl : u_8 = 0 := hw_6.1.trans (by decide)
            have hP : va_P (dC, dI) vwCl (w1 h a b cI cJ f g 0 (nI n8) zc zso znu zty zhd zpa zch zlk zlo zhi zlp zll zlv) H := hP
            have hD : va_D A (w1 h a b cI cJ f g 0 (nI n8) zc zso znu zty zhd zpa zch zlk zlo zhi zlp zll zlv) := hD
            obtain rfl : r_7 = 0 := hw_6.2.trans (by decide)
            refine lv_if_eq (tgt := 70) hx hb dX1_pack_65 (by decide) (fun c_9 => ?_) (fun c_9 => ?_)
            · skip
              refine lv_iload_n hx hb dX1_pack_70 rfl (lv_at hl 4 rfl) ?_
              refine lv_i2l hx hb dX1_pack_71 rfl ?_
              refine lv_bipush (v := 32) hx hb dX1_pack_72 (by decide) ?_
              refine lv_lshl hx hb dX1_pack_74 rfl ?_
              refine lv_iload_n hx hb dX1_pack_75 rfl (lv_at hl 3 rfl) ?_
              refine lv_i2l hx hb dX1_pack_76 rfl ?_
              refine lv_ldc2 (v := 4294967295) hx hb hown (hts (.constantLong RX1 118 (4294967295)) (by decide +kernel)) dX1_pack_77 ?_
              refine lv_land hx hb dX1_pack_80 ?_
              refine lv_lor hx hb dX1_pack_81 ?_
              have e_10 : ((hi.toInt64 <<< ((32 : Int32).toInt64 &&& 63)) ||| (lo.toInt64 &&& 4294967295) : Int64) = bo lo hi := rfl
              rw [e_10]
              refine lv_lstore (lv' := [(5, .long (bo lo hi)), (4, .int 1), (0, .ref h), (1, .int 4), (2, .int lo), (3, .int hi)]) hx hb dX1_pack_82 hl (by decide) rfl (fun ls hl => ?_)
              refine lv_iload_n hx hb dX1_pack_84 rfl (lv_at hl 3 rfl) ?_
              refine lv_bipush (v := 7) hx hb dX1_pack_85 (by decide) ?_
              refine lv_icmp_le (tgt := 98) hx hb dX1_pack_87 (by decide) (fun c_11 => ?_) (fun c_11 => ?_)
              · skip
                refine lv_iconst (v := 0) hx hb dX1_pack_98 (by decide) ?_
                refine lv_istore (lv' := [(7, .int 0), (5, .long (bo lo hi)), (4, .int 1), (0, .ref h), (1, .int 4), (2, .int lo), (3, .int hi)]) hx hb dX1_pack_99 hl (by decide) rfl (fun ls hl => ?_)
                refine lv_iload_n hx hb dX1_pack_101 rfl (lv_at hl 4 rfl) ?_
                refine lv_tableIn (tgt := 184) hx hb dX1_pack_102 (by decide) (by decide) rfl (by decide) ?_
                refine lv_lload hx hb dX1_pack_184 (lv_at hl 1 rfl) ?_
                refine lv_bipush (v := 7) hx hb dX1_pack_186 (by decide) ?_
                refine lv_lushr hx hb dX1_pack_188 rfl ?_
                refine lv_lconst (v := 0) hx hb dX1_pack_189 (by decide) ?_
                refine W.lcmp hx hb dX1_pack_190 ?_
                refine lv_if_ne (tgt := 203) hx hb dX1_pack_191 (by decide) (fun c_12 => ?_) (fun c_12 => ?_)
                · skip
                  have c_12 := (not_congr (lg_cmp_eq (((bo lo hi).toUInt64 >>> ((7 : Int32).toInt64.toUInt64 &&& Int64.toUInt64 63)).toInt64) (0 : Int64))).mp c_12
                  refine lv_aload_n hx hb dX1_pack_203 rfl (lv_at hl 3 rfl) ?_
                  refine lv_sipush (v := 204) hx hb dX1_pack_204 (by decide) ?_
                  refine lv_lload hx hb dX1_pack_207 (lv_at hl 1 rfl) ?_
                  refine gsi (As := [.long (bo lo hi)]) (rest := [.int 204, .ref h]) ⟨hx, hb, hml, hown, hts⟩ (c_X1_needs l dC dI tk tw _ (bo lo hi)) (va_cwS 1 hts gX1_pack_X1_needs rfl rfl rfl (by decide +kernel) ⟨Nat.le_of_ble_eq_true rfl, Nat.le_of_ble_eq_true rfl⟩) hP hS hA hZ rfl hl.1 rfl (Nat.le_of_ble_eq_true rfl) dX1_pack_209 ⟨Nat.le_of_ble_eq_true rfl, Nat.le_of_ble_eq_true rfl⟩ (fun r_14 H locs hw_13 hP hS => ?_)
                  obtain rfl : r_14 = nI (ndN (bo lo hi)) := hw_13
                  refine gsi (As := [.int (nI (ndN (bo lo hi)))]) (rest := [.int 204, .ref h]) ⟨hx, hb, hml, hown, hts⟩ (c_X1_log l dC dI tk tw _ (ndN (bo lo hi)) (Nat.le_trans (ndN_le _) (by decide))) (va_cwS 1 hts gX1_pack_X1_log rfl rfl rfl (by decide +kernel) ⟨Nat.le_of_ble_eq_true rfl, Nat.le_of_ble_eq_true rfl⟩) hP hS hA hZ rfl hl.1 rfl (Nat.le_of_ble_eq_true rfl) dX1_pack_212 ⟨Nat.le_of_ble_eq_true rfl, Nat.le_of_ble_eq_true rfl⟩ (fun r_16 H locs hw_15 hP hS => ?_)
                  obtain rfl : r_16 = nI (lgN (ndN (bo lo hi))) := hw_15
                  refine lv_iadd hx hb dX1_pack_215 ?_
                  refine lv_lload hx hb dX1_pack_216 (lv_at hl 1 rfl) ?_
                  refine gsi (As := [.long (bo lo hi)]) (rest := [.int (204 + (nI (lgN (ndN (bo lo hi))))), .ref h]) ⟨hx, hb, hml, hown, hts⟩ (c_X1_needs l dC dI tk tw _ (bo lo hi)) (va_cwS 1 hts gX1_pack_X1_needs rfl rfl rfl (by decide +kernel) ⟨Nat.le_of_ble_eq_true rfl, Nat.le_of_ble_eq_true rfl⟩) hP hS hA hZ rfl hl.1 rfl (Nat.le_of_ble_eq_true rfl) dX1_pack_218 ⟨Nat.le_of_ble_eq_true rfl, Nat.le_of_ble_eq_true rfl⟩ (fun r_18 H locs hw_17 hP hS => ?_)
                  obtain rfl : r_18 = nI (ndN (bo lo hi)) := hw_17
                  refine lv_lload hx hb dX1_pack_221 (lv_at hl 1 rfl) ?_
                  refine lv_iconst (v := -1) hx hb dX1_pack_223 (by decide) ?_
                  have hT : pk4 lo hi = ((204 + (nI (lgN (ndN (bo lo hi))))), (ndN (bo lo hi)), (bo lo hi), (-1)) := by unfold pk4; rw [if_neg c_12]
                  have hr9 : n8 + 1 + (ndN (bo lo hi)) ≤ 4096 := by rw [hT, phL_n] at hr8; omega
                  refine gvi (As := [.int (204 + (nI (lgN (ndN (bo lo hi))))), .int (nI (ndN (bo lo hi))), .long (bo lo hi), .int (-1)]) (rest := []) ⟨hx, hb, hml, hown, hts⟩ (c_X1_packHead l dC dI tk tw h a b cI cJ _ f g zc zso znu zty zhd zpa zch zlk zlo zhi zlp zll zlv n8 (204 + (nI (lgN (ndN (bo lo hi))))) (ndN (bo lo hi)) (ndN_le _) (bo lo hi) hr9) (cwV 4 hts gX1_pack_X1_packHead rfl rfl rfl (by decide +kernel) ⟨Nat.le_of_ble_eq_true rfl, Nat.le_of_ble_eq_true rfl⟩) hK hP hD hS hA hZ (q0 := 0) (ci := 1) rfl rfl rfl rfl hl.1 rfl (Nat.le_of_ble_eq_true rfl) dX1_pack_224 ⟨Nat.le_of_ble_eq_true rfl, Nat.le_of_ble_eq_true rfl⟩ (fun r_20 u_21 H locs hw_19 hP hD hS => ?_)
                  have hP : va_P (dC, dI) vwCl (w1 h a b cI cJ (apM (upd f n8 (204 + (nI (lgN (ndN (bo lo hi)))))) (n8 + 1) (bo lo hi) (ndN (bo lo hi))) g 0 (nI (n8 + (1 + (ndN (bo lo hi))))) zc zso znu zty zhd zpa zch zlk zlo zhi zlp zll zlv) H := hP
                  have hD : va_D A (w1 h a b cI cJ (apM (upd f n8 (204 + (nI (lgN (ndN (bo lo hi)))))) (n8 + 1) (bo lo hi) (ndN (bo lo hi))) g 0 (nI (n8 + (1 + (ndN (bo lo hi))))) zc zso znu zty zhd zpa zch zlk zlo zhi zlp zll zlv) := hD
                  obtain rfl : r_20 = nI (1 + (ndN (bo lo hi))) := hw_19
                  have hP9 : va_P (dC, dI) vwCl ((fun (_ : Unit) => w1 h a b cI cJ (phF f n8 (pk4 lo hi)) g 0 (nI (n8 + phL (pk4 lo hi))) zc zso znu zty zhd zpa zch zlk zlo zhi zlp zll zlv) (())) H := by rw [hT, phL_n, phF_n]; exact hP
                  have hD9 : va_D A ((fun (_ : Unit) => w1 h a b cI cJ (phF f n8 (pk4 lo hi)) g 0 (nI (n8 + phL (pk4 lo hi))) zc zso znu zty zhd zpa zch zlk zlo zhi zlp zll zlv) (())) := by rw [hT, phL_n, phF_n]; exact hD
                  exact W.iret (v := nI (1 + (ndN (bo lo hi)))) hx hb hr (fun t ht hW => ⟨⟨nI (1 + (ndN (bo lo hi))), (), rfl, (by rw [hT, phL_n]), by rw [ht]; exact hP9, va_K.moved hW.alike hK, hD9⟩, hS.F ht⟩) hS.2.2 dX1_pack_227
                · skip
                  have c_12 := (lg_cmp_eq (((bo lo hi).toUInt64 >>> ((7 : Int32).toInt64.toUInt64 &&& Int64.toUInt64 63)).toInt64) (0 : Int64)).mp c_12
                  refine lv_aload_n hx hb dX1_pack_194 rfl (lv_at hl 3 rfl) ?_
                  refine lv_iload_n hx hb dX1_pack_195 rfl (lv_at hl 5 rfl) ?_
                  refine lv_iconst (v := 0) hx hb dX1_pack_196 (by decide) ?_
                  refine lv_lconst (v := 0) hx hb dX1_pack_197 (by decide) ?_
                  refine lv_iconst (v := -1) hx hb dX1_pack_198 (by decide) ?_
                  have hT : pk4 lo hi = (lo, 0, 0, (-1)) := by unfold pk4; rw [if_pos c_12]
                  have hr9 : n8 + 1 + 0 ≤ 4096 := by rw [hT, phL_n] at hr8; omega
                  refine gvi (As := [.int lo, .int 0, .long 0, .int (-1)]) (rest := []) ⟨hx, hb, hml, hown, hts⟩ (c_X1_packHead l dC dI tk tw h a b cI cJ _ f g zc zso znu zty zhd zpa zch zlk zlo zhi zlp zll zlv n8 lo 0 (by decide) 0 hr9) (cwV 4 hts gX1_pack_X1_packHead rfl rfl rfl (by decide +kernel) ⟨Nat.le_of_ble_eq_true rfl, Nat.le_of_ble_eq_true rfl⟩) hK hP hD hS hA hZ (q0 := 0) (ci := 1) rfl rfl rfl rfl hl.1 rfl (Nat.le_of_ble_eq_true rfl) dX1_pack_199 ⟨Nat.le_of_ble_eq_true rfl, Nat.le_of_ble_eq_true rfl⟩ (fun r_23 u_24 H locs hw_22 hP hD hS => ?_)
                  have hP : va_P (dC, dI) vwCl (w1 h a b cI cJ (apM (upd f n8 lo) (n8 + 1) 0 0) g 0 (nI (n8 + (1 + 0))) zc zso znu zty zhd zpa zch zlk zlo zhi zlp zll zlv) H := hP
                  have hD : va_D A (w1 h a b cI cJ (apM (upd f n8 lo) (n8 + 1) 0 0) g 0 (nI (n8 + (1 + 0))) zc zso znu zty zhd zpa zch zlk zlo zhi zlp zll zlv) := hD
                  obtain rfl : r_23 = nI (1 + 0) := hw_22
                  have hP9 : va_P (dC, dI) vwCl ((fun (_ : Unit) => w1 h a b cI cJ (phF f n8 (pk4 lo hi)) g 0 (nI (n8 + phL (pk4 lo hi))) zc zso znu zty zhd zpa zch zlk zlo zhi zlp zll zlv) (())) H := by rw [hT, phL_n, phF_n]; exact hP
                  have hD9 : va_D A ((fun (_ : Unit) => w1 h a b cI cJ (phF f n8 (pk4 lo hi)) g 0 (nI (n8 + phL (pk4 lo hi))) zc zso znu zty zhd zpa zch zlk zlo zhi zlp zll zlv) (())) := by rw [hT, phL_n, phF_n]; exact hD
                  exact W.iret (v := nI (1 + 0)) hx hb hr (fun t ht hW => ⟨⟨nI (1 + 0), (), rfl, (by rw [hT, phL_n]), by rw [ht]; exact hP9, va_K.moved hW.alike hK, hD9⟩, hS.F ht⟩) hS.2.2 dX1_pack_202
              · skip
                exact absurd (by decide) c_11
            · skip
              exact absurd (by decide) c_9
          · skip
            exact absurd c_5 (by decide)
        · skip
          exact absurd c_4 (by decide)
      · skip
        exact absurd (by decide) c_3
set_option maxHeartbeats 4000000 in
set_option maxRecDepth 100000 in
theorem c_X1_pack_4f (l : Launch) (dC : Nat → ClassId) (dI : Nat → Nat → Nat) (tk tw : Nat) (h a b : Nat) (cI cJ : ClassId) (sz : Nat) (f : Nat → Int32) (g : Nat → Int64) (zt : Int32) (zc : Int32) (zso : Int32) (znu : Int64) (zty : Int32) (zhd : Int32) (zpa : Int64) (zch : Int64) (zlk : Int32) (zlo : Int32) (zhi : Int32) (zlp : Int32) (zll : Int32) (zlv : Int32) (n8 : Nat) (hn8 : n8 ≤ 4096) (lo hi : Int32) (hr8 : 4096 < n8 + phL (pk4 lo hi)) : Met l yX1_pack wsX1_pack ({ frames := 2, cells := 0, slots := 0, locals := 49 }) (va_Pc [.ref h, .int 4, .int lo, .int hi] (pr dC dI (t1 cI cJ) (w1 h a b cI cJ f g zt (nI n8) zc zso znu zty zhd zpa zch zlk zlo zhi zlp zll zlv) sz tk tw)) (va_Qi (fun (r : Int32) (_ : Unit) => True) (fun (_ : Unit) => po dC dI (t1 cI cJ) (va_A (w1 h a b cI cJ f g zt (nI n8) zc zso znu zty zhd zpa zch zlk zlo zhi zlp zll zlv) sz) (w1 h a b cI cJ f g 2 (nI n8) zc zso znu zty zhd zpa zch zlk zlo zhi zlp zll zlv)) (va_A (w1 h a b cI cJ f g zt (nI n8) zc zso znu zty zhd zpa zch zlk zlo zhi zlp zll zlv) sz)) 0 0 (va_A (w1 h a b cI cJ f g zt (nI n8) zc zso znu zty zhd zpa zch zlk zlo zhi zlp zll zlv) sz) := by
  refine Met.ofW (cc := cX1_pack) (maxL := 11) (ret := (some .int)) (by decide) rfl ?_
  intro p e s m args below meth c s₁ Bd hml hv
  obtain ⟨rfl, hsz, hP, hK, hD0, hZ⟩ := hv
  have hx := Bd.exec
  have hb := Bd.bytes
  have hr := Bd.returns
  have hts := atoms_spec (ws := wsX1_pack) Bd.pre
  have hown : s.vm.findClass RX1 = some m.cls := findClass_of_methodNamed Bd.named
  have hlocks := Bd.notSynchronized
  subst hsz
  have hD := hD0.self (sz := s.heap.size)
  generalize hAe : va_A (w1 h a b cI cJ f g zt (nI n8) zc zso znu zty zhd zpa zch zlk zlo zhi zlp zll zlv) s.heap.size = A at hD hZ ⊢
  have hA : ∀ q : Nat, s.heap.size ≤ q → A q := fun q h => by rw [← hAe]; exact Or.inr h
  have hS : va_S A s.heap s.heap [] := va_S.rf
  have hP : va_P (dC, dI) vwCl (w1 h a b cI cJ f g zt (nI n8) zc zso znu zty zhd zpa zch zlk zlo zhi zlp zll zlv) s.heap := hP
  have hin0 : ∀ w ∈ wsX10, w ∈ wsX1_pack := by decide +kernel
  have fl21 := hts (.fieldLink RX1 21 "MessageReaderModel" "thrown" "I") (by decide +kernel)
  have hl := lv_entry ([.ref h, .int 4, .int lo, .int hi]) (n := 11) (Nat.le_of_ble_eq_true rfl)
  rw [lg_entry_eq]
  generalize (lg_sl ([.ref h, .int 4, .int lo, .int hi]) ++ List.replicate (11 - (lg_sl ([.ref h, .int 4, .int lo, .int hi])).length) Slot.unset).toArray = ls at hl ⊢
  have hl : lv_has ls 11 [(0, .ref h), (1, .int 4), (2, .int lo), (3, .int hi)] := hl
  refine lv_aload_n hx hb dX1_pack_0 rfl (lv_at hl 0 rfl) ?_
  refine lv_iconst (v := 0) hx hb dX1_pack_1 (by decide) ?_
  refine va_put (D := (dC, dI)) (ci := 1) (v := .int 0) (ty := .int) (C := RX1) (T := TX1) (N := 17) hx hb hts hin0 tyX1 tyX1_ok nmX1 hown hK hP hD hS 0 rfl rfl 0 (by decide) fl21 (fun _ h9 => h9) rfl (by decide +kernel) rfl rfl (Nat.le_of_ble_eq_true rfl) dX1_pack_2 (fun H locs hP hD hS => ?_)
  have hP : va_P (dC, dI) vwCl (w1 h a b cI cJ f g 0 (nI n8) zc zso znu zty zhd zpa zch zlk zlo zhi zlp zll zlv) H := hP
  have hD : va_D A (w1 h a b cI cJ f g 0 (nI n8) zc zso znu zty zhd zpa zch zlk zlo zhi zlp zll zlv) := hD
  refine lv_iload_n hx hb dX1_pack_5 rfl (lv_at hl 1 rfl) ?_
  refine lv_if_le (tgt := 47) hx hb dX1_pack_6 (by decide) (fun c_1 => ?_) (fun c_1 => ?_)
  · skip
    exact absurd c_1 (by decide)
  · skip
    refine lv_iload_n hx hb dX1_pack_9 rfl (lv_at hl 1 rfl) ?_
    refine lv_bipush (v := 13) hx hb dX1_pack_10 (by decide) ?_
    refine lv_icmp_ge (tgt := 47) hx hb dX1_pack_12 (by decide) (fun c_2 => ?_) (fun c_2 => ?_)
    · skip
      exact absurd c_2 (by decide)
    · skip
      refine lv_iload_n hx hb dX1_pack_15 rfl (lv_at hl 1 rfl) ?_
      refine lv_bipush (v := 8) hx hb dX1_pack_16 (by decide) ?_
      refine lv_icmp_lt (tgt := 25) hx hb dX1_pack_18 (by decide) (fun c_3 => ?_) (fun c_3 => ?_)
      · skip
        refine lv_iload_n hx hb dX1_pack_25 rfl (lv_at hl 1 rfl) ?_
        refine lv_bipush (v := 12) hx hb dX1_pack_26 (by decide) ?_
        refine lv_icmp_ne (tgt := 43) hx hb dX1_pack_28 (by decide) (fun c_4 => ?_) (fun c_4 => ?_)
        · skip
          refine lv_iconst (v := 1) hx hb dX1_pack_43 (by decide) ?_
          refine lv_goto (tgt := 48) hx hb dX1_pack_44 (by decide) ?_
          refine lv_istore (lv' := [(4, .int 1), (0, .ref h), (1, .int 4), (2, .int lo), (3, .int hi)]) hx hb dX1_pack_48 hl (by decide) rfl (fun ls hl => ?_)
          refine lv_aload_n hx hb dX1_pack_50 rfl (lv_at hl 1 rfl) ?_
          refine lv_iload hx hb dX1_pack_51 (lv_at hl 0 rfl) ?_
          refine lv_if_ne (tgt := 60) hx hb dX1_pack_53 (by decide) (fun c_5 => ?_) (fun c_5 => ?_)
          · skip
            refine lv_iconst (v := 0) hx hb dX1_pack_60 (by decide) ?_
            refine lv_iconst (v := 1) hx hb dX1_pack_61 (by decide) ?_
            refine gvi (As := [.int 0, .int 1]) (rest := []) ⟨hx, hb, hml, hown, hts⟩ (c_X1_fails l dC dI tk tw h a b cI cJ _ f g 0 (nI n8) zc zso znu zty zhd zpa zch zlk zlo zhi zlp zll zlv 0 1) (cwV 2 hts gX1_pack_X1_fails rfl rfl rfl (by decide +kernel) ⟨Nat.le_of_ble_eq_true rfl, Nat.le_of_ble_eq_true rfl⟩) hK hP hD hS hA hZ (q0 := 0) (ci := 1) rfl rfl rfl rfl hl.1 rfl (Nat.le_of_ble_eq_true rfl) dX1_pack_62 ⟨Nat.le_of_ble_eq_true rfl, Nat.le_of_ble_eq_true rfl⟩ (fun r_7 u_8 H locs hw_6 hP hD hS => ?_)
            obtain rfl : u_8 = 0 := hw_6.1.trans (by decide)
            have hP : va_P (dC, dI) vwCl (w1 h a b cI cJ f g 0 (nI n8) zc zso znu zty zhd zpa zch zlk zlo zhi zlp zll zlv) H := hP
            have hD : va_D A (w1 h a b cI cJ f g 0 (nI n8) zc zso znu zty zhd zpa zch zlk zlo zhi zlp zll zlv) := hD
            obtain rfl : r_7 = 0 := hw_6.2.trans (by decide)
            refine lv_if_eq (tgt := 70) hx hb dX1_pack_65 (by decide) (fun c_9 => ?_) (fun c_9 => ?_)
            · skip
              refine lv_iload_n hx hb dX1_pack_70 rfl (lv_at hl 4 rfl) ?_
              refine lv_i2l hx hb dX1_pack_71 rfl ?_
              refine lv_bipush (v := 32) hx hb dX1_pack_72 (by decide) ?_
              refine lv_lshl hx hb dX1_pack_74 rfl ?_
              refine lv_iload_n hx hb dX1_pack_75 rfl (lv_at hl 3 rfl) ?_
              refine lv_i2l hx hb dX1_pack_76 rfl ?_
              refine lv_ldc2 (v := 4294967295) hx hb hown (hts (.constantLong RX1 118 (4294967295)) (by decide +kernel)) dX1_pack_77 ?_
              refine lv_land hx hb dX1_pack_80 ?_
              refine lv_lor hx hb dX1_pack_81 ?_
              have e_10 : ((hi.toInt64 <<< ((32 : Int32).toInt64 &&& 63)) ||| (lo.toInt64 &&& 4294967295) : Int64) = bo lo hi := rfl
              rw [e_10]
              refine lv_lstore (lv' := [(5, .long (bo lo hi)), (4, .int 1), (0, .ref h), (1, .int 4), (2, .int lo), (3, .int hi)]) hx hb dX1_pack_82 hl (by decide) rfl (fun ls hl => ?_)
              refine lv_iload_n hx hb dX1_pack_84 rfl (lv_at hl 3 rfl) ?_
              refine lv_bipush (v := 7) hx hb dX1_pack_85 (by decide) ?_
              refine lv_icmp_le (tgt := 98) hx hb dX1_pack_87 (by decide) (fun c_11 => ?_) (fun c_11 => ?_)
              · skip
                refine lv_iconst (v := 0) hx hb dX1_pack_98 (by decide) ?_
                refine lv_istore (lv' := [(7, .int 0), (5, .long (bo lo hi)), (4, .int 1), (0, .ref h), (1, .int 4), (2, .int lo), (3, .int hi)]) hx hb dX1_pack_99 hl (by decide) rfl (fun ls hl => ?_)
                refine lv_iload_n hx hb dX1_pack_101 rfl (lv_at hl 4 rfl) ?_
                refine lv_tableIn (tgt := 184) hx hb dX1_pack_102 (by decide) (by decide) rfl (by decide) ?_
                refine lv_lload hx hb dX1_pack_184 (lv_at hl 1 rfl) ?_
                refine lv_bipush (v := 7) hx hb dX1_pack_186 (by decide) ?_
                refine lv_lushr hx hb dX1_pack_188 rfl ?_
                refine lv_lconst (v := 0) hx hb dX1_pack_189 (by decide) ?_
                refine W.lcmp hx hb dX1_pack_190 ?_
                refine lv_if_ne (tgt := 203) hx hb dX1_pack_191 (by decide) (fun c_12 => ?_) (fun c_12 => ?_)
                · skip
                  have c_12 := (not_congr (lg_cmp_eq (((bo lo hi).toUInt64 >>> ((7 : Int32).toInt64.toUInt64 &&& Int64.toUInt64 63)).toInt64) (0 : Int64))).mp c_12
                  refine lv_aload_n hx hb dX1_pack_203 rfl (lv_at hl 3 rfl) ?_
                  refine lv_sipush (v := 204) hx hb dX1_pack_204 (by decide) ?_
                  refine lv_lload hx hb dX1_pack_207 (lv_at hl 1 rfl) ?_
                  refine gsi (As := [.long (bo lo hi)]) (rest := [.int 204, .ref h]) ⟨hx, hb, hml, hown, hts⟩ (c_X1_needs l dC dI tk tw _ (bo lo hi)) (va_cwS 1 hts gX1_pack_X1_needs rfl rfl rfl (by decide +kernel) ⟨Nat.le_of_ble_eq_true rfl, Nat.le_of_ble_eq_true rfl⟩) hP hS hA hZ rfl hl.1 rfl (Nat.le_of_ble_eq_true rfl) dX1_pack_209 ⟨Nat.le_of_ble_eq_true rfl, Nat.le_of_ble_eq_true rfl⟩ (fun r_14 H locs hw_13 hP hS => ?_)
                  obtain rfl : r_14 = nI (ndN (bo lo hi)) := hw_13
                  refine gsi (As := [.int (nI (ndN (bo lo hi)))]) (rest := [.int 204, .ref h]) ⟨hx, hb, hml, hown, hts⟩ (c_X1_log l dC dI tk tw _ (ndN (bo lo hi)) (Nat.le_trans (ndN_le _) (by decide))) (va_cwS 1 hts gX1_pack_X1_log rfl rfl rfl (by decide +kernel) ⟨Nat.le_of_ble_eq_true rfl, Nat.le_of_ble_eq_true rfl⟩) hP hS hA hZ rfl hl.1 rfl (Nat.le_of_ble_eq_true rfl) dX1_pack_212 ⟨Nat.le_of_ble_eq_true rfl, Nat.le_of_ble_eq_true rfl⟩ (fun r_16 H locs hw_15 hP hS => ?_)
                  obtain rfl : r_16 = nI (lgN (ndN (bo lo hi))) := hw_15
                  refine lv_iadd hx hb dX1_pack_215 ?_
                  refine lv_lload hx hb dX1_pack_216 (lv_at hl 1 rfl) ?_
                  refine gsi (As := [.long (bo lo hi)]) (rest := [.int (204 + (nI (lgN (ndN (bo lo hi))))), .ref h]) ⟨hx, hb, hml, hown, hts⟩ (c_X1_needs l dC dI tk tw _ (bo lo hi)) (va_cwS 1 hts gX1_pack_X1_needs rfl rfl rfl (by decide +kernel) ⟨Nat.le_of_ble_eq_true rfl, Nat.le_of_ble_eq_true rfl⟩) hP hS hA hZ rfl hl.1 rfl (Nat.le_of_ble_eq_true rfl) dX1_pack_218 ⟨Nat.le_of_ble_eq_true rfl, Nat.le_of_ble_eq_true rfl⟩ (fun r_18 H locs hw_17 hP hS => ?_)
                  obtain rfl : r_18 = nI (ndN (bo lo hi)) := hw_17
                  refine lv_lload hx hb dX1_pack_221 (lv_at hl 1 rfl) ?_
                  refine lv_iconst (v := -1) hx hb dX1_pack_223 (by decide) ?_
                  have hT : pk4 lo hi = ((204 + (nI (lgN (ndN (bo lo hi))))), (ndN (bo lo hi)), (bo lo hi), (-1)) := by unfold pk4; rw [if_neg c_12]
                  have hr9 : 4096 < n8 + 1 + (ndN (bo lo hi)) := by rw [hT, phL_n] at hr8; omega
                  refine gvi (As := [.int (204 + (nI (lgN (ndN (bo lo hi))))), .int (nI (ndN (bo lo hi))), .long (bo lo hi), .int (-1)]) (rest := []) ⟨hx, hb, hml, hown, hts⟩ (c_X1_packHead_f l dC dI tk tw h a b cI cJ _ f g zc zso znu zty zhd zpa zch zlk zlo zhi zlp zll zlv n8 hn8 (204 + (nI (lgN (ndN (bo lo hi))))) (ndN (bo lo hi)) (ndN_le _) (bo lo hi) hr9) (cwV 4 hts gX1_pack_X1_packHead rfl rfl rfl (by decide +kernel) ⟨Nat.le_of_ble_eq_true rfl, Nat.le_of_ble_eq_true rfl⟩) hK hP hD hS hA hZ (q0 := 0) (ci := 1) rfl rfl rfl rfl hl.1 rfl (Nat.le_of_ble_eq_true rfl) dX1_pack_224 ⟨Nat.le_of_ble_eq_true rfl, Nat.le_of_ble_eq_true rfl⟩ (fun r_20 u_21 H locs hw_19 hP hD hS => ?_)
                  have hP : va_P (dC, dI) vwCl (w1 h a b cI cJ f g 2 (nI n8) zc zso znu zty zhd zpa zch zlk zlo zhi zlp zll zlv) H := hP
                  have hD : va_D A (w1 h a b cI cJ f g 2 (nI n8) zc zso znu zty zhd zpa zch zlk zlo zhi zlp zll zlv) := hD
                  have hP9 : va_P (dC, dI) vwCl ((fun (_ : Unit) => w1 h a b cI cJ f g 2 (nI n8) zc zso znu zty zhd zpa zch zlk zlo zhi zlp zll zlv) (())) H := hP
                  have hD9 : va_D A ((fun (_ : Unit) => w1 h a b cI cJ f g 2 (nI n8) zc zso znu zty zhd zpa zch zlk zlo zhi zlp zll zlv) (())) := hD
                  exact W.iret (v := r_20) hx hb hr (fun t ht hW => ⟨⟨r_20, (), rfl, trivial, by rw [ht]; exact hP9, va_K.moved hW.alike hK, hD9⟩, hS.F ht⟩) hS.2.2 dX1_pack_227
                · skip
                  have c_12 := (lg_cmp_eq (((bo lo hi).toUInt64 >>> ((7 : Int32).toInt64.toUInt64 &&& Int64.toUInt64 63)).toInt64) (0 : Int64)).mp c_12
                  refine lv_aload_n hx hb dX1_pack_194 rfl (lv_at hl 3 rfl) ?_
                  refine lv_iload_n hx hb dX1_pack_195 rfl (lv_at hl 5 rfl) ?_
                  refine lv_iconst (v := 0) hx hb dX1_pack_196 (by decide) ?_
                  refine lv_lconst (v := 0) hx hb dX1_pack_197 (by decide) ?_
                  refine lv_iconst (v := -1) hx hb dX1_pack_198 (by decide) ?_
                  have hT : pk4 lo hi = (lo, 0, 0, (-1)) := by unfold pk4; rw [if_pos c_12]
                  have hr9 : 4096 < n8 + 1 + 0 := by rw [hT, phL_n] at hr8; omega
                  refine gvi (As := [.int lo, .int 0, .long 0, .int (-1)]) (rest := []) ⟨hx, hb, hml, hown, hts⟩ (c_X1_packHead_f l dC dI tk tw h a b cI cJ _ f g zc zso znu zty zhd zpa zch zlk zlo zhi zlp zll zlv n8 hn8 lo 0 (by decide) 0 hr9) (cwV 4 hts gX1_pack_X1_packHead rfl rfl rfl (by decide +kernel) ⟨Nat.le_of_ble_eq_true rfl, Nat.le_of_ble_eq_true rfl⟩) hK hP hD hS hA hZ (q0 := 0) (ci := 1) rfl rfl rfl rfl hl.1 rfl (Nat.le_of_ble_eq_true rfl) dX1_pack_199 ⟨Nat.le_of_ble_eq_true rfl, Nat.le_of_ble_eq_true rfl⟩ (fun r_23 u_24 H locs hw_22 hP hD hS => ?_)
                  have hP : va_P (dC, dI) vwCl (w1 h a b cI cJ f g 2 (nI n8) zc zso znu zty zhd zpa zch zlk zlo zhi zlp zll zlv) H := hP
                  have hD : va_D A (w1 h a b cI cJ f g 2 (nI n8) zc zso znu zty zhd zpa zch zlk zlo zhi zlp zll zlv) := hD
                  have hP9 : va_P (dC, dI) vwCl ((fun (_ : Unit) => w1 h a b cI cJ f g 2 (nI n8) zc zso znu zty zhd zpa zch zlk zlo zhi zlp zll zlv) (())) H := hP
                  have hD9 : va_D A ((fun (_ : Unit) => w1 h a b cI cJ f g 2 (nI n8) zc zso znu zty zhd zpa zch zlk zlo zhi zlp zll zlv) (())) := hD
                  exact W.iret (v := r_23) hx hb hr (fun t ht hW => ⟨⟨r_23, (), rfl, trivial, by rw [ht]; exact hP9, va_K.moved hW.alike hK, hD9⟩, hS.F ht⟩) hS.2.2 dX1_pack_202
              · skip
                exact absurd (by decide) c_11
            · skip
              exact absurd (by decide) c_9
          · skip
            exact absurd c_5 (by decide)
        · skip
          exact absurd c_4 (by decide)
      · skip
        exact absurd (by decide) c_3
