/-! what a throw needs of the start -/
def strs : List (Nat × String) := [(32, "a byte is 0 .. 255"), (43, "no room for a byte"), (50, "1 .. 8 bytes can be put"), (52, "no room for so many bytes"), (54, "only bytes that are not consumed can be cut"), (56, "there is no such byte"), (101, "containers are counted from 0 on"), (108, "there is no such kind"), (110, "a length or count is 0 .. 2^31 - 1"), (112, "a type is -128 .. 127"), (125, "no room for the head")]
abbrev cdI : Cond := .castable "java/lang/IllegalArgumentException" "java/lang/IllegalArgumentException"
abbrev cdS : Cond := .castable "java/lang/IllegalStateException" "java/lang/IllegalStateException"
abbrev cdR : Cond := .declares ⟨"java/lang/RuntimeException", "<init>", "(Ljava/lang/String;)V"⟩
abbrev cdE : Cond := .declares ⟨"java/lang/Exception", "<init>", "(Ljava/lang/String;)V"⟩
abbrev cdT : Cond := .declares ⟨"java/lang/Throwable", "<init>", "(Ljava/lang/String;)V"⟩
def zx (sa : Nat → Nat) (A : Nat → Prop) (U : State) (H : Heap) : Prop :=
  vx_Zq Bundle.tN "UNASSIGNED_STACK" Bundle.steD A U H ∧ vx_Zq Bundle.tN "SUPPRESSED_SENTINEL" Bundle.listD A U H ∧ (∀ q ∈ strs, vk_R RX0 q.1 q.2 (sa q.1) U) ∧
  va_Nw cdI U ∧ va_Nw cdS U ∧ va_Nw cdR U ∧ va_Nw cdE U ∧ va_Nw cdT U ∧ va_Nc "java/lang/IllegalStateException" "java/lang/IllegalArgumentException" U
theorem zx_warm {sa : Nat → Nat} {A : Nat → Prop} {s U : State} {H : Heap} (hW : s.WarmedH U.vm) (h : zx sa A s H) : zx sa A U H := by
  obtain ⟨h1, h2, h3, h4, h5, h6, h7, h8, h9⟩ := h
  exact ⟨h1.moved hW.alike, h2.moved hW.alike, fun q hq => (h3 q hq).warm hW, va_Nw.warmC hW h4, va_Nw.warmC hW h5, va_Nw.warmD hW h6, va_Nw.warmD hW h7, va_Nw.warmD hW h8, h9.moved hW.alike⟩
theorem zx_same {sa : Nat → Nat} {A : Nat → Prop} {u U : State} {H : Heap} (hv : U.vm = u.vm) (h : zx sa A u H) : zx sa A U H := by
  have ha : u.vm.Alike U.vm := by rw [hv]; exact Vm.Alike.refl _
  obtain ⟨h1, h2, h3, h4, h5, h6, h7, h8, h9⟩ := h
  exact ⟨h1.moved ha, h2.moved ha, fun q hq => (h3 q hq).same hv, va_Nw.same rfl hv.symm h4, va_Nw.same rfl hv.symm h5, va_Nw.same rfl hv.symm h6, va_Nw.same rfl hv.symm h7, va_Nw.same rfl hv.symm h8, h9.moved ha⟩
theorem zx_kept {sa : Nat → Nat} {A : Nat → Prop} {U : State} {H H1 : Heap} (h : zx sa A U H) (hq : ∀ a : Nat, a < H.size → ¬ A a → H1[a]? = H[a]?) : zx sa A U H1 := ⟨h.1.kept hq, h.2.1.kept hq, h.2.2⟩
theorem zx_narrow {sa : Nat → Nat} {A B : Nat → Prop} {U : State} {H : Heap} (h : zx sa A U H) (hAB : ∀ q, B q → A q) : zx sa B U H := ⟨h.1.narrow hAB, h.2.1.narrow hAB, h.2.2⟩
abbrev prx (dC : Nat → ClassId) (dI : Nat → Nat → Nat) (tys : List (ClassId × FieldType)) (ws : va_W) (sz tk tw : Nat) (sa : Nat → Nat) : State → Prop := fun U => U.heap.size = sz ∧ va_P (dC, dI) vwCl ws U.heap ∧ va_K (dC, dI) vwCl tys U ∧ va_D (fun _ => True) ws ∧ zz tk tw (va_A ws sz) U U.heap ∧ zx sa (va_A ws sz) U U.heap
abbrev atIA : List Cond := vx_atS RX0 34 "java/lang/IllegalArgumentException" ["java/lang/RuntimeException", "java/lang/Exception"]
abbrev atIS : List Cond := vx_atS RX0 45 "java/lang/IllegalStateException" ["java/lang/RuntimeException", "java/lang/Exception"]
theorem hat_IA {args : Array Value} {s : State} {sa : Nat → Nat} {A : Nat → Prop} {H : Heap} (h1 : ∀ w ∈ atIA.filter goodWord, w.before args s = true) (hX : zx sa A s H) : ∀ w ∈ atIA, w.before args s = true :=
  vx_hat (L := atIA) (B := [cdI, cdR, cdE, cdT]) h1 (by decide +kernel) (vx_c (va_Nw.use rfl hX.2.2.2.1) (vx_c (va_Nw.use rfl hX.2.2.2.2.2.1) (vx_c (va_Nw.use rfl hX.2.2.2.2.2.2.1) (vx_c (va_Nw.use rfl hX.2.2.2.2.2.2.2.1) vx_n))))
theorem hat_IS {args : Array Value} {s : State} {sa : Nat → Nat} {A : Nat → Prop} {H : Heap} (h1 : ∀ w ∈ atIS.filter goodWord, w.before args s = true) (hX : zx sa A s H) : ∀ w ∈ atIS, w.before args s = true :=
  vx_hat (L := atIS) (B := [cdS, cdR, cdE, cdT]) h1 (by decide +kernel) (vx_c (va_Nw.use rfl hX.2.2.2.2.1) (vx_c (va_Nw.use rfl hX.2.2.2.2.2.1) (vx_c (va_Nw.use rfl hX.2.2.2.2.2.2.1) (vx_c (va_Nw.use rfl hX.2.2.2.2.2.2.2.1) vx_n))))
