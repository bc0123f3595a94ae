/-! next and skip: both sides do the same -/
theorem GV_at {f : Nat → Int32} {n a : Nat} (hn : n ≤ 4096) (ha : a ≤ 4096) (h : ¬ lkS (bY f) n a < 0) : nx (bY f) a ≤ n ∧ lkS (bY f) n a = nI (kd (bY f a)) ∧ GV f (nx (bY f) a) (nI a) (nI (kd (bY f a))) ((nv (bY f) a).toInt32) (hiV (bY f) a) (nI (a + hd (bY f a))) (pl (bY f) a) := by
  obtain ⟨-, h2, ⟨v, h3, h4, h5, h6⟩, h7, -, -⟩ := lk_ok (bY_lt f) hn ha h
  exact ⟨by omega, h7, Or.inr ⟨a, v, rfl, by omega, h4, rfl, rfl, rfl, rfl, h4⟩⟩
theorem next_agree {f : Nat → Int32} {g g1 g2 : Nat → Int64} {n c k : Nat} {zg r1 c1 v1 o1 lk0 lo0 hi0 lp0 ll0 r2 c2 lk lo hi lp ll lv : Int32} (hn : n ≤ 4096) (hc : c ≤ n) (hk : k ≤ 100)
    (h1 : nxP f g n c zg k r1 (g1, c1, v1, o1)) (h2 : nyP (bY f) g n c (lk0, lo0, hi0, lp0, ll0) k r2 (g2, c2, lk, lo, hi, lp, ll, lv)) (hG : GV f c zg lk0 lo0 hi0 lp0 ll0) :
    r1 = r2 ∧ ∃ c' k' : Nat, c' ≤ n ∧ k' ≤ 100 ∧ g2 = g1 ∧ c1 = nI c' ∧ c2 = nI c' ∧ o1 = nI k' ∧ lv = nI k' ∧ GV f c' v1 lk lo hi lp ll := by
  rcases h1 with ⟨a1, a2, a3⟩ | ⟨a1, a2, a3, a4, a5⟩ | ⟨a1, a2, a3, a4⟩
  · rcases h2 with ⟨b1, b2, b3⟩ | ⟨b1, -⟩ | ⟨b1, -⟩
    · simp only [Prod.mk.injEq] at a3 b3
      obtain ⟨rfl, rfl, rfl, rfl⟩ := a3
      obtain ⟨rfl, rfl, rfl, rfl, rfl, rfl, rfl, rfl⟩ := b3
      exact ⟨by rw [a2, b2], c, k, hc, hk, rfl, rfl, rfl, rfl, rfl, hG⟩
    · exact absurd a1 b1
    · exact absurd a1 b1
  · rcases h2 with ⟨b1, -⟩ | ⟨b1, b2, b3, b4, b5⟩ | ⟨b1, b2, -⟩
    · exact absurd b1 a1
    · simp only [Prod.mk.injEq] at a5 b5
      obtain ⟨rfl, rfl, rfl, rfl⟩ := a5
      obtain ⟨rfl, rfl, rfl, rfl, rfl, rfl, rfl, rfl⟩ := b5
      exact ⟨by rw [a4, b4], c, k, hc, hk, rfl, rfl, rfl, rfl, rfl, hG⟩
    · exact absurd ⟨a2, a3⟩ b2
  · rcases h2 with ⟨b1, -⟩ | ⟨b1, b2, b3, -⟩ | ⟨b1, b2, b3, b4⟩
    · exact absurd b1 a1
    · exact absurd ⟨b2, b3⟩ a2
    · simp only [Prod.mk.injEq] at a4 b4
      obtain ⟨rfl, rfl, rfl, rfl⟩ := a4
      obtain ⟨rfl, rfl, rfl, rfl, rfl, rfl, rfl, rfl⟩ := b4
      obtain ⟨q1, q2, q3⟩ := GV_at (f := f) hn (by omega) a1
      refine ⟨by rw [a3, b3, q2], nx (bY f) c, cl (og (cc1 g k) k (ch (bY f) c)) (ok k (ch (bY f) c)), q1, ?_, rfl, rfl, rfl, rfl, rfl, q3⟩
      have z1 := cl_le (g := og (cc1 g k) k (ch (bY f) c)) (k := ok k (ch (bY f) c))
      have z2 := ok_le (k := k) (x := ch (bY f) c) hk
      omega
theorem skip_agree {f : Nat → Int32} {g g1 g2 : Nat → Int64} {n c k : Nat} {zg r1 c1 v1 o1 lk0 lo0 hi0 lp0 ll0 r2 c2 lk lo hi lp ll lv : Int32} (hn : n ≤ 4096) (hc : c ≤ n) (hk : k ≤ 100)
    (h1 : skP f g n c zg k r1 (g1, c1, v1, o1)) (h2 : syP (bY f) g n c (lk0, lo0, hi0, lp0, ll0) k r2 (g2, c2, lk, lo, hi, lp, ll, lv)) (hG : GV f c zg lk0 lo0 hi0 lp0 ll0) :
    r1 = r2 ∧ ∃ c' k' : Nat, c' ≤ n ∧ k' ≤ 100 ∧ g2 = g1 ∧ c1 = nI c' ∧ c2 = nI c' ∧ o1 = nI k' ∧ lv = nI k' ∧ GV f c' v1 lk lo hi lp ll := by
  rcases h1 with ⟨a1, a2, a3⟩ | ⟨a1, a2, a3⟩
  · rcases h2 with ⟨b1, b2, b3⟩ | ⟨b1, -⟩
    · simp only [Prod.mk.injEq] at a3 b3
      obtain ⟨rfl, rfl, rfl, rfl⟩ := a3
      obtain ⟨rfl, rfl, rfl, rfl, rfl, rfl, rfl, rfl⟩ := b3
      exact ⟨by rw [a2, b2], c, k, hc, hk, rfl, rfl, rfl, rfl, rfl, hG⟩
    · exact absurd a1 b1
  · rcases h2 with ⟨b1, -⟩ | ⟨b1, b2, b3⟩
    · exact absurd b1 a1
    · simp only [Prod.mk.injEq] at a3 b3
      obtain ⟨rfl, rfl, rfl, rfl⟩ := a3
      obtain ⟨rfl, rfl, rfl, rfl, rfl, rfl, rfl, rfl⟩ := b3
      have w1 := wk_lk (bY_lt f) hn (by omega) a1
      have w2 := wk_end (bY_lt f) hn (by omega) a1
      obtain ⟨q1, q2, q3⟩ := GV_at (f := f) hn w2.2.1 w1
      refine ⟨by rw [a2, b2], nx (bY f) (wk (bY f) n 4097 c 1).2, cl (cc1 g k) k, q1, ?_, rfl, rfl, rfl, rfl, rfl, q3⟩
      have z1 := cl_le (g := cc1 g k) (k := k)
      omega
/-! the law's own state -/
abbrev tL (cB cJ cI cK cO : ClassId) : List (ClassId × FieldType) := [(cB, .byte), (cJ, .long), (cI, .int), (cK, .long), (cO, .long)]
/-- what doesn't change while the law runs -/
def LC (l : Launch) (p : Program) (s : State) (m : MethodId) (meth : Method) (c : Code) (b L : Nat) (xs : Nat → Int32) (dC : Nat → ClassId) (dI : Nat → Nat → Nat) (tk tw : Nat) (sa : Nat → Nat) (cB cJ cI cK cO : ClassId) : Prop :=
  (p.tables.exec = Jvm.exec ∧ c.code = code ∧ meth.sig.returnType = ret ∧ c.maxLocals = 8 ∧ s.vm.findClass RL = some m.cls ∧ (∀ w ∈ wsL_law, w.before #[Value.ref b] s = true) ∧ va_X b L xs s s.heap ∧ b < s.heap.size ∧ meth.locks = false) ∧ l.stackTraces = false ∧ L ≤ 2048 ∧ va_K (dC, dI) vwCl (tL cB cJ cI cK cO) s ∧ zz tk tw (fun q : Nat => s.heap.size ≤ q) s s.heap ∧ zx sa (fun q : Nat => s.heap.size ≤ q) s s.heap
/-- what holds at the loop's head with t calls done: both objects agree -/
def LI (s : State) (b : Nat) (dC : Nat → ClassId) (dI : Nat → Nat → Nat) (h a b0 : Nat) (cB cJ : ClassId) (h1 a1 b1 : Nat) (cI cK : ClassId) (o : Nat) (cO : ClassId) (t : Nat) (H : Heap) (locs : List Loc) (ls : Array Slot) : Prop :=
  ∃ (n c k : Nat) (f fb : Nat → Int32) (g : Nat → Int64) (zg zt so : Int32) (nu : Int64) (ty hh : Int32) (pa ch9 : Int64) (lk lo hi lp ll : Int32) (go : Nat → Int64),
    n ≤ 4096 ∧ c ≤ n ∧ k ≤ 100 ∧ RB n f fb ∧ GV f c zg lk lo hi lp ll ∧
    va_P (dC, dI) vwCl (w0 h a b0 cB cJ f g (nI n) (nI c) zg (nI k) ++ (w1 h1 a1 b1 cI cK fb g zt (nI n) (nI c) so nu ty hh pa ch9 lk lo hi lp ll (nI k) ++ wo o cO go)) H ∧
    va_D (fun q : Nat => s.heap.size ≤ q) (w0 h a b0 cB cJ f g (nI n) (nI c) zg (nI k) ++ (w1 h1 a1 b1 cI cK fb g zt (nI n) (nI c) so nu ty hh pa ch9 lk lo hi lp ll (nI k) ++ wo o cO go)) ∧
    va_S (fun q : Nat => s.heap.size ≤ q) s.heap H locs ∧
    lv_has ls 8 [(0, .ref b), (1, .ref h), (2, .ref h1), (3, .ref o), (4, .int (nI (4 * t)))]
