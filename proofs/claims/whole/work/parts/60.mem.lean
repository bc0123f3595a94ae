/-! words of the start, by their places -/
theorem mK_arr : Cond.arrayOf (.static "MessageReader" "ROW_KIND" "[I") .int ∈ flatC (Jvm.Cond.and given_1 narrow_1) := by decide +kernel
theorem mK_len : Cond.eq (.length (.static "MessageReader" "ROW_KIND" "[I")) (.int (Int32.ofNat 32)) ∈ flatC (Jvm.Cond.and given_1 narrow_1) := by decide +kernel
theorem mK_el : ∀ j, j < 32 → Cond.eq (.elem (.static "MessageReader" "ROW_KIND" "[I") (.int (Int32.ofNat j))) (.int (rK j)) ∈ flatC (Jvm.Cond.and given_1 narrow_1) := by decide +kernel
theorem mW_arr : Cond.arrayOf (.static "MessageReader" "ROW_WIDTH" "[I") .int ∈ flatC (Jvm.Cond.and given_1 narrow_1) := by decide +kernel
theorem mW_len : Cond.eq (.length (.static "MessageReader" "ROW_WIDTH" "[I")) (.int (Int32.ofNat 32)) ∈ flatC (Jvm.Cond.and given_1 narrow_1) := by decide +kernel
theorem mW_el : ∀ j, j < 32 → Cond.eq (.elem (.static "MessageReader" "ROW_WIDTH" "[I") (.int (Int32.ofNat j))) (.int (rW j)) ∈ flatC (Jvm.Cond.and given_1 narrow_1) := by decide +kernel
theorem mU_ref : Cond.isRef (.static Bundle.tN "UNASSIGNED_STACK" Bundle.steD) ∈ flatC (Jvm.Cond.and given_1 narrow_1) := by decide +kernel
theorem mN_ref : Cond.isRef (.static Bundle.tN "SUPPRESSED_SENTINEL" Bundle.listD) ∈ flatC (Jvm.Cond.and given_1 narrow_1) := by decide +kernel
theorem mC_not : Cond.not (.castable "java/lang/IllegalStateException" "java/lang/IllegalArgumentException") ∈ flatC (Jvm.Cond.and given_1 narrow_1) := by decide +kernel
theorem mS_ex : ∀ q ∈ strs, Cond.exactly (.string RX0 q.1) "java/lang/String" ∈ flatC (Jvm.Cond.and given_1 narrow_1) := by decide +kernel
theorem mS_ref : ∀ q ∈ strs, Cond.stringRef RX0 q.1 q.2 ∈ lw_tbl := by decide +kernel
