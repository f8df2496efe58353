/-! the Statement's words that the start needs -/
theorem aw_cells : ∀ j, j < 112 → Cond.eq (.elem (.static "FallingBlocks" "CELLS" "[I") (.int (Int32.ofNat j))) (.int (mz_CELLS.getD j 0)) ∈ flatC (Jvm.Cond.and given_1 narrow_1) := by decide +kernel
theorem aw_kicks : ∀ j, j < 18 → Cond.eq (.elem (.static "FallingBlocks" "KICKS" "[I") (.int (Int32.ofNat j))) (.int (mz_KICKS.getD j 0)) ∈ flatC (Jvm.Cond.and given_1 narrow_1) := by decide +kernel
theorem aw_longs : ∀ j, j < 10 → Cond.eq (.elem (.static "FallingBlocks" "LONG_KICKS" "[I") (.int (Int32.ofNat j))) (.int (mz_LONGS.getD j 0)) ∈ flatC (Jvm.Cond.and given_1 narrow_1) := by decide +kernel
theorem aw_points : ∀ j, j < 15 → Cond.eq (.elem (.static "FallingBlocks$Score" "POINTS" "[I") (.int (Int32.ofNat j))) (.int (mz_POINTS.getD j 0)) ∈ flatC (Jvm.Cond.and given_1 narrow_1) := by decide +kernel
theorem aw_ar : ∀ q, q < 4 → Cond.arrayOf (.static (mz_sc q) (mz_sn q) "[I") .int ∈ flatC (Jvm.Cond.and given_1 narrow_1) := by decide +kernel
theorem aw_len : ∀ q, q < 4 → Cond.eq (.length (.static (mz_sc q) (mz_sn q) "[I")) (.int (Int32.ofNat ([112, 18, 10, 15].getD q 0))) ∈ flatC (Jvm.Cond.and given_1 narrow_1) := by decide +kernel
theorem aw_lay : ∀ q, q < 4 → Cond.laysStatic (mz_sc q) (mz_sn q) "[I" ∈ lw_tbl ∧ Cond.initialized (mz_sc q) ∈ lw_tbl := by decide +kernel
theorem aw_str : ∀ q ∈ mz_str, Cond.stringRef RX11 q.1 q.2 ∈ lw_tbl ∧ Cond.exactly (.string RX11 q.1) "java/lang/String" ∈ flatC (Jvm.Cond.and given_1 narrow_1) := by decide +kernel
theorem aw_nc : ∀ q ∈ mz_nc, Cond.not (.castable q.1 q.2) ∈ flatC (Jvm.Cond.and given_1 narrow_1) := by decide +kernel
theorem aw_zq : (Cond.laysStatic Bundle.tN "UNASSIGNED_STACK" Bundle.steD ∈ lw_tbl ∧ Cond.laysStatic Bundle.tN "SUPPRESSED_SENTINEL" Bundle.listD ∈ lw_tbl ∧ Cond.initialized Bundle.tN ∈ lw_tbl) ∧ Cond.isRef (.static Bundle.tN "UNASSIGNED_STACK" Bundle.steD) ∈ flatC (Jvm.Cond.and given_1 narrow_1) ∧ Cond.isRef (.static Bundle.tN "SUPPRESSED_SENTINEL" Bundle.listD) ∈ flatC (Jvm.Cond.and given_1 narrow_1) := by decide +kernel
theorem aw_cls : ∀ q ∈ [(RX0, 3), (RX1, 5), (RX2, 1), (RX3, 5), (RX4, 9), (RX5, 4), (RX6, 5), (RX7, 7), (RX8, 4), (RX9, 11), (RX10, 11), (RX11, 3), (RX12, 26)], Cond.instantiable q.1 q.2 ∈ lw_tbl := by decide +kernel
theorem aw_arr : Cond.arrayClass .int ∈ lw_tbl ∧ Cond.arrayClass .long ∈ lw_tbl ∧ Cond.arrayClass .double ∈ lw_tbl ∧ Cond.arrayClass .boolean ∈ lw_tbl ∧ Cond.arrayClass .char ∈ lw_tbl ∧ Cond.arrayOver (.object "FallingBlocks$Game") ∈ lw_tbl := by decide +kernel
