/-! the callees' words among those of the tables -/
set_option maxRecDepth 20000 in
theorem fx_gX5_init : GoodIn lw_tbl (wsX5_init) := goodIn_p (wsX5_init) [84, 87, 96, 136, 149] (by decide +kernel) (by decide +kernel)
set_option maxRecDepth 20000 in
theorem fx_gX10_init : GoodIn lw_tbl (wsX10_init) := goodIn_p (wsX10_init) [1105, 87, 1111, 1114, 1117] (by decide +kernel) (by decide +kernel)
set_option maxRecDepth 20000 in
theorem fx_gX6_init : GoodIn lw_tbl (wsX6_init) := goodIn_p (wsX6_init) [480, 87] (by decide +kernel) (by decide +kernel)
set_option maxRecDepth 20000 in
theorem fx_gL_far : GoodIn lw_tbl (va_wsS RL 205 yL_far wsL_far) := by
  have hE : GoodIn lw_tbl ((vx_atS RX5 50 "java/lang/IllegalArgumentException" ["java/lang/RuntimeException", "java/lang/Exception"]).filter goodWord) := goodIn_sub (by decide +kernel) (by decide +kernel)
  have h1 : GoodIn lw_tbl (([.methodLink RL 205 yL_far, .static yL_far, .initialized yL_far.cls] : List Cond) ++ (.codeWith yL_far cL_far 6 (some .int) [(0, 12, 15, 19)] :: ((wsL_far_r1 ++ wsL_far_r2) ++ wsX60 ++ wsX50 ++ wsX00))) := goodIn_p _ [773, 313, 777, 384, 781, 341, 358, 787, 390, 790, 387, 393] (by decide +kernel) (by decide +kernel)
  have e : va_wsS RL 205 yL_far wsL_far = (([.methodLink RL 205 yL_far, .static yL_far, .initialized yL_far.cls] : List Cond) ++ (.codeWith yL_far cL_far 6 (some .int) [(0, 12, 15, 19)] :: ((wsL_far_r1 ++ wsL_far_r2) ++ wsX60 ++ wsX50 ++ wsX00))) ++ (vx_atS RX5 50 "java/lang/IllegalArgumentException" ["java/lang/RuntimeException", "java/lang/Exception"]).filter goodWord := by
    show ([.methodLink RL 205 yL_far, .static yL_far, .initialized yL_far.cls] : List Cond) ++ (.codeWith yL_far cL_far 6 (some .int) [(0, 12, 15, 19)] :: (((wsL_far_r1 ++ wsL_far_r2) ++ wsX60 ++ wsX50 ++ wsX00) ++ (vx_atS RX5 50 "java/lang/IllegalArgumentException" ["java/lang/RuntimeException", "java/lang/Exception"]).filter goodWord)) = _
    rw [← List.cons_append, ← List.append_assoc]
  rw [e]
  exact goodIn_app h1 hE
set_option maxRecDepth 20000 in
theorem fx_gX10_far : GoodIn lw_tbl (wsV RL 207 RX10 yX10_far wsX10_far) := goodIn_p (wsV RL 207 RX10 yX10_far wsX10_far) [1562, 463, 1156, 1160, 1565, 1350, 87, 1364, 390, 1367, 1379] (by decide +kernel) (by decide +kernel)
set_option maxRecDepth 20000 in
theorem fx_iX0 : ∀ w ∈ wsX00, w ∈ lw_tbl := by decide +kernel
set_option maxRecDepth 20000 in
theorem fx_iX1 : ∀ w ∈ wsX10, w ∈ lw_tbl := by decide +kernel
set_option maxRecDepth 20000 in
theorem fx_iX3 : ∀ w ∈ wsX30, w ∈ lw_tbl := by decide +kernel
set_option maxRecDepth 20000 in
theorem fx_iX5 : ∀ w ∈ wsX50, w ∈ lw_tbl := by decide +kernel
set_option maxRecDepth 20000 in
theorem fx_iX6 : ∀ w ∈ wsX60, w ∈ lw_tbl := by decide +kernel
set_option maxRecDepth 20000 in
theorem fx_iX8 : ∀ w ∈ wsX80, w ∈ lw_tbl := by decide +kernel
set_option maxRecDepth 20000 in
theorem fx_iX10 : ∀ w ∈ wsX100, w ∈ lw_tbl := by decide +kernel
set_option maxRecDepth 20000 in
theorem fx_iJx4a65c : ∀ w ∈ wsJx4a65c0, w ∈ lw_tbl := by decide +kernel
set_option maxRecDepth 20000 in
theorem fx_nwof {args : Array Value} {s : State} (hts : ∀ w ∈ lw_tbl, w.before args s = true) : fx_nw s := ⟨va_Nw.of rfl (hts (.methodLinkNest RX5 23 yX1_init RX5) (by decide +kernel)), va_Nw.of rfl (hts (.methodLinkNest RX5 30 yX3_init RX5) (by decide +kernel)), va_Nw.of rfl (hts (.methodLinkNest RX5 37 yX0_init RX5) (by decide +kernel)), va_Nw.of rfl (hts (.methodLinkNest RX5 251 yX0_shuffle RX5) (by decide +kernel)), va_Nw.of rfl (hts (.methodLinkNest RX5 255 yX0_sumOfDifferences RX5) (by decide +kernel)), va_Nw.of rfl (hts (.methodLinkNest RX0 15 yX5_put_ RX5) (by decide +kernel)), va_Nw.of rfl (hts (.methodLinkNest RX0 19 yX5_at_ RX5) (by decide +kernel)), va_Nw.of rfl (hts (.methodLinkNest RX10 113 yX8_init RX10) (by decide +kernel)), va_Nw.of rfl (hts (.methodLinkNest RX8 16 yX10_common RX10) (by decide +kernel)), va_Nw.of rfl (hts (.methodLinkNest RL 132 yX6_init RL) (by decide +kernel)), va_Nw.of rfl (hts (.fieldLinkNest RL 13 RX6 "n" "J" RL) (by decide +kernel)), va_AO.of (hts (.arrayOver (.object RX4)) (by decide +kernel)), va_AO.of (hts (.arrayOver (.object RX2)) (by decide +kernel))⟩
set_option maxRecDepth 20000 in
theorem fx_Zof {args : Array Value} {s : State} (hts : ∀ w ∈ lw_tbl, w.before args s = true) (hgv : (Jvm.Cond.and given_1 narrow_1).before args s = true) : va_Zq "java/util/ArrayList" "DEFAULTCAPACITY_EMPTY_ELEMENTDATA" "[Ljava/lang/Object;" (fun q : Nat => s.heap.size ≤ q) s s.heap :=
  va_Zqof (hts (.laysStatic "java/util/ArrayList" "DEFAULTCAPACITY_EMPTY_ELEMENTDATA" "[Ljava/lang/Object;") (by decide +kernel)) (hts (.initialized "java/util/ArrayList") (by decide +kernel)) (flat_of_before _ hgv (.isRef (.static "java/util/ArrayList" "DEFAULTCAPACITY_EMPTY_ELEMENTDATA" "[Ljava/lang/Object;")) (by decide +kernel)) (fun _ h => Nat.not_le.mpr h)
