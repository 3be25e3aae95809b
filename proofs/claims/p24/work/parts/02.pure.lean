/-! the classes whose objects the walk of far's calls needs, and the words that the heap's frame does not carry -/
abbrev fxCl : List vw_C := [(RX0, TX0, 1), (RX1, TX1, 9), (RX3, TX3, 2), (RX5, TX5, 8), (RX6, TX6, 3), (RX8, TX8, 2), (RX10, TX10, 4), (RJx4a65c, TJx4a65c, 3)]
theorem fx_gt {k n : Nat} (c : ¬ nI n < nI k) (hn : n < 2 ^ 31) (hk : k < 2 ^ 31) : k ≤ n := by
  rcases Nat.lt_or_ge n k with h | h
  · exact absurd ((nI_ltI hn hk).mpr h) c
  · exact h
theorem fx_ge {k n : Nat} (c : ¬ nI n ≤ nI k) (hn : n < 2 ^ 31) (hk : k < 2 ^ 31) : k < n := by
  rcases Nat.lt_or_ge k n with h | h
  · exact h
  · exact absurd ((nI_leI hn hk).mpr h) c
theorem fx_dec {k : Nat} (h : 0 < k) : nI k + Int32.ofInt (-1) = nI (k - 1) := by
  cases k with
  | zero => omega
  | succ j =>
    show nI (j + 1) + Int32.ofInt (-1) = nI j
    rw [← nI_pred j, Int32.sub_eq_add_neg]
    rfl
theorem fx_sub {k : Nat} (h : 0 < k) : nI k - 1 = nI (k - 1) := by
  cases k with
  | zero => omega
  | succ j => exact nI_pred j
theorem fx_lc {x y : Int64} (h : ¬ lg_cmp x y = 0) : ¬ x = y := fun e => h ((lg_cmp_eq x y).mpr e)
theorem fx_lt1 {x y : Int64} (h : lg_cmp x y = 0) : x = y := (lg_cmp_eq x y).mp h
theorem fx_bmod {z : Int} (h1 : -9223372036854775808 ≤ z) (h2 : z < 9223372036854775808) : z.bmod (2 ^ 64) = z := by
  rw [Int.bmod_def]
  split <;> omega
/-- the rest is nearer to 0 than the divisor -/
theorem fx_rem {a b : Int64} (hb : ¬ b = 0) : (a - a / b * b).toInt.natAbs < b.toInt.natAbs := by
  have h0 : ¬ b.toInt = 0 := fun e => hb (Int64.toInt_inj.mp (by rw [e]; rfl))
  have e1 : a - a / b * b = a % b := by
    apply Int64.toInt_inj.mp
    rw [Int64.toInt_sub, Int64.toInt_mul, Int64.toInt_div, Int64.toInt_mod]
    have h1 : a.toInt.tdiv b.toInt * b.toInt = a.toInt - a.toInt.tmod b.toInt := by
      have := Int.tmod_add_tdiv_mul a.toInt b.toInt
      omega
    rw [Int.bmod_mul_bmod, Int.sub_bmod_bmod, h1]
    rw [show a.toInt - (a.toInt - a.toInt.tmod b.toInt) = a.toInt.tmod b.toInt by omega]
    apply fx_bmod
    · have h3 := Int.natAbs_tmod a.toInt b.toInt
      have h4 := Nat.mod_lt a.toInt.natAbs (show b.toInt.natAbs > 0 by omega)
      have h5 := Int64.le_toInt b
      have h6 := Int64.toInt_lt b
      omega
    · have h3 := Int.natAbs_tmod a.toInt b.toInt
      have h4 := Nat.mod_lt a.toInt.natAbs (show b.toInt.natAbs > 0 by omega)
      have h5 := Int64.le_toInt b
      have h6 := Int64.toInt_lt b
      omega
  rw [e1, Int64.toInt_mod, Int.natAbs_tmod]
  exact Nat.mod_lt _ (by omega)
set_option maxHeartbeats 4000000 in
set_option maxRecDepth 100000 in
/-- X5_isWithin: 1 between the bounds -/
theorem c_X5_isWithin (l : Launch) (a b c0 : Int32) : Met l yX5_isWithin wsX5_isWithin ({ frames := 0, cells := 0, slots := 0, locals := 0 } : Room) (fun v _ => v = ([.int a, .int b, .int c0] : List Value).toArray) (vp_Si (fun r => b ≤ a → a ≤ c0 → r = 1)) 0 0 (fun _ => False) := by
  refine Met.ofW (cc := cX5_isWithin) (maxL := 3) (ret := (some .boolean)) (by decide) rfl ?_
  intro p e s m args below meth c s₁ B hml hv
  obtain rfl := hv
  have hx := B.exec
  have hb := B.bytes
  have hr := B.returns
  have hts := atoms_spec (ws := wsX5_isWithin) B.pre
  have hown : s.vm.findClass RX5 = some m.cls := findClass_of_methodNamed B.named
  have hlocks := B.notSynchronized
  have hl := lv_entry ([.int a, .int b, .int c0]) (n := 3) (Nat.le_of_ble_eq_true rfl)
  rw [lg_entry_eq]
  generalize (lg_sl ([.int a, .int b, .int c0]) ++ List.replicate (3 - (lg_sl ([.int a, .int b, .int c0])).length) Slot.unset).toArray = ls at hl ⊢
  have hl : lv_has ls 3 [(0, .int a), (1, .int b), (2, .int c0)] := hl
  refine lv_iload_n hx hb dX5_isWithin_0 rfl (lv_at hl 0 rfl) ?_
  refine lv_iload_n hx hb dX5_isWithin_1 rfl (lv_at hl 1 rfl) ?_
  refine lv_icmp_lt (tgt := 14) hx hb dX5_isWithin_2 (by decide) (fun c_1 => ?_) (fun c_1 => ?_)
  · skip
    refine lv_iconst (v := 0) hx hb dX5_isWithin_14 (by decide) ?_
    exact W.zret (v := 0) (ty := .boolean) hx hb hr (by decide +kernel) (fun t ht hW => ⟨0, rfl, fun h _ => absurd h (Int32.not_le.mpr c_1), ht⟩) (fun _ h => by cases h) dX5_isWithin_15
  · skip
    refine lv_iload_n hx hb dX5_isWithin_5 rfl (lv_at hl 0 rfl) ?_
    refine lv_iload_n hx hb dX5_isWithin_6 rfl (lv_at hl 2 rfl) ?_
    refine lv_icmp_gt (tgt := 14) hx hb dX5_isWithin_7 (by decide) (fun c_2 => ?_) (fun c_2 => ?_)
    · skip
      refine lv_iconst (v := 0) hx hb dX5_isWithin_14 (by decide) ?_
      exact W.zret (v := 0) (ty := .boolean) hx hb hr (by decide +kernel) (fun t ht hW => ⟨0, rfl, fun _ h => absurd h (Int32.not_le.mpr c_2), ht⟩) (fun _ h => by cases h) dX5_isWithin_15
    · skip
      refine lv_iconst (v := 1) hx hb dX5_isWithin_10 (by decide) ?_
      refine lv_goto (tgt := 15) hx hb dX5_isWithin_11 (by decide) ?_
      exact W.zret (v := 1) (ty := .boolean) hx hb hr (by decide +kernel) (fun t ht hW => ⟨1, rfl, fun _ _ => rfl, ht⟩) (fun _ h => by cases h) dX5_isWithin_15
set_option maxHeartbeats 4000000 in
set_option maxRecDepth 100000 in
/-- X10_in: 1 between the bounds -/
theorem c_X10_in (l : Launch) (a b c0 : Int32) : Met l yX10_in wsX10_in ({ frames := 0, cells := 0, slots := 0, locals := 0 } : Room) (fun v _ => v = ([.int a, .int b, .int c0] : List Value).toArray) (vp_Si (fun r => b ≤ a → a ≤ c0 → r = 1)) 0 0 (fun _ => False) := by
  refine Met.ofW (cc := cX10_in) (maxL := 3) (ret := (some .boolean)) (by decide) rfl ?_
  intro p e s m args below meth c s₁ B hml hv
  obtain rfl := hv
  have hx := B.exec
  have hb := B.bytes
  have hr := B.returns
  have hts := atoms_spec (ws := wsX10_in) B.pre
  have hown : s.vm.findClass RX10 = some m.cls := findClass_of_methodNamed B.named
  have hlocks := B.notSynchronized
  have hl := lv_entry ([.int a, .int b, .int c0]) (n := 3) (Nat.le_of_ble_eq_true rfl)
  rw [lg_entry_eq]
  generalize (lg_sl ([.int a, .int b, .int c0]) ++ List.replicate (3 - (lg_sl ([.int a, .int b, .int c0])).length) Slot.unset).toArray = ls at hl ⊢
  have hl : lv_has ls 3 [(0, .int a), (1, .int b), (2, .int c0)] := hl
  refine lv_iload_n hx hb dX10_in_0 rfl (lv_at hl 0 rfl) ?_
  refine lv_iload_n hx hb dX10_in_1 rfl (lv_at hl 1 rfl) ?_
  refine lv_icmp_lt (tgt := 14) hx hb dX10_in_2 (by decide) (fun c_1 => ?_) (fun c_1 => ?_)
  · skip
    refine lv_iconst (v := 0) hx hb dX10_in_14 (by decide) ?_
    exact W.zret (v := 0) (ty := .boolean) hx hb hr (by decide +kernel) (fun t ht hW => ⟨0, rfl, fun h _ => absurd h (Int32.not_le.mpr c_1), ht⟩) (fun _ h => by cases h) dX10_in_15
  · skip
    refine lv_iload_n hx hb dX10_in_5 rfl (lv_at hl 0 rfl) ?_
    refine lv_iload_n hx hb dX10_in_6 rfl (lv_at hl 2 rfl) ?_
    refine lv_icmp_gt (tgt := 14) hx hb dX10_in_7 (by decide) (fun c_2 => ?_) (fun c_2 => ?_)
    · skip
      refine lv_iconst (v := 0) hx hb dX10_in_14 (by decide) ?_
      exact W.zret (v := 0) (ty := .boolean) hx hb hr (by decide +kernel) (fun t ht hW => ⟨0, rfl, fun _ h => absurd h (Int32.not_le.mpr c_2), ht⟩) (fun _ h => by cases h) dX10_in_15
    · skip
      refine lv_iconst (v := 1) hx hb dX10_in_10 (by decide) ?_
      refine lv_goto (tgt := 15) hx hb dX10_in_11 (by decide) ?_
      exact W.zret (v := 1) (ty := .boolean) hx hb hr (by decide +kernel) (fun t ht hW => ⟨1, rfl, fun _ _ => rfl, ht⟩) (fun _ h => by cases h) dX10_in_15
set_option maxHeartbeats 4000000 in
set_option maxRecDepth 100000 in
/-- factorial(5) -/
theorem c_X5_factorial (l : Launch) : Met l yX5_factorial wsX5_factorial ({ frames := 0, cells := 0, slots := 0, locals := 0 } : Room) (fun v _ => v = ([.int 5] : List Value).toArray) (vp_Sl (fun r => r = 120)) 0 0 (fun _ => False) := by
  refine Met.ofW (cc := cX5_factorial) (maxL := 4) (ret := (some .long)) (by decide) rfl ?_
  intro p e s m args below meth c s₁ B hml hv
  obtain rfl := hv
  have hx := B.exec
  have hb := B.bytes
  have hr := B.returns
  have hts := atoms_spec (ws := wsX5_factorial) B.pre
  have hown : s.vm.findClass RX5 = some m.cls := findClass_of_methodNamed B.named
  have hlocks := B.notSynchronized
  have hl := lv_entry ([.int 5]) (n := 4) (Nat.le_of_ble_eq_true rfl)
  rw [lg_entry_eq]
  generalize (lg_sl ([.int 5]) ++ List.replicate (4 - (lg_sl ([.int 5])).length) Slot.unset).toArray = ls at hl ⊢
  have hl : lv_has ls 4 [(0, .int 5)] := hl
  refine lv_lconst (v := 1) hx hb dX5_factorial_0 (by decide) ?_
  refine lv_lstore_n (lv' := [(1, .long 1), (0, .int 5)]) hx hb dX5_factorial_1 rfl hl (by decide) rfl (fun ls hl => ?_)
  refine lv_iconst (v := 2) hx hb dX5_factorial_2 (by decide) ?_
  refine lv_istore_n (lv' := [(3, .int 2), (1, .long 1), (0, .int 5)]) hx hb dX5_factorial_3 rfl hl (by decide) rfl (fun ls hl => ?_)
  refine lv_iload_n hx hb dX5_factorial_4 rfl (lv_at hl 0 rfl) ?_
  refine lv_iload_n hx hb dX5_factorial_5 rfl (lv_at hl 2 rfl) ?_
  refine lv_icmp_gt (tgt := 20) hx hb dX5_factorial_6 (by decide) (fun c => absurd c (by decide)) (fun _ => ?_)
  refine lv_lload_n hx hb dX5_factorial_9 rfl (lv_at hl 1 rfl) ?_
  refine lv_iload_n hx hb dX5_factorial_10 rfl (lv_at hl 0 rfl) ?_
  refine lv_i2l (v := 2) hx hb dX5_factorial_11 (by decide) ?_
  refine lv_lmul hx hb dX5_factorial_12 ?_
  refine lv_topl (fun x_1 ex_1 => ?_)
  obtain rfl : x_1 = (2 : Int64) := ex_1.trans (by decide)
  refine lv_lstore_n (lv' := [(1, .long 2), (3, .int 2), (0, .int 5)]) hx hb dX5_factorial_13 rfl hl (by decide) rfl (fun ls hl => ?_)
  refine lv_iinc (v := 3) (lv' := [(3, .int 3), (1, .long 2), (0, .int 5)]) hx hb dX5_factorial_14 hl (k := 1) rfl (by decide) (by decide) rfl (fun ls hl => ?_)
  refine lv_goto (tgt := 4) hx hb dX5_factorial_17 (by decide) ?_
  refine lv_iload_n hx hb dX5_factorial_4 rfl (lv_at hl 0 rfl) ?_
  refine lv_iload_n hx hb dX5_factorial_5 rfl (lv_at hl 2 rfl) ?_
  refine lv_icmp_gt (tgt := 20) hx hb dX5_factorial_6 (by decide) (fun c => absurd c (by decide)) (fun _ => ?_)
  refine lv_lload_n hx hb dX5_factorial_9 rfl (lv_at hl 1 rfl) ?_
  refine lv_iload_n hx hb dX5_factorial_10 rfl (lv_at hl 0 rfl) ?_
  refine lv_i2l (v := 3) hx hb dX5_factorial_11 (by decide) ?_
  refine lv_lmul hx hb dX5_factorial_12 ?_
  refine lv_topl (fun x_2 ex_2 => ?_)
  obtain rfl : x_2 = (6 : Int64) := ex_2.trans (by decide)
  refine lv_lstore_n (lv' := [(1, .long 6), (3, .int 3), (0, .int 5)]) hx hb dX5_factorial_13 rfl hl (by decide) rfl (fun ls hl => ?_)
  refine lv_iinc (v := 4) (lv' := [(3, .int 4), (1, .long 6), (0, .int 5)]) hx hb dX5_factorial_14 hl (k := 1) rfl (by decide) (by decide) rfl (fun ls hl => ?_)
  refine lv_goto (tgt := 4) hx hb dX5_factorial_17 (by decide) ?_
  refine lv_iload_n hx hb dX5_factorial_4 rfl (lv_at hl 0 rfl) ?_
  refine lv_iload_n hx hb dX5_factorial_5 rfl (lv_at hl 2 rfl) ?_
  refine lv_icmp_gt (tgt := 20) hx hb dX5_factorial_6 (by decide) (fun c => absurd c (by decide)) (fun _ => ?_)
  refine lv_lload_n hx hb dX5_factorial_9 rfl (lv_at hl 1 rfl) ?_
  refine lv_iload_n hx hb dX5_factorial_10 rfl (lv_at hl 0 rfl) ?_
  refine lv_i2l (v := 4) hx hb dX5_factorial_11 (by decide) ?_
  refine lv_lmul hx hb dX5_factorial_12 ?_
  refine lv_topl (fun x_3 ex_3 => ?_)
  obtain rfl : x_3 = (24 : Int64) := ex_3.trans (by decide)
  refine lv_lstore_n (lv' := [(1, .long 24), (3, .int 4), (0, .int 5)]) hx hb dX5_factorial_13 rfl hl (by decide) rfl (fun ls hl => ?_)
  refine lv_iinc (v := 5) (lv' := [(3, .int 5), (1, .long 24), (0, .int 5)]) hx hb dX5_factorial_14 hl (k := 1) rfl (by decide) (by decide) rfl (fun ls hl => ?_)
  refine lv_goto (tgt := 4) hx hb dX5_factorial_17 (by decide) ?_
  refine lv_iload_n hx hb dX5_factorial_4 rfl (lv_at hl 0 rfl) ?_
  refine lv_iload_n hx hb dX5_factorial_5 rfl (lv_at hl 2 rfl) ?_
  refine lv_icmp_gt (tgt := 20) hx hb dX5_factorial_6 (by decide) (fun c => absurd c (by decide)) (fun _ => ?_)
  refine lv_lload_n hx hb dX5_factorial_9 rfl (lv_at hl 1 rfl) ?_
  refine lv_iload_n hx hb dX5_factorial_10 rfl (lv_at hl 0 rfl) ?_
  refine lv_i2l (v := 5) hx hb dX5_factorial_11 (by decide) ?_
  refine lv_lmul hx hb dX5_factorial_12 ?_
  refine lv_topl (fun x_4 ex_4 => ?_)
  obtain rfl : x_4 = (120 : Int64) := ex_4.trans (by decide)
  refine lv_lstore_n (lv' := [(1, .long 120), (3, .int 5), (0, .int 5)]) hx hb dX5_factorial_13 rfl hl (by decide) rfl (fun ls hl => ?_)
  refine lv_iinc (v := 6) (lv' := [(3, .int 6), (1, .long 120), (0, .int 5)]) hx hb dX5_factorial_14 hl (k := 1) rfl (by decide) (by decide) rfl (fun ls hl => ?_)
  refine lv_goto (tgt := 4) hx hb dX5_factorial_17 (by decide) ?_
  refine lv_iload_n hx hb dX5_factorial_4 rfl (lv_at hl 0 rfl) ?_
  refine lv_iload_n hx hb dX5_factorial_5 rfl (lv_at hl 2 rfl) ?_
  refine lv_icmp_gt (tgt := 20) hx hb dX5_factorial_6 (by decide) (fun _ => ?_) (fun c => absurd (by decide) c)
  refine lv_lload_n hx hb dX5_factorial_20 rfl (lv_at hl 1 rfl) ?_
  exact W.lret (v := 120) hx hb hr (fun t ht hW => ⟨120, rfl, rfl, ht⟩) (fun _ h => by cases h) dX5_factorial_21
set_option maxHeartbeats 4000000 in
set_option maxRecDepth 100000 in
/-- power(5, 7) -/
theorem c_X5_power (l : Launch) : Met l yX5_power wsX5_power ({ frames := 0, cells := 0, slots := 0, locals := 0 } : Room) (fun v _ => v = ([.int 5, .int 7] : List Value).toArray) (vp_Sl (fun r => r = 78125)) 0 0 (fun _ => False) := by
  refine Met.ofW (cc := cX5_power) (maxL := 5) (ret := (some .long)) (by decide) rfl ?_
  intro p e s m args below meth c s₁ B hml hv
  obtain rfl := hv
  have hx := B.exec
  have hb := B.bytes
  have hr := B.returns
  have hts := atoms_spec (ws := wsX5_power) B.pre
  have hown : s.vm.findClass RX5 = some m.cls := findClass_of_methodNamed B.named
  have hlocks := B.notSynchronized
  have hl := lv_entry ([.int 5, .int 7]) (n := 5) (Nat.le_of_ble_eq_true rfl)
  rw [lg_entry_eq]
  generalize (lg_sl ([.int 5, .int 7]) ++ List.replicate (5 - (lg_sl ([.int 5, .int 7])).length) Slot.unset).toArray = ls at hl ⊢
  have hl : lv_has ls 5 [(0, .int 5), (1, .int 7)] := hl
  refine lv_lconst (v := 1) hx hb dX5_power_0 (by decide) ?_
  refine lv_lstore_n (lv' := [(2, .long 1), (0, .int 5), (1, .int 7)]) hx hb dX5_power_1 rfl hl (by decide) rfl (fun ls hl => ?_)
  refine lv_iconst (v := 0) hx hb dX5_power_2 (by decide) ?_
  refine lv_istore (lv' := [(4, .int 0), (2, .long 1), (0, .int 5), (1, .int 7)]) hx hb dX5_power_3 hl (by decide) rfl (fun ls hl => ?_)
  refine lv_iload hx hb dX5_power_5 (lv_at hl 0 rfl) ?_
  refine lv_iload_n hx hb dX5_power_7 rfl (lv_at hl 3 rfl) ?_
  refine lv_icmp_ge (tgt := 22) hx hb dX5_power_8 (by decide) (fun c => absurd c (by decide)) (fun _ => ?_)
  refine lv_lload_n hx hb dX5_power_11 rfl (lv_at hl 1 rfl) ?_
  refine lv_iload_n hx hb dX5_power_12 rfl (lv_at hl 2 rfl) ?_
  refine lv_i2l (v := 5) hx hb dX5_power_13 (by decide) ?_
  refine lv_lmul hx hb dX5_power_14 ?_
  refine lv_topl (fun x_1 ex_1 => ?_)
  obtain rfl : x_1 = (5 : Int64) := ex_1.trans (by decide)
  refine lv_lstore_n (lv' := [(2, .long 5), (4, .int 0), (0, .int 5), (1, .int 7)]) hx hb dX5_power_15 rfl hl (by decide) rfl (fun ls hl => ?_)
  refine lv_iinc (v := 1) (lv' := [(4, .int 1), (2, .long 5), (0, .int 5), (1, .int 7)]) hx hb dX5_power_16 hl (k := 1) rfl (by decide) (by decide) rfl (fun ls hl => ?_)
  refine lv_goto (tgt := 5) hx hb dX5_power_19 (by decide) ?_
  refine lv_iload hx hb dX5_power_5 (lv_at hl 0 rfl) ?_
  refine lv_iload_n hx hb dX5_power_7 rfl (lv_at hl 3 rfl) ?_
  refine lv_icmp_ge (tgt := 22) hx hb dX5_power_8 (by decide) (fun c => absurd c (by decide)) (fun _ => ?_)
  refine lv_lload_n hx hb dX5_power_11 rfl (lv_at hl 1 rfl) ?_
  refine lv_iload_n hx hb dX5_power_12 rfl (lv_at hl 2 rfl) ?_
  refine lv_i2l (v := 5) hx hb dX5_power_13 (by decide) ?_
  refine lv_lmul hx hb dX5_power_14 ?_
  refine lv_topl (fun x_2 ex_2 => ?_)
  obtain rfl : x_2 = (25 : Int64) := ex_2.trans (by decide)
  refine lv_lstore_n (lv' := [(2, .long 25), (4, .int 1), (0, .int 5), (1, .int 7)]) hx hb dX5_power_15 rfl hl (by decide) rfl (fun ls hl => ?_)
  refine lv_iinc (v := 2) (lv' := [(4, .int 2), (2, .long 25), (0, .int 5), (1, .int 7)]) hx hb dX5_power_16 hl (k := 1) rfl (by decide) (by decide) rfl (fun ls hl => ?_)
  refine lv_goto (tgt := 5) hx hb dX5_power_19 (by decide) ?_
  refine lv_iload hx hb dX5_power_5 (lv_at hl 0 rfl) ?_
  refine lv_iload_n hx hb dX5_power_7 rfl (lv_at hl 3 rfl) ?_
  refine lv_icmp_ge (tgt := 22) hx hb dX5_power_8 (by decide) (fun c => absurd c (by decide)) (fun _ => ?_)
  refine lv_lload_n hx hb dX5_power_11 rfl (lv_at hl 1 rfl) ?_
  refine lv_iload_n hx hb dX5_power_12 rfl (lv_at hl 2 rfl) ?_
  refine lv_i2l (v := 5) hx hb dX5_power_13 (by decide) ?_
  refine lv_lmul hx hb dX5_power_14 ?_
  refine lv_topl (fun x_3 ex_3 => ?_)
  obtain rfl : x_3 = (125 : Int64) := ex_3.trans (by decide)
  refine lv_lstore_n (lv' := [(2, .long 125), (4, .int 2), (0, .int 5), (1, .int 7)]) hx hb dX5_power_15 rfl hl (by decide) rfl (fun ls hl => ?_)
  refine lv_iinc (v := 3) (lv' := [(4, .int 3), (2, .long 125), (0, .int 5), (1, .int 7)]) hx hb dX5_power_16 hl (k := 1) rfl (by decide) (by decide) rfl (fun ls hl => ?_)
  refine lv_goto (tgt := 5) hx hb dX5_power_19 (by decide) ?_
  refine lv_iload hx hb dX5_power_5 (lv_at hl 0 rfl) ?_
  refine lv_iload_n hx hb dX5_power_7 rfl (lv_at hl 3 rfl) ?_
  refine lv_icmp_ge (tgt := 22) hx hb dX5_power_8 (by decide) (fun c => absurd c (by decide)) (fun _ => ?_)
  refine lv_lload_n hx hb dX5_power_11 rfl (lv_at hl 1 rfl) ?_
  refine lv_iload_n hx hb dX5_power_12 rfl (lv_at hl 2 rfl) ?_
  refine lv_i2l (v := 5) hx hb dX5_power_13 (by decide) ?_
  refine lv_lmul hx hb dX5_power_14 ?_
  refine lv_topl (fun x_4 ex_4 => ?_)
  obtain rfl : x_4 = (625 : Int64) := ex_4.trans (by decide)
  refine lv_lstore_n (lv' := [(2, .long 625), (4, .int 3), (0, .int 5), (1, .int 7)]) hx hb dX5_power_15 rfl hl (by decide) rfl (fun ls hl => ?_)
  refine lv_iinc (v := 4) (lv' := [(4, .int 4), (2, .long 625), (0, .int 5), (1, .int 7)]) hx hb dX5_power_16 hl (k := 1) rfl (by decide) (by decide) rfl (fun ls hl => ?_)
  refine lv_goto (tgt := 5) hx hb dX5_power_19 (by decide) ?_
  refine lv_iload hx hb dX5_power_5 (lv_at hl 0 rfl) ?_
  refine lv_iload_n hx hb dX5_power_7 rfl (lv_at hl 3 rfl) ?_
  refine lv_icmp_ge (tgt := 22) hx hb dX5_power_8 (by decide) (fun c => absurd c (by decide)) (fun _ => ?_)
  refine lv_lload_n hx hb dX5_power_11 rfl (lv_at hl 1 rfl) ?_
  refine lv_iload_n hx hb dX5_power_12 rfl (lv_at hl 2 rfl) ?_
  refine lv_i2l (v := 5) hx hb dX5_power_13 (by decide) ?_
  refine lv_lmul hx hb dX5_power_14 ?_
  refine lv_topl (fun x_5 ex_5 => ?_)
  obtain rfl : x_5 = (3125 : Int64) := ex_5.trans (by decide)
  refine lv_lstore_n (lv' := [(2, .long 3125), (4, .int 4), (0, .int 5), (1, .int 7)]) hx hb dX5_power_15 rfl hl (by decide) rfl (fun ls hl => ?_)
  refine lv_iinc (v := 5) (lv' := [(4, .int 5), (2, .long 3125), (0, .int 5), (1, .int 7)]) hx hb dX5_power_16 hl (k := 1) rfl (by decide) (by decide) rfl (fun ls hl => ?_)
  refine lv_goto (tgt := 5) hx hb dX5_power_19 (by decide) ?_
  refine lv_iload hx hb dX5_power_5 (lv_at hl 0 rfl) ?_
  refine lv_iload_n hx hb dX5_power_7 rfl (lv_at hl 3 rfl) ?_
  refine lv_icmp_ge (tgt := 22) hx hb dX5_power_8 (by decide) (fun c => absurd c (by decide)) (fun _ => ?_)
  refine lv_lload_n hx hb dX5_power_11 rfl (lv_at hl 1 rfl) ?_
  refine lv_iload_n hx hb dX5_power_12 rfl (lv_at hl 2 rfl) ?_
  refine lv_i2l (v := 5) hx hb dX5_power_13 (by decide) ?_
  refine lv_lmul hx hb dX5_power_14 ?_
  refine lv_topl (fun x_6 ex_6 => ?_)
  obtain rfl : x_6 = (15625 : Int64) := ex_6.trans (by decide)
  refine lv_lstore_n (lv' := [(2, .long 15625), (4, .int 5), (0, .int 5), (1, .int 7)]) hx hb dX5_power_15 rfl hl (by decide) rfl (fun ls hl => ?_)
  refine lv_iinc (v := 6) (lv' := [(4, .int 6), (2, .long 15625), (0, .int 5), (1, .int 7)]) hx hb dX5_power_16 hl (k := 1) rfl (by decide) (by decide) rfl (fun ls hl => ?_)
  refine lv_goto (tgt := 5) hx hb dX5_power_19 (by decide) ?_
  refine lv_iload hx hb dX5_power_5 (lv_at hl 0 rfl) ?_
  refine lv_iload_n hx hb dX5_power_7 rfl (lv_at hl 3 rfl) ?_
  refine lv_icmp_ge (tgt := 22) hx hb dX5_power_8 (by decide) (fun c => absurd c (by decide)) (fun _ => ?_)
  refine lv_lload_n hx hb dX5_power_11 rfl (lv_at hl 1 rfl) ?_
  refine lv_iload_n hx hb dX5_power_12 rfl (lv_at hl 2 rfl) ?_
  refine lv_i2l (v := 5) hx hb dX5_power_13 (by decide) ?_
  refine lv_lmul hx hb dX5_power_14 ?_
  refine lv_topl (fun x_7 ex_7 => ?_)
  obtain rfl : x_7 = (78125 : Int64) := ex_7.trans (by decide)
  refine lv_lstore_n (lv' := [(2, .long 78125), (4, .int 6), (0, .int 5), (1, .int 7)]) hx hb dX5_power_15 rfl hl (by decide) rfl (fun ls hl => ?_)
  refine lv_iinc (v := 7) (lv' := [(4, .int 7), (2, .long 78125), (0, .int 5), (1, .int 7)]) hx hb dX5_power_16 hl (k := 1) rfl (by decide) (by decide) rfl (fun ls hl => ?_)
  refine lv_goto (tgt := 5) hx hb dX5_power_19 (by decide) ?_
  refine lv_iload hx hb dX5_power_5 (lv_at hl 0 rfl) ?_
  refine lv_iload_n hx hb dX5_power_7 rfl (lv_at hl 3 rfl) ?_
  refine lv_icmp_ge (tgt := 22) hx hb dX5_power_8 (by decide) (fun _ => ?_) (fun c => absurd (by decide) c)
  refine lv_lload_n hx hb dX5_power_22 rfl (lv_at hl 1 rfl) ?_
  exact W.lret (v := 78125) hx hb hr (fun t ht hW => ⟨78125, rfl, rfl, ht⟩) (fun _ h => by cases h) dX5_power_23
set_option maxHeartbeats 4000000 in
set_option maxRecDepth 100000 in
/-- ordersWithEnd(5, k) -/
theorem c_X0_ordersWithEnd (l : Launch) (k : Nat) (hk : k < 40) : Met l yX0_ordersWithEnd wsX0_ordersWithEnd ({ frames := 0, cells := 0, slots := 0, locals := 0 } : Room) (fun v _ => v = ([.int 5, .int (nI k)] : List Value).toArray) (vp_Sl (fun r => True)) 0 0 (fun _ => False) := by
  refine Met.ofW (cc := cX0_ordersWithEnd) (maxL := 5) (ret := (some .long)) (by decide) rfl ?_
  intro p e s m args below meth c s₁ B hml hv
  obtain rfl := hv
  have hx := B.exec
  have hb := B.bytes
  have hr := B.returns
  have hts := atoms_spec (ws := wsX0_ordersWithEnd) B.pre
  have hown : s.vm.findClass RX0 = some m.cls := findClass_of_methodNamed B.named
  have hlocks := B.notSynchronized
  have hl := lv_entry ([.int 5, .int (nI k)]) (n := 5) (Nat.le_of_ble_eq_true rfl)
  rw [lg_entry_eq]
  generalize (lg_sl ([.int 5, .int (nI k)]) ++ List.replicate (5 - (lg_sl ([.int 5, .int (nI k)])).length) Slot.unset).toArray = ls at hl ⊢
  have hl : lv_has ls 5 [(0, .int 5), (1, .int (nI k))] := hl
  have loop_16 : ∀ (n : Nat) (j : Nat) (x4 : Int32) (z : Int64) (ls : Array Slot), 100 - j < n → j < 50 ∧ x4 = nI j → lv_has ls 5 [(4, .int x4), (2, .long z), (0, .int 5), (1, .int (nI k))] → W p l e (headSpec wsX0_ordersWithEnd ({ frames := 0, cells := 0, slots := 0, locals := 0 } : Room)).room s m ([.int 5, .int (nI k)] : List Value).toArray below meth c s.heap [] 0 0 (MQ below (vp_Sl (fun r => True)) ([.int 5, .int (nI k)] : List Value).toArray s 0 0 (fun _ => False)) (F0 m 16 ls []) := by
    intro n
    induction n with
    | zero => intro j x4 z ls hn; exact absurd hn (Nat.not_lt_zero _)
    | succ n ih =>
      intro j x4 z ls hn hinv hl
      obtain ⟨hj, hj4⟩ := hinv
      refine lv_iload hx hb dX0_ordersWithEnd_16 (lv_at hl 0 rfl) ?_
      refine lv_iload_n hx hb dX0_ordersWithEnd_18 rfl (lv_at hl 2 rfl) ?_
      refine lv_icmp_gt (tgt := 34) hx hb dX0_ordersWithEnd_19 (by decide) (fun c_1 => ?_) (fun c_1 => ?_)
      · skip
        refine lv_lload_n hx hb dX0_ordersWithEnd_34 rfl (lv_at hl 1 rfl) ?_
        exact W.lret (v := z) hx hb hr (fun t ht hW => ⟨z, rfl, trivial, ht⟩) (fun _ h => by cases h) dX0_ordersWithEnd_35
      · skip
        refine lv_lload_n hx hb dX0_ordersWithEnd_22 rfl (lv_at hl 1 rfl) ?_
        refine lv_iload hx hb dX0_ordersWithEnd_23 (lv_at hl 0 rfl) ?_
        obtain ⟨x_2, ex_2⟩ : ∃ y : Int64, y = x4.toInt64 := ⟨_, rfl⟩
        refine lv_i2l (v := x_2) hx hb dX0_ordersWithEnd_25 ex_2.symm ?_
        refine lv_lmul hx hb dX0_ordersWithEnd_26 ?_
        refine lv_topl (fun x_3 ex_3 => ?_)
        refine lv_lstore_n (lv' := [(2, .long x_3), (4, .int x4), (0, .int 5), (1, .int (nI k))]) hx hb dX0_ordersWithEnd_27 rfl hl (by decide) rfl (fun ls hl => ?_)
        obtain ⟨x_4, ex_4⟩ : ∃ y : Int32, y = x4 + Int32.ofInt 1 := ⟨_, rfl⟩
        refine lv_iinc (v := x_4) (lv' := [(4, .int x_4), (2, .long x_3), (0, .int 5), (1, .int (nI k))]) hx hb dX0_ordersWithEnd_28 hl (k := 1) rfl ex_4.symm (by decide) rfl (fun ls hl => ?_)
        refine lv_goto (tgt := 16) hx hb dX0_ordersWithEnd_31 (by decide) ?_
        have hlt : j ≤ 5 := fx_gt (n := 5) (by rw [← hj4]; exact c_1) (by decide) (by omega)
        exact ih (j + 1) x_4 x_3 ls (by omega) ⟨by omega, by rw [ex_4, hj4]; exact nI_1 j⟩ (lv_sub hl [0, 1, 2, 3] rfl)
  refine lv_iload_n hx hb dX0_ordersWithEnd_0 rfl (lv_at hl 1 rfl) ?_
  refine lv_iload_n hx hb dX0_ordersWithEnd_1 rfl (lv_at hl 0 rfl) ?_
  refine lv_icmp_le (tgt := 9) hx hb dX0_ordersWithEnd_2 (by decide) (fun c_5 => ?_) (fun c_5 => ?_)
  · skip
    refine lv_lconst (v := 1) hx hb dX0_ordersWithEnd_9 (by decide) ?_
    refine lv_lstore_n (lv' := [(2, .long 1), (0, .int 5), (1, .int (nI k))]) hx hb dX0_ordersWithEnd_10 rfl hl (by decide) rfl (fun ls hl => ?_)
    refine lv_iload_n hx hb dX0_ordersWithEnd_11 rfl (lv_at hl 2 rfl) ?_
    refine lv_iconst (v := 1) hx hb dX0_ordersWithEnd_12 (by decide) ?_
    refine lv_iadd hx hb dX0_ordersWithEnd_13 ?_
    refine lv_topi (fun x_6 ex_6 => ?_)
    obtain rfl : x_6 = nI (k + 1) := ex_6.trans (nI_add k 1)
    refine lv_istore (lv' := [(4, .int (nI (k + 1))), (2, .long 1), (0, .int 5), (1, .int (nI k))]) hx hb dX0_ordersWithEnd_14 hl (by decide) rfl (fun ls hl => ?_)
    exact loop_16 101 (k + 1) (nI (k + 1)) 1 ls (by omega) ⟨by omega, rfl⟩ (lv_sub hl [0, 1, 2, 3] rfl)
  · skip
    refine lv_lconst (v := 0) hx hb dX0_ordersWithEnd_5 (by decide) ?_
    refine lv_goto (tgt := 10) hx hb dX0_ordersWithEnd_6 (by decide) ?_
    refine lv_lstore_n (lv' := [(2, .long 0), (0, .int 5), (1, .int (nI k))]) hx hb dX0_ordersWithEnd_10 rfl hl (by decide) rfl (fun ls hl => ?_)
    refine lv_iload_n hx hb dX0_ordersWithEnd_11 rfl (lv_at hl 2 rfl) ?_
    refine lv_iconst (v := 1) hx hb dX0_ordersWithEnd_12 (by decide) ?_
    refine lv_iadd hx hb dX0_ordersWithEnd_13 ?_
    refine lv_topi (fun x_7 ex_7 => ?_)
    obtain rfl : x_7 = nI (k + 1) := ex_7.trans (nI_add k 1)
    refine lv_istore (lv' := [(4, .int (nI (k + 1))), (2, .long 0), (0, .int 5), (1, .int (nI k))]) hx hb dX0_ordersWithEnd_14 hl (by decide) rfl (fun ls hl => ?_)
    exact loop_16 101 (k + 1) (nI (k + 1)) 0 ls (by omega) ⟨by omega, rfl⟩ (lv_sub hl [0, 1, 2, 3] rfl)
set_option maxHeartbeats 4000000 in
set_option maxRecDepth 100000 in
/-- sharedDivisor(a, b) -/
theorem c_X5_sharedDivisor (l : Launch) (a b : Int64) : Met l yX5_sharedDivisor wsX5_sharedDivisor ({ frames := 0, cells := 0, slots := 0, locals := 0 } : Room) (fun v _ => v = ([.long a, .long b] : List Value).toArray) (vp_Sl (fun r => True)) 0 0 (fun _ => False) := by
  refine Met.ofW (cc := cX5_sharedDivisor) (maxL := 11) (ret := (some .long)) (by decide) rfl ?_
  intro p e s m args below meth c s₁ B hml hv
  obtain rfl := hv
  have hx := B.exec
  have hb := B.bytes
  have hr := B.returns
  have hts := atoms_spec (ws := wsX5_sharedDivisor) B.pre
  have hown : s.vm.findClass RX5 = some m.cls := findClass_of_methodNamed B.named
  have hlocks := B.notSynchronized
  have hl := lv_entry ([.long a, .long b]) (n := 11) (Nat.le_of_ble_eq_true rfl)
  rw [lg_entry_eq]
  generalize (lg_sl ([.long a, .long b]) ++ List.replicate (11 - (lg_sl ([.long a, .long b])).length) Slot.unset).toArray = ls at hl ⊢
  have hl : lv_has ls 11 [(0, .long a), (2, .long b)] := hl
  have loop_9 : ∀ (n : Nat) (j : Nat) (x8 : Int32) (z6 z4 : Int64) (ls : Array Slot), 200 - j < n → j < 150 ∧ x8 = nI j → lv_has ls 11 [(8, .int x8), (6, .long z6), (4, .long z4)] → W p l e (headSpec wsX5_sharedDivisor ({ frames := 0, cells := 0, slots := 0, locals := 0 } : Room)).room s m ([.long a, .long b] : List Value).toArray below meth c s.heap [] 0 0 (MQ below (vp_Sl (fun r => True)) ([.long a, .long b] : List Value).toArray s 0 0 (fun _ => False)) (F0 m 9 ls []) := by
    intro n
    induction n with
    | zero => intro j x8 z6 z4 ls hn; exact absurd hn (Nat.not_lt_zero _)
    | succ n ih =>
      intro j x8 z6 z4 ls hn hinv hl
      obtain ⟨hj, hj8⟩ := hinv
      refine lv_iload hx hb dX5_sharedDivisor_9 (lv_at hl 0 rfl) ?_
      refine lv_bipush (v := 100) hx hb dX5_sharedDivisor_11 (by decide) ?_
      refine lv_icmp_ge (tgt := 44) hx hb dX5_sharedDivisor_13 (by decide) (fun c_1 => ?_) (fun c_1 => ?_)
      · skip
        refine lv_lload hx hb dX5_sharedDivisor_44 (lv_at hl 2 rfl) ?_
        exact W.lret (v := z4) hx hb hr (fun t ht hW => ⟨z4, rfl, trivial, ht⟩) (fun _ h => by cases h) dX5_sharedDivisor_46
      · skip
        refine lv_lload hx hb dX5_sharedDivisor_16 (lv_at hl 1 rfl) ?_
        refine lv_lconst (v := 0) hx hb dX5_sharedDivisor_18 (by decide) ?_
        refine W.lcmp hx hb dX5_sharedDivisor_19 ?_
        refine lv_if_eq (tgt := 44) hx hb dX5_sharedDivisor_20 (by decide) (fun c_2 => ?_) (fun c_2 => ?_)
        · skip
          refine lv_lload hx hb dX5_sharedDivisor_44 (lv_at hl 2 rfl) ?_
          exact W.lret (v := z4) hx hb hr (fun t ht hW => ⟨z4, rfl, trivial, ht⟩) (fun _ h => by cases h) dX5_sharedDivisor_46
        · skip
          refine lv_lload hx hb dX5_sharedDivisor_23 (lv_at hl 2 rfl) ?_
          refine lv_lload hx hb dX5_sharedDivisor_25 (lv_at hl 1 rfl) ?_
          refine lv_lrem hx hb dX5_sharedDivisor_27 (fun e9 => c_2 (by rw [e9]; decide)) ?_
          refine lv_topl (fun x_3 ex_3 => ?_)
          refine lv_lstore (lv' := [(9, .long x_3), (8, .int x8), (6, .long z6), (4, .long z4)]) hx hb dX5_sharedDivisor_28 hl (by decide) rfl (fun ls hl => ?_)
          refine lv_lload hx hb dX5_sharedDivisor_30 (lv_at hl 2 rfl) ?_
          refine lv_lstore (lv' := [(4, .long z6), (9, .long x_3), (8, .int x8), (6, .long z6)]) hx hb dX5_sharedDivisor_32 hl (by decide) rfl (fun ls hl => ?_)
          refine lv_lload hx hb dX5_sharedDivisor_34 (lv_at hl 1 rfl) ?_
          refine lv_lstore (lv' := [(6, .long x_3), (4, .long z6), (9, .long x_3), (8, .int x8)]) hx hb dX5_sharedDivisor_36 hl (by decide) rfl (fun ls hl => ?_)
          obtain ⟨x_4, ex_4⟩ : ∃ y : Int32, y = x8 + Int32.ofInt 1 := ⟨_, rfl⟩
          refine lv_iinc (v := x_4) (lv' := [(8, .int x_4), (6, .long x_3), (4, .long z6), (9, .long x_3)]) hx hb dX5_sharedDivisor_38 hl (k := 3) rfl ex_4.symm (by decide) rfl (fun ls hl => ?_)
          refine lv_goto (tgt := 9) hx hb dX5_sharedDivisor_41 (by decide) ?_
          have hlt : j < 100 := fx_ge (n := 100) (by rw [← hj8]; exact c_1) (by decide) (by omega)
          exact ih (j + 1) x_4 x_3 z6 ls (by omega) ⟨by omega, by rw [ex_4, hj8]; exact nI_1 j⟩ (lv_sub hl [0, 1, 2] rfl)
  refine lv_lload_n hx hb dX5_sharedDivisor_0 rfl (lv_at hl 0 rfl) ?_
  refine lv_lstore (lv' := [(4, .long a), (0, .long a), (2, .long b)]) hx hb dX5_sharedDivisor_1 hl (by decide) rfl (fun ls hl => ?_)
  refine lv_lload_n hx hb dX5_sharedDivisor_3 rfl (lv_at hl 2 rfl) ?_
  refine lv_lstore (lv' := [(6, .long b), (4, .long a), (0, .long a), (2, .long b)]) hx hb dX5_sharedDivisor_4 hl (by decide) rfl (fun ls hl => ?_)
  refine lv_iconst (v := 0) hx hb dX5_sharedDivisor_6 (by decide) ?_
  refine lv_istore (lv' := [(8, .int 0), (6, .long b), (4, .long a), (0, .long a), (2, .long b)]) hx hb dX5_sharedDivisor_7 hl (by decide) rfl (fun ls hl => ?_)
  exact loop_9 201 0 0 b a ls (by omega) ⟨by omega, rfl⟩ (lv_sub hl [0, 1, 2] rfl)
set_option maxHeartbeats 4000000 in
set_option maxRecDepth 100000 in
/-- common(a, b), by an invariant -/
theorem c_X10_common (l : Launch) (a b : Int64) (Inv : Int64 → Int64 → Prop) (Pr : Int64 → Prop) (h0 : Inv a b) (h1 : ∀ x y, Inv x y → ¬ y = 0 → Inv y (x - x / y * y)) (h2 : ∀ x, Inv x 0 → Pr x) : Met l yX10_common wsX10_common ({ frames := 0, cells := 0, slots := 0, locals := 0 } : Room) (fun v _ => v = ([.long a, .long b] : List Value).toArray) (vp_Sl (fun r => Pr r)) 0 0 (fun _ => False) := by
  refine Met.ofW (cc := cX10_common) (maxL := 10) (ret := (some .long)) (by decide) rfl ?_
  intro p e s m args below meth c s₁ B hml hv
  obtain rfl := hv
  have hx := B.exec
  have hb := B.bytes
  have hr := B.returns
  have hts := atoms_spec (ws := wsX10_common) B.pre
  have hown : s.vm.findClass RX10 = some m.cls := findClass_of_methodNamed B.named
  have hlocks := B.notSynchronized
  have hl := lv_entry ([.long a, .long b]) (n := 10) (Nat.le_of_ble_eq_true rfl)
  rw [lg_entry_eq]
  generalize (lg_sl ([.long a, .long b]) ++ List.replicate (10 - (lg_sl ([.long a, .long b])).length) Slot.unset).toArray = ls at hl ⊢
  have hl : lv_has ls 10 [(0, .long a), (2, .long b)] := hl
  have loop_6 : ∀ (n : Nat) (z6 z4 : Int64) (ls : Array Slot), z6.toInt.natAbs < n → Inv z4 z6 → lv_has ls 10 [(6, .long z6), (4, .long z4)] → W p l e (headSpec wsX10_common ({ frames := 0, cells := 0, slots := 0, locals := 0 } : Room)).room s m ([.long a, .long b] : List Value).toArray below meth c s.heap [] 0 0 (MQ below (vp_Sl (fun r => Pr r)) ([.long a, .long b] : List Value).toArray s 0 0 (fun _ => False)) (F0 m 6 ls []) := by
    intro n
    induction n with
    | zero => intro z6 z4 ls hn; exact absurd hn (Nat.not_lt_zero _)
    | succ n ih =>
      intro z6 z4 ls hn hinv hl
      refine lv_lload hx hb dX10_common_6 (lv_at hl 0 rfl) ?_
      refine lv_lconst (v := 0) hx hb dX10_common_8 (by decide) ?_
      refine W.lcmp hx hb dX10_common_9 ?_
      refine lv_if_eq (tgt := 31) hx hb dX10_common_10 (by decide) (fun c_1 => ?_) (fun c_1 => ?_)
      · skip
        refine lv_lload hx hb dX10_common_31 (lv_at hl 1 rfl) ?_
        have hz : z6 = 0 := fx_lt1 c_1
        exact W.lret (v := z4) hx hb hr (fun t ht hW => ⟨z4, rfl, h2 z4 (by rw [← hz]; exact hinv), ht⟩) (fun _ h => by cases h) dX10_common_33
      · skip
        refine lv_lload hx hb dX10_common_13 (lv_at hl 1 rfl) ?_
        refine lv_lload hx hb dX10_common_15 (lv_at hl 0 rfl) ?_
        have hne : ¬ z6 = 0 := fx_lc c_1
        refine lv_lrem hx hb dX10_common_17 hne ?_
        refine lv_topl (fun x_2 ex_2 => ?_)
        refine lv_lstore (lv' := [(8, .long x_2), (6, .long z6), (4, .long z4)]) hx hb dX10_common_18 hl (by decide) rfl (fun ls hl => ?_)
        refine lv_lload hx hb dX10_common_20 (lv_at hl 1 rfl) ?_
        refine lv_lstore (lv' := [(4, .long z6), (8, .long x_2), (6, .long z6)]) hx hb dX10_common_22 hl (by decide) rfl (fun ls hl => ?_)
        refine lv_lload hx hb dX10_common_24 (lv_at hl 1 rfl) ?_
        refine lv_lstore (lv' := [(6, .long x_2), (4, .long z6), (8, .long x_2)]) hx hb dX10_common_26 hl (by decide) rfl (fun ls hl => ?_)
        refine lv_goto (tgt := 6) hx hb dX10_common_28 (by decide) ?_
        exact ih x_2 z6 ls (by rw [ex_2]; have := fx_rem (a := z4) hne; omega) (by rw [ex_2]; exact h1 z4 z6 hinv hne) (lv_sub hl [0, 1] rfl)
  refine lv_lload_n hx hb dX10_common_0 rfl (lv_at hl 0 rfl) ?_
  refine lv_lstore (lv' := [(4, .long a), (0, .long a), (2, .long b)]) hx hb dX10_common_1 hl (by decide) rfl (fun ls hl => ?_)
  refine lv_lload_n hx hb dX10_common_3 rfl (lv_at hl 2 rfl) ?_
  refine lv_lstore (lv' := [(6, .long b), (4, .long a), (0, .long a), (2, .long b)]) hx hb dX10_common_4 hl (by decide) rfl (fun ls hl => ?_)
  exact loop_6 (b.toInt.natAbs + 1) b a ls (Nat.lt_succ_self _) h0 (lv_sub hl [0, 1] rfl)
set_option maxHeartbeats 4000000 in
set_option maxRecDepth 100000 in
/-- part(a, b, z) -/
theorem c_X5_part (l : Launch) (a b : Int64) (z : Int32) : Met l yX5_part wsX5_part ({ frames := 2, cells := 0, slots := 0, locals := 60 } : Room) (fun v _ => v = ([.long a, .long b, .int z] : List Value).toArray) (vp_Sl (fun r => True)) 0 0 (fun _ => False) := by
  refine Met.ofW (cc := cX5_part) (maxL := 9) (ret := (some .long)) (by decide) rfl ?_
  intro p e s m args below meth c s₁ B hml hv
  obtain rfl := hv
  have hx := B.exec
  have hb := B.bytes
  have hr := B.returns
  have hts := atoms_spec (ws := wsX5_part) B.pre
  have hown : s.vm.findClass RX5 = some m.cls := findClass_of_methodNamed B.named
  have hlocks := B.notSynchronized
  have hl := lv_entry ([.long a, .long b, .int z]) (n := 9) (Nat.le_of_ble_eq_true rfl)
  rw [lg_entry_eq]
  generalize (lg_sl ([.long a, .long b, .int z]) ++ List.replicate (9 - (lg_sl ([.long a, .long b, .int z])).length) Slot.unset).toArray = ls at hl ⊢
  have hl : lv_has ls 9 [(0, .long a), (2, .long b), (4, .int z)] := hl
  refine lv_lload_n hx hb dX5_part_0 rfl (lv_at hl 0 rfl) ?_
  refine va_mabs_long hx hb (hml.trans hl.1.symm) hown (hts (.methodLink RX5 358 Lib.MathLoose.abs_long.x) (by decide +kernel)) (hts (.static Lib.MathLoose.abs_long.x) (by decide +kernel)) (hts (.initialized "java/lang/Math") (by decide +kernel)) (hts (.code Lib.MathLoose.abs_long.x Lib.MathLoose.abs_long.code 2 (some .long)) (by decide +kernel)) (Nat.le_of_ble_eq_true rfl) (Nat.le_of_ble_eq_true rfl) (Nat.le_of_ble_eq_true rfl) (Nat.le_of_ble_eq_true rfl) dX5_part_1 ?_
  refine lv_topl (fun x_1 ex_1 => ?_)
  refine lv_lload_n hx hb dX5_part_4 rfl (lv_at hl 1 rfl) ?_
  refine va_mabs_long hx hb (hml.trans hl.1.symm) hown (hts (.methodLink RX5 358 Lib.MathLoose.abs_long.x) (by decide +kernel)) (hts (.static Lib.MathLoose.abs_long.x) (by decide +kernel)) (hts (.initialized "java/lang/Math") (by decide +kernel)) (hts (.code Lib.MathLoose.abs_long.x Lib.MathLoose.abs_long.code 2 (some .long)) (by decide +kernel)) (Nat.le_of_ble_eq_true rfl) (Nat.le_of_ble_eq_true rfl) (Nat.le_of_ble_eq_true rfl) (Nat.le_of_ble_eq_true rfl) dX5_part_5 ?_
  refine lv_topl (fun x_2 ex_2 => ?_)
  refine vp_callSl (W.runS (As := [.long x_1, .long x_2]) (rest := []) ⟨hx, hb, hml, hown, hts⟩ (c_X5_sharedDivisor l x_1 x_2) (va_cwS 2 hts gX5_part_X5_sharedDivisor rfl rfl rfl (by decide +kernel) ⟨Nat.le_of_ble_eq_true rfl, Nat.le_of_ble_eq_true rfl⟩) preEq rfl rfl hl.1 rfl (lv_room (Nat.le_of_ble_eq_true rfl)) dX5_part_8 ⟨Nat.le_of_ble_eq_true rfl, Nat.le_of_ble_eq_true rfl⟩) (fun r_3 hr_3 => ?_)
  refine lv_lstore (lv' := [(5, .long r_3), (0, .long a), (2, .long b), (4, .int z)]) hx hb dX5_part_11 hl (by decide) rfl (fun ls hl => ?_)
  refine lv_lload_n hx hb dX5_part_13 rfl (lv_at hl 2 rfl) ?_
  refine lv_lconst (v := 0) hx hb dX5_part_14 (by decide) ?_
  refine W.lcmp hx hb dX5_part_15 ?_
  refine lv_if_eq (tgt := 26) hx hb dX5_part_16 (by decide) (fun c_4 => ?_) (fun c_4 => ?_)
  · skip
    refine lv_iload hx hb dX5_part_26 (lv_at hl 3 rfl) ?_
    refine lv_if_eq (tgt := 35) hx hb dX5_part_28 (by decide) (fun c_5 => ?_) (fun c_5 => ?_)
    · skip
      refine lv_lconst (v := 0) hx hb dX5_part_35 (by decide) ?_
      exact W.lret (v := 0) hx hb hr (fun t ht hW => ⟨0, rfl, trivial, ht⟩) (fun _ h => by cases h) dX5_part_36
    · skip
      refine lv_lconst (v := 1) hx hb dX5_part_31 (by decide) ?_
      refine lv_goto (tgt := 36) hx hb dX5_part_32 (by decide) ?_
      exact W.lret (v := 1) hx hb hr (fun t ht hW => ⟨1, rfl, trivial, ht⟩) (fun _ h => by cases h) dX5_part_36
  · skip
    refine lv_lload hx hb dX5_part_19 (lv_at hl 0 rfl) ?_
    refine lv_lconst (v := 0) hx hb dX5_part_21 (by decide) ?_
    refine W.lcmp hx hb dX5_part_22 ?_
    refine lv_if_ne (tgt := 37) hx hb dX5_part_23 (by decide) (fun c_6 => ?_) (fun c_6 => ?_)
    · skip
      refine lv_iload hx hb dX5_part_37 (lv_at hl 3 rfl) ?_
      refine lv_if_eq (tgt := 46) hx hb dX5_part_39 (by decide) (fun c_7 => ?_) (fun c_7 => ?_)
      · skip
        refine lv_lload_n hx hb dX5_part_46 rfl (lv_at hl 1 rfl) ?_
        refine lv_lload hx hb dX5_part_47 (lv_at hl 0 rfl) ?_
        refine lv_ldiv hx hb dX5_part_49 (fx_lc c_6) ?_
        refine lv_topl (fun x_8 ex_8 => ?_)
        refine lv_lstore (lv' := [(7, .long x_8), (5, .long r_3), (0, .long a), (2, .long b), (4, .int z)]) hx hb dX5_part_50 hl (by decide) rfl (fun ls hl => ?_)
        refine lv_lload_n hx hb dX5_part_52 rfl (lv_at hl 3 rfl) ?_
        refine lv_lconst (v := 0) hx hb dX5_part_53 (by decide) ?_
        refine W.lcmp hx hb dX5_part_54 ?_
        refine lv_if_ge (tgt := 64) hx hb dX5_part_55 (by decide) (fun c_9 => ?_) (fun c_9 => ?_)
        · skip
          refine lv_lload hx hb dX5_part_64 (lv_at hl 0 rfl) ?_
          exact W.lret (v := x_8) hx hb hr (fun t ht hW => ⟨x_8, rfl, trivial, ht⟩) (fun _ h => by cases h) dX5_part_66
        · skip
          refine lv_lload hx hb dX5_part_58 (lv_at hl 0 rfl) ?_
          refine lv_lneg hx hb dX5_part_60 ?_
          refine lv_topl (fun x_10 ex_10 => ?_)
          refine lv_goto (tgt := 66) hx hb dX5_part_61 (by decide) ?_
          exact W.lret (v := x_10) hx hb hr (fun t ht hW => ⟨x_10, rfl, trivial, ht⟩) (fun _ h => by cases h) dX5_part_66
      · skip
        refine lv_lload_n hx hb dX5_part_42 rfl (lv_at hl 2 rfl) ?_
        refine lv_goto (tgt := 47) hx hb dX5_part_43 (by decide) ?_
        refine lv_lload hx hb dX5_part_47 (lv_at hl 0 rfl) ?_
        refine lv_ldiv hx hb dX5_part_49 (fx_lc c_6) ?_
        refine lv_topl (fun x_11 ex_11 => ?_)
        refine lv_lstore (lv' := [(7, .long x_11), (5, .long r_3), (0, .long a), (2, .long b), (4, .int z)]) hx hb dX5_part_50 hl (by decide) rfl (fun ls hl => ?_)
        refine lv_lload_n hx hb dX5_part_52 rfl (lv_at hl 3 rfl) ?_
        refine lv_lconst (v := 0) hx hb dX5_part_53 (by decide) ?_
        refine W.lcmp hx hb dX5_part_54 ?_
        refine lv_if_ge (tgt := 64) hx hb dX5_part_55 (by decide) (fun c_12 => ?_) (fun c_12 => ?_)
        · skip
          refine lv_lload hx hb dX5_part_64 (lv_at hl 0 rfl) ?_
          exact W.lret (v := x_11) hx hb hr (fun t ht hW => ⟨x_11, rfl, trivial, ht⟩) (fun _ h => by cases h) dX5_part_66
        · skip
          refine lv_lload hx hb dX5_part_58 (lv_at hl 0 rfl) ?_
          refine lv_lneg hx hb dX5_part_60 ?_
          refine lv_topl (fun x_13 ex_13 => ?_)
          refine lv_goto (tgt := 66) hx hb dX5_part_61 (by decide) ?_
          exact W.lret (v := x_13) hx hb hr (fun t ht hW => ⟨x_13, rfl, trivial, ht⟩) (fun _ h => by cases h) dX5_part_66
    · skip
      refine lv_iload hx hb dX5_part_26 (lv_at hl 3 rfl) ?_
      refine lv_if_eq (tgt := 35) hx hb dX5_part_28 (by decide) (fun c_14 => ?_) (fun c_14 => ?_)
      · skip
        refine lv_lconst (v := 0) hx hb dX5_part_35 (by decide) ?_
        exact W.lret (v := 0) hx hb hr (fun t ht hW => ⟨0, rfl, trivial, ht⟩) (fun _ h => by cases h) dX5_part_36
      · skip
        refine lv_lconst (v := 1) hx hb dX5_part_31 (by decide) ?_
        refine lv_goto (tgt := 36) hx hb dX5_part_32 (by decide) ?_
        exact W.lret (v := 1) hx hb hr (fun t ht hW => ⟨1, rfl, trivial, ht⟩) (fun _ h => by cases h) dX5_part_36
