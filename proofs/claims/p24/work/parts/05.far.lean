set_option maxHeartbeats 4000000 in
set_option maxRecDepth 100000 in
/-- far(5, 7, z) of the reference: eight rows of 3125 longs -/
theorem c_X10_far (l : Launch) (dC : Nat → ClassId) (dI : Nat → Nat → Nat) (h0 u1 u2 : Nat) (th kn z : Int32) (sz : Nat) : Met l yX10_far wsX10_far ({ frames := 3, cells := 9, slots := 25002, locals := 200 } : Room) (va_Pc [.ref h0, .int 5, .int 7, .int z] (fx_st dC dI [(h0, .inr (6, [.int th, .int kn, .ref u1, .ref u2]))] [] sz)) (va_Ql (fun (_ : Int64) (_ : Unit) => True) (fun _ t => ∃ L8 : List Nat, L8.length = 8 ∧ fx_big sz t.heap L8 ∧ fx_en dC dI (va_A [(h0, .inr (6, [.int th, .int kn, .ref u1, .ref u2]))] sz) [(h0, .inr (6, [.int 0, .int kn, .ref u1, .ref u2]))] [] t) (va_A [(h0, .inr (6, [.int th, .int kn, .ref u1, .ref u2]))] sz)) 9 25002 (va_A [(h0, .inr (6, [.int th, .int kn, .ref u1, .ref u2]))] sz) := by
  refine Met.ofW (cc := cX10_far) (maxL := 18) (ret := (some .long)) (by decide) rfl ?_
  intro p e s m args below meth c s₁ B hml hv
  obtain ⟨rfl, hsz, hP, hK, hD0, hnw⟩ := hv
  have hx := B.exec
  have hb := B.bytes
  have hr := B.returns
  have hts := atoms_spec (ws := wsX10_far) B.pre
  have hown : s.vm.findClass RX10 = some m.cls := findClass_of_methodNamed B.named
  have hlocks := B.notSynchronized
  subst hsz
  have hD := hD0.self (sz := s.heap.size)
  generalize hAe : va_A [(h0, .inr (6, [.int th, .int kn, .ref u1, .ref u2]))] s.heap.size = A at hD ⊢
  have hA : ∀ q : Nat, s.heap.size ≤ q → A q := fun q h => by rw [← hAe]; exact Or.inr h
  obtain ⟨H, hHe⟩ : ∃ H, H = s.heap := ⟨_, rfl⟩
  have hS : va_S A s.heap H [] := by rw [hHe]; exact va_S.rf
  have hP : va_P (dC, dI) fxCl [(h0, .inr (6, [.int th, .int kn, .ref u1, .ref u2]))] H := by rw [hHe]; exact hP
  refine fx_h hHe ?_
  have hl := lv_entry ([.ref h0, .int 5, .int 7, .int z]) (n := 18) (Nat.le_of_ble_eq_true rfl)
  rw [lg_entry_eq]
  generalize (lg_sl ([.ref h0, .int 5, .int 7, .int z]) ++ List.replicate (18 - (lg_sl ([.ref h0, .int 5, .int 7, .int z])).length) Slot.unset).toArray = ls at hl ⊢
  have hl : lv_has ls 18 [(0, .ref h0), (1, .int 5), (2, .int 7), (3, .int z)] := hl
  refine lv_aload_n hx hb dX10_far_0 rfl (lv_at hl 0 rfl) ?_
  refine lv_iconst (v := 0) hx hb dX10_far_1 (by decide) ?_
  refine va_put (D := (dC, dI)) (ci := 6) (v := .int 0) (ty := .int) (C := RX10) (T := TX10) (N := 4) hx hb hts (by decide +kernel) tyX10 tyX10_ok nmX10 hown hK hP hD hS 0 rfl rfl 0 (by decide) (hts (.fieldLink RX10 19 "UrnwrightModel" "thrown" "I") (by decide +kernel)) (fun _ h9 => h9) rfl (by decide +kernel) rfl rfl (Nat.le_of_ble_eq_true rfl) dX10_far_2 (fun H locs hP hD hS => ?_)
  have hP : va_P (dC, dI) fxCl [(h0, .inr (6, [.int 0, .int kn, .ref u1, .ref u2]))] H := hP
  have hD : va_D A [(h0, .inr (6, [.int 0, .int kn, .ref u1, .ref u2]))] := hD
  refine lv_iload_n hx hb dX10_far_5 rfl (lv_at hl 1 rfl) ?_
  refine lv_iconst (v := 1) hx hb dX10_far_6 (by decide) ?_
  refine lv_iconst (v := 5) hx hb dX10_far_7 (by decide) ?_
  refine vp_callSi (W.runS (As := [.int 5, .int 1, .int 5]) (rest := []) ⟨hx, hb, hml, hown, hts⟩ (c_X10_in l 5 1 5) (va_cwS 3 hts gX10_far_X10_in rfl rfl rfl (by decide +kernel) ⟨Nat.le_of_ble_eq_true rfl, Nat.le_of_ble_eq_true rfl⟩) preEq rfl rfl hl.1 rfl (lv_room (Nat.le_of_ble_eq_true rfl)) dX10_far_8 ⟨Nat.le_of_ble_eq_true rfl, Nat.le_of_ble_eq_true rfl⟩) (fun r_1 hr_1 => ?_)
  obtain rfl : r_1 = (1 : Int32) := hr_1 (by decide) (by decide)
  refine lv_if_eq (tgt := 24) hx hb dX10_far_11 (by decide) (fun c => absurd c (by decide)) (fun _ => ?_)
  refine lv_iload_n hx hb dX10_far_14 rfl (lv_at hl 2 rfl) ?_
  refine lv_iconst (v := 0) hx hb dX10_far_15 (by decide) ?_
  refine lv_bipush (v := 7) hx hb dX10_far_16 (by decide) ?_
  refine vp_callSi (W.runS (As := [.int 7, .int 0, .int 7]) (rest := []) ⟨hx, hb, hml, hown, hts⟩ (c_X10_in l 7 0 7) (va_cwS 3 hts gX10_far_X10_in rfl rfl rfl (by decide +kernel) ⟨Nat.le_of_ble_eq_true rfl, Nat.le_of_ble_eq_true rfl⟩) preEq rfl rfl hl.1 rfl (lv_room (Nat.le_of_ble_eq_true rfl)) dX10_far_18 ⟨Nat.le_of_ble_eq_true rfl, Nat.le_of_ble_eq_true rfl⟩) (fun r_2 hr_2 => ?_)
  obtain rfl : r_2 = (1 : Int32) := hr_2 (by decide) (by decide)
  refine lv_if_ne (tgt := 31) hx hb dX10_far_21 (by decide) (fun _ => ?_) (fun c => absurd c (by decide))
  refine lv_iconst (v := 1) hx hb dX10_far_31 (by decide) ?_
  refine lv_istore (lv' := [(4, .int 1), (0, .ref h0), (1, .int 5), (2, .int 7), (3, .int z)]) hx hb dX10_far_32 hl (by decide) rfl (fun ls hl => ?_)
  refine lv_iconst (v := 0) hx hb dX10_far_34 (by decide) ?_
  refine lv_istore (lv' := [(5, .int 0), (4, .int 1), (0, .ref h0), (1, .int 5), (2, .int 7), (3, .int z)]) hx hb dX10_far_35 hl (by decide) rfl (fun ls hl => ?_)
  refine lv_lconst (v := 1) hx hb dX10_far_37 (by decide) ?_
  refine lv_lstore (lv' := [(6, .long 1), (5, .int 0), (4, .int 1), (0, .ref h0), (1, .int 5), (2, .int 7), (3, .int z)]) hx hb dX10_far_38 hl (by decide) rfl (fun ls hl => ?_)
  refine lv_iconst (v := 0) hx hb dX10_far_40 (by decide) ?_
  refine lv_istore (lv' := [(8, .int 0), (6, .long 1), (5, .int 0), (4, .int 1), (0, .ref h0), (1, .int 5), (2, .int 7), (3, .int z)]) hx hb dX10_far_41 hl (by decide) rfl (fun ls hl => ?_)
  refine lv_iload hx hb dX10_far_43 (lv_at hl 0 rfl) ?_
  refine lv_iload_n hx hb dX10_far_45 rfl (lv_at hl 5 rfl) ?_
  refine lv_icmp_ge (tgt := 81) hx hb dX10_far_46 (by decide) (fun c => absurd c (by decide)) (fun _ => ?_)
  refine lv_iload hx hb dX10_far_49 (lv_at hl 2 rfl) ?_
  refine lv_iload hx hb dX10_far_51 (lv_at hl 0 rfl) ?_
  refine lv_iload hx hb dX10_far_53 (lv_at hl 3 rfl) ?_
  refine lv_imul hx hb dX10_far_55 ?_
  refine lv_topi (fun x_3 ex_3 => ?_)
  obtain rfl : x_3 = (0 : Int32) := ex_3.trans (by decide)
  refine lv_iadd hx hb dX10_far_56 ?_
  refine lv_topi (fun x_4 ex_4 => ?_)
  obtain rfl : x_4 = (0 : Int32) := ex_4.trans (by decide)
  refine lv_istore (lv' := [(5, .int 0), (8, .int 0), (6, .long 1), (4, .int 1), (0, .ref h0), (1, .int 5), (2, .int 7), (3, .int z)]) hx hb dX10_far_57 hl (by decide) rfl (fun ls hl => ?_)
  refine lv_iload hx hb dX10_far_59 (lv_at hl 3 rfl) ?_
  refine lv_iload_n hx hb dX10_far_61 rfl (lv_at hl 5 rfl) ?_
  refine lv_imul hx hb dX10_far_62 ?_
  refine lv_topi (fun x_5 ex_5 => ?_)
  obtain rfl : x_5 = (5 : Int32) := ex_5.trans (by decide)
  refine lv_istore (lv' := [(4, .int 5), (5, .int 0), (8, .int 0), (6, .long 1), (0, .ref h0), (1, .int 5), (2, .int 7), (3, .int z)]) hx hb dX10_far_63 hl (by decide) rfl (fun ls hl => ?_)
  refine lv_lload hx hb dX10_far_65 (lv_at hl 3 rfl) ?_
  refine lv_iload hx hb dX10_far_67 (lv_at hl 2 rfl) ?_
  refine lv_iconst (v := 1) hx hb dX10_far_69 (by decide) ?_
  refine lv_iadd hx hb dX10_far_70 ?_
  refine lv_topi (fun x_6 ex_6 => ?_)
  obtain rfl : x_6 = (1 : Int32) := ex_6.trans (by decide)
  refine lv_i2l (v := 1) hx hb dX10_far_71 (by decide) ?_
  refine lv_lmul hx hb dX10_far_72 ?_
  refine lv_topl (fun x_7 ex_7 => ?_)
  obtain rfl : x_7 = (1 : Int64) := ex_7.trans (by decide)
  refine lv_lstore (lv' := [(6, .long 1), (4, .int 5), (5, .int 0), (8, .int 0), (0, .ref h0), (1, .int 5), (2, .int 7), (3, .int z)]) hx hb dX10_far_73 hl (by decide) rfl (fun ls hl => ?_)
  refine lv_iinc (v := 1) (lv' := [(8, .int 1), (6, .long 1), (4, .int 5), (5, .int 0), (0, .ref h0), (1, .int 5), (2, .int 7), (3, .int z)]) hx hb dX10_far_75 hl (k := 3) rfl (by decide) (by decide) rfl (fun ls hl => ?_)
  refine lv_goto (tgt := 43) hx hb dX10_far_78 (by decide) ?_
  refine lv_iload hx hb dX10_far_43 (lv_at hl 0 rfl) ?_
  refine lv_iload_n hx hb dX10_far_45 rfl (lv_at hl 5 rfl) ?_
  refine lv_icmp_ge (tgt := 81) hx hb dX10_far_46 (by decide) (fun c => absurd c (by decide)) (fun _ => ?_)
  refine lv_iload hx hb dX10_far_49 (lv_at hl 3 rfl) ?_
  refine lv_iload hx hb dX10_far_51 (lv_at hl 0 rfl) ?_
  refine lv_iload hx hb dX10_far_53 (lv_at hl 2 rfl) ?_
  refine lv_imul hx hb dX10_far_55 ?_
  refine lv_topi (fun x_8 ex_8 => ?_)
  obtain rfl : x_8 = (5 : Int32) := ex_8.trans (by decide)
  refine lv_iadd hx hb dX10_far_56 ?_
  refine lv_topi (fun x_9 ex_9 => ?_)
  obtain rfl : x_9 = (5 : Int32) := ex_9.trans (by decide)
  refine lv_istore (lv' := [(5, .int 5), (8, .int 1), (6, .long 1), (4, .int 5), (0, .ref h0), (1, .int 5), (2, .int 7), (3, .int z)]) hx hb dX10_far_57 hl (by decide) rfl (fun ls hl => ?_)
  refine lv_iload hx hb dX10_far_59 (lv_at hl 3 rfl) ?_
  refine lv_iload_n hx hb dX10_far_61 rfl (lv_at hl 5 rfl) ?_
  refine lv_imul hx hb dX10_far_62 ?_
  refine lv_topi (fun x_10 ex_10 => ?_)
  obtain rfl : x_10 = (25 : Int32) := ex_10.trans (by decide)
  refine lv_istore (lv' := [(4, .int 25), (5, .int 5), (8, .int 1), (6, .long 1), (0, .ref h0), (1, .int 5), (2, .int 7), (3, .int z)]) hx hb dX10_far_63 hl (by decide) rfl (fun ls hl => ?_)
  refine lv_lload hx hb dX10_far_65 (lv_at hl 3 rfl) ?_
  refine lv_iload hx hb dX10_far_67 (lv_at hl 2 rfl) ?_
  refine lv_iconst (v := 1) hx hb dX10_far_69 (by decide) ?_
  refine lv_iadd hx hb dX10_far_70 ?_
  refine lv_topi (fun x_11 ex_11 => ?_)
  obtain rfl : x_11 = (2 : Int32) := ex_11.trans (by decide)
  refine lv_i2l (v := 2) hx hb dX10_far_71 (by decide) ?_
  refine lv_lmul hx hb dX10_far_72 ?_
  refine lv_topl (fun x_12 ex_12 => ?_)
  obtain rfl : x_12 = (2 : Int64) := ex_12.trans (by decide)
  refine lv_lstore (lv' := [(6, .long 2), (4, .int 25), (5, .int 5), (8, .int 1), (0, .ref h0), (1, .int 5), (2, .int 7), (3, .int z)]) hx hb dX10_far_73 hl (by decide) rfl (fun ls hl => ?_)
  refine lv_iinc (v := 2) (lv' := [(8, .int 2), (6, .long 2), (4, .int 25), (5, .int 5), (0, .ref h0), (1, .int 5), (2, .int 7), (3, .int z)]) hx hb dX10_far_75 hl (k := 3) rfl (by decide) (by decide) rfl (fun ls hl => ?_)
  refine lv_goto (tgt := 43) hx hb dX10_far_78 (by decide) ?_
  refine lv_iload hx hb dX10_far_43 (lv_at hl 0 rfl) ?_
  refine lv_iload_n hx hb dX10_far_45 rfl (lv_at hl 5 rfl) ?_
  refine lv_icmp_ge (tgt := 81) hx hb dX10_far_46 (by decide) (fun c => absurd c (by decide)) (fun _ => ?_)
  refine lv_iload hx hb dX10_far_49 (lv_at hl 3 rfl) ?_
  refine lv_iload hx hb dX10_far_51 (lv_at hl 0 rfl) ?_
  refine lv_iload hx hb dX10_far_53 (lv_at hl 2 rfl) ?_
  refine lv_imul hx hb dX10_far_55 ?_
  refine lv_topi (fun x_13 ex_13 => ?_)
  obtain rfl : x_13 = (50 : Int32) := ex_13.trans (by decide)
  refine lv_iadd hx hb dX10_far_56 ?_
  refine lv_topi (fun x_14 ex_14 => ?_)
  obtain rfl : x_14 = (55 : Int32) := ex_14.trans (by decide)
  refine lv_istore (lv' := [(5, .int 55), (8, .int 2), (6, .long 2), (4, .int 25), (0, .ref h0), (1, .int 5), (2, .int 7), (3, .int z)]) hx hb dX10_far_57 hl (by decide) rfl (fun ls hl => ?_)
  refine lv_iload hx hb dX10_far_59 (lv_at hl 3 rfl) ?_
  refine lv_iload_n hx hb dX10_far_61 rfl (lv_at hl 5 rfl) ?_
  refine lv_imul hx hb dX10_far_62 ?_
  refine lv_topi (fun x_15 ex_15 => ?_)
  obtain rfl : x_15 = (125 : Int32) := ex_15.trans (by decide)
  refine lv_istore (lv' := [(4, .int 125), (5, .int 55), (8, .int 2), (6, .long 2), (0, .ref h0), (1, .int 5), (2, .int 7), (3, .int z)]) hx hb dX10_far_63 hl (by decide) rfl (fun ls hl => ?_)
  refine lv_lload hx hb dX10_far_65 (lv_at hl 3 rfl) ?_
  refine lv_iload hx hb dX10_far_67 (lv_at hl 2 rfl) ?_
  refine lv_iconst (v := 1) hx hb dX10_far_69 (by decide) ?_
  refine lv_iadd hx hb dX10_far_70 ?_
  refine lv_topi (fun x_16 ex_16 => ?_)
  obtain rfl : x_16 = (3 : Int32) := ex_16.trans (by decide)
  refine lv_i2l (v := 3) hx hb dX10_far_71 (by decide) ?_
  refine lv_lmul hx hb dX10_far_72 ?_
  refine lv_topl (fun x_17 ex_17 => ?_)
  obtain rfl : x_17 = (6 : Int64) := ex_17.trans (by decide)
  refine lv_lstore (lv' := [(6, .long 6), (4, .int 125), (5, .int 55), (8, .int 2), (0, .ref h0), (1, .int 5), (2, .int 7), (3, .int z)]) hx hb dX10_far_73 hl (by decide) rfl (fun ls hl => ?_)
  refine lv_iinc (v := 3) (lv' := [(8, .int 3), (6, .long 6), (4, .int 125), (5, .int 55), (0, .ref h0), (1, .int 5), (2, .int 7), (3, .int z)]) hx hb dX10_far_75 hl (k := 3) rfl (by decide) (by decide) rfl (fun ls hl => ?_)
  refine lv_goto (tgt := 43) hx hb dX10_far_78 (by decide) ?_
  refine lv_iload hx hb dX10_far_43 (lv_at hl 0 rfl) ?_
  refine lv_iload_n hx hb dX10_far_45 rfl (lv_at hl 5 rfl) ?_
  refine lv_icmp_ge (tgt := 81) hx hb dX10_far_46 (by decide) (fun c => absurd c (by decide)) (fun _ => ?_)
  refine lv_iload hx hb dX10_far_49 (lv_at hl 3 rfl) ?_
  refine lv_iload hx hb dX10_far_51 (lv_at hl 0 rfl) ?_
  refine lv_iload hx hb dX10_far_53 (lv_at hl 2 rfl) ?_
  refine lv_imul hx hb dX10_far_55 ?_
  refine lv_topi (fun x_18 ex_18 => ?_)
  obtain rfl : x_18 = (375 : Int32) := ex_18.trans (by decide)
  refine lv_iadd hx hb dX10_far_56 ?_
  refine lv_topi (fun x_19 ex_19 => ?_)
  obtain rfl : x_19 = (430 : Int32) := ex_19.trans (by decide)
  refine lv_istore (lv' := [(5, .int 430), (8, .int 3), (6, .long 6), (4, .int 125), (0, .ref h0), (1, .int 5), (2, .int 7), (3, .int z)]) hx hb dX10_far_57 hl (by decide) rfl (fun ls hl => ?_)
  refine lv_iload hx hb dX10_far_59 (lv_at hl 3 rfl) ?_
  refine lv_iload_n hx hb dX10_far_61 rfl (lv_at hl 5 rfl) ?_
  refine lv_imul hx hb dX10_far_62 ?_
  refine lv_topi (fun x_20 ex_20 => ?_)
  obtain rfl : x_20 = (625 : Int32) := ex_20.trans (by decide)
  refine lv_istore (lv' := [(4, .int 625), (5, .int 430), (8, .int 3), (6, .long 6), (0, .ref h0), (1, .int 5), (2, .int 7), (3, .int z)]) hx hb dX10_far_63 hl (by decide) rfl (fun ls hl => ?_)
  refine lv_lload hx hb dX10_far_65 (lv_at hl 3 rfl) ?_
  refine lv_iload hx hb dX10_far_67 (lv_at hl 2 rfl) ?_
  refine lv_iconst (v := 1) hx hb dX10_far_69 (by decide) ?_
  refine lv_iadd hx hb dX10_far_70 ?_
  refine lv_topi (fun x_21 ex_21 => ?_)
  obtain rfl : x_21 = (4 : Int32) := ex_21.trans (by decide)
  refine lv_i2l (v := 4) hx hb dX10_far_71 (by decide) ?_
  refine lv_lmul hx hb dX10_far_72 ?_
  refine lv_topl (fun x_22 ex_22 => ?_)
  obtain rfl : x_22 = (24 : Int64) := ex_22.trans (by decide)
  refine lv_lstore (lv' := [(6, .long 24), (4, .int 625), (5, .int 430), (8, .int 3), (0, .ref h0), (1, .int 5), (2, .int 7), (3, .int z)]) hx hb dX10_far_73 hl (by decide) rfl (fun ls hl => ?_)
  refine lv_iinc (v := 4) (lv' := [(8, .int 4), (6, .long 24), (4, .int 625), (5, .int 430), (0, .ref h0), (1, .int 5), (2, .int 7), (3, .int z)]) hx hb dX10_far_75 hl (k := 3) rfl (by decide) (by decide) rfl (fun ls hl => ?_)
  refine lv_goto (tgt := 43) hx hb dX10_far_78 (by decide) ?_
  refine lv_iload hx hb dX10_far_43 (lv_at hl 0 rfl) ?_
  refine lv_iload_n hx hb dX10_far_45 rfl (lv_at hl 5 rfl) ?_
  refine lv_icmp_ge (tgt := 81) hx hb dX10_far_46 (by decide) (fun c => absurd c (by decide)) (fun _ => ?_)
  refine lv_iload hx hb dX10_far_49 (lv_at hl 3 rfl) ?_
  refine lv_iload hx hb dX10_far_51 (lv_at hl 0 rfl) ?_
  refine lv_iload hx hb dX10_far_53 (lv_at hl 2 rfl) ?_
  refine lv_imul hx hb dX10_far_55 ?_
  refine lv_topi (fun x_23 ex_23 => ?_)
  obtain rfl : x_23 = (2500 : Int32) := ex_23.trans (by decide)
  refine lv_iadd hx hb dX10_far_56 ?_
  refine lv_topi (fun x_24 ex_24 => ?_)
  obtain rfl : x_24 = (2930 : Int32) := ex_24.trans (by decide)
  refine lv_istore (lv' := [(5, .int 2930), (8, .int 4), (6, .long 24), (4, .int 625), (0, .ref h0), (1, .int 5), (2, .int 7), (3, .int z)]) hx hb dX10_far_57 hl (by decide) rfl (fun ls hl => ?_)
  refine lv_iload hx hb dX10_far_59 (lv_at hl 3 rfl) ?_
  refine lv_iload_n hx hb dX10_far_61 rfl (lv_at hl 5 rfl) ?_
  refine lv_imul hx hb dX10_far_62 ?_
  refine lv_topi (fun x_25 ex_25 => ?_)
  obtain rfl : x_25 = (3125 : Int32) := ex_25.trans (by decide)
  refine lv_istore (lv' := [(4, .int 3125), (5, .int 2930), (8, .int 4), (6, .long 24), (0, .ref h0), (1, .int 5), (2, .int 7), (3, .int z)]) hx hb dX10_far_63 hl (by decide) rfl (fun ls hl => ?_)
  refine lv_lload hx hb dX10_far_65 (lv_at hl 3 rfl) ?_
  refine lv_iload hx hb dX10_far_67 (lv_at hl 2 rfl) ?_
  refine lv_iconst (v := 1) hx hb dX10_far_69 (by decide) ?_
  refine lv_iadd hx hb dX10_far_70 ?_
  refine lv_topi (fun x_26 ex_26 => ?_)
  obtain rfl : x_26 = (5 : Int32) := ex_26.trans (by decide)
  refine lv_i2l (v := 5) hx hb dX10_far_71 (by decide) ?_
  refine lv_lmul hx hb dX10_far_72 ?_
  refine lv_topl (fun x_27 ex_27 => ?_)
  obtain rfl : x_27 = (120 : Int64) := ex_27.trans (by decide)
  refine lv_lstore (lv' := [(6, .long 120), (4, .int 3125), (5, .int 2930), (8, .int 4), (0, .ref h0), (1, .int 5), (2, .int 7), (3, .int z)]) hx hb dX10_far_73 hl (by decide) rfl (fun ls hl => ?_)
  refine lv_iinc (v := 5) (lv' := [(8, .int 5), (6, .long 120), (4, .int 3125), (5, .int 2930), (0, .ref h0), (1, .int 5), (2, .int 7), (3, .int z)]) hx hb dX10_far_75 hl (k := 3) rfl (by decide) (by decide) rfl (fun ls hl => ?_)
  refine lv_goto (tgt := 43) hx hb dX10_far_78 (by decide) ?_
  refine lv_iload hx hb dX10_far_43 (lv_at hl 0 rfl) ?_
  refine lv_iload_n hx hb dX10_far_45 rfl (lv_at hl 5 rfl) ?_
  refine lv_icmp_ge (tgt := 81) hx hb dX10_far_46 (by decide) (fun _ => ?_) (fun c => absurd (by decide) c)
  refine lv_iload hx hb dX10_far_81 (lv_at hl 2 rfl) ?_
  refine va_newa (atype := .long) (ty := .long) (N' := 3125) (a0 := (3125, .inr (.inl fun _ => 0))) hx hb (hts (.arrayClass .long) (by decide +kernel)) rfl hK hP hD hS hA (fun _ => rfl) (by decide) (by decide) (Nat.le_of_ble_eq_true rfl) (Nat.le_of_ble_eq_true rfl) (Nat.le_of_ble_eq_true rfl) dX10_far_83 (fun q_28 cA_29 H hK hP hD hS => ?_)
  refine W.widen (k := 1) (n := 3125) (Nat.le_of_ble_eq_true rfl) (Nat.le_of_ble_eq_true rfl) ?_
  have hP : va_P (dC, dI) fxCl [(h0, .inr (6, [.int 0, .int kn, .ref u1, .ref u2])), (q_28, .inl (cA_29, 3125, .inr (.inl (fun _ => 0))))] H := hP
  have hD : va_D A [(h0, .inr (6, [.int 0, .int kn, .ref u1, .ref u2])), (q_28, .inl (cA_29, 3125, .inr (.inl (fun _ => 0))))] := hD
  have hK : va_K (dC, dI) fxCl [(cA_29, .long)] s := hK
  refine lv_astore (lv' := [(8, .ref q_28), (6, .long 120), (4, .int 3125), (5, .int 2930), (0, .ref h0), (1, .int 5), (2, .int 7), (3, .int z)]) hx hb dX10_far_85 hl (by decide) rfl (fun ls hl => ?_)
  refine lv_aload hx hb dX10_far_87 (lv_at hl 0 rfl) ?_
  refine lv_iload hx hb dX10_far_89 (lv_at hl 3 rfl) ?_
  refine lv_lconst (v := 1) hx hb dX10_far_91 (by decide) ?_
  refine va_last hx hb hK hP hD hS 1 0 rfl rfl (show vp_in 2930 3125 from by unfold vp_in; decide) dX10_far_92 (fun H locs hP hD hS => ?_)
  obtain ⟨f_30, ef_30⟩ : ∃ g9 : Nat → Int64, g9 = vp_updL (fun _ => 0) (2930 : Int32).toNatClampNeg 1 := ⟨_, rfl⟩
  rw [← ef_30] at hP hD
  have hP : va_P (dC, dI) fxCl [(h0, .inr (6, [.int 0, .int kn, .ref u1, .ref u2])), (q_28, .inl (cA_29, 3125, .inr (.inl f_30)))] H := hP
  have hD : va_D A [(h0, .inr (6, [.int 0, .int kn, .ref u1, .ref u2])), (q_28, .inl (cA_29, 3125, .inr (.inl f_30)))] := hD
  refine lv_lconst (v := 1) hx hb dX10_far_93 (by decide) ?_
  refine lv_lstore (lv' := [(9, .long 1), (8, .ref q_28), (6, .long 120), (4, .int 3125), (5, .int 2930), (0, .ref h0), (1, .int 5), (2, .int 7), (3, .int z)]) hx hb dX10_far_94 hl (by decide) rfl (fun ls hl => ?_)
  refine lv_iconst (v := 0) hx hb dX10_far_96 (by decide) ?_
  refine lv_istore (lv' := [(11, .int 0), (9, .long 1), (8, .ref q_28), (6, .long 120), (4, .int 3125), (5, .int 2930), (0, .ref h0), (1, .int 5), (2, .int 7), (3, .int z)]) hx hb dX10_far_97 hl (by decide) rfl (fun ls hl => ?_)
  refine lv_iload hx hb dX10_far_99 (lv_at hl 0 rfl) ?_
  refine lv_iload_n hx hb dX10_far_101 rfl (lv_at hl 8 rfl) ?_
  refine lv_icmp_ge (tgt := 126) hx hb dX10_far_102 (by decide) (fun c => absurd c (by decide)) (fun _ => ?_)
  refine lv_aload hx hb dX10_far_105 (lv_at hl 2 rfl) ?_
  refine lv_iload_n hx hb dX10_far_107 rfl (lv_at hl 7 rfl) ?_
  have hPc := hP.sub (ws' := [(q_28, .inl (cA_29, 3125, .inr (.inl f_30)))]) [1] rfl
  have hDc := hD.sub (ws' := [(q_28, .inl (cA_29, 3125, .inr (.inl f_30)))]) [1] (by decide) rfl
  have hKc := hK.sub (tys' := [(cA_29, .long)]) [0] rfl
  have hFc := va_free (wc := [(q_28, .inl (cA_29, 3125, .inr (.inl f_30)))]) hD hS hA [1] rfl
  refine va_callr (va_runS (As := [.ref q_28, .int 5]) (rest := []) ⟨hx, hb, hml, hown, hts⟩ (c_X10_shuffled l dC dI q_28 cA_29 f_30 H.size) (va_cwS 2 hts gX10_far_X10_shuffled rfl rfl rfl (by decide +kernel) ⟨Nat.le_of_ble_eq_true rfl, Nat.le_of_ble_eq_true rfl⟩) (fx_preS hPc hKc hDc hnw) rfl rfl hl.1 rfl (lv_room (Nat.le_of_ble_eq_true rfl)) dX10_far_108 ⟨(Nat.le_of_ble_eq_true rfl), (Nat.le_of_ble_eq_true rfl)⟩) hS (fun q _ h => hFc q h) hFc (fun u q_33 t H1 locs ht hvm hw hB hz1 hk1 hS => ?_)
  obtain ⟨cA_31, f_32, hP1, hK1, hD1⟩ := hB
  rw [ht] at hP1
  have hK1 := va_K.moved hvm.symm hK1
  obtain ⟨hP, hD⟩ := va_join (wr := [(h0, .inr (6, [.int 0, .int kn, .ref u1, .ref u2]))]) (w1 := [(q_28, .inl (cA_29, 3125, .inr (.inl f_30))), (q_33, .inl (cA_31, 3125, .inr (.inl f_32)))]) hP hD [1] [0] rfl rfl (by decide) (by decide) hk1 hFc hP1 hD1
  have hK := (hK.sub (tys' := []) [] rfl).app hK1
  generalize H1 = H at hP hS ⊢
  have hP : va_P (dC, dI) fxCl [(h0, .inr (6, [.int 0, .int kn, .ref u1, .ref u2])), (q_28, .inl (cA_29, 3125, .inr (.inl f_30))), (q_33, .inl (cA_31, 3125, .inr (.inl f_32)))] H := hP
  have hD : va_D A [(h0, .inr (6, [.int 0, .int kn, .ref u1, .ref u2])), (q_28, .inl (cA_29, 3125, .inr (.inl f_30))), (q_33, .inl (cA_31, 3125, .inr (.inl f_32)))] := hD
  have hK : va_K (dC, dI) fxCl [(cA_29, .long), (cA_31, .long)] s := hK
  refine W.widen (k := 2) (n := 6250) (Nat.le_of_ble_eq_true rfl) (Nat.le_of_ble_eq_true rfl) ?_
  refine lv_astore (lv' := [(8, .ref q_33), (11, .int 0), (9, .long 1), (6, .long 120), (4, .int 3125), (5, .int 2930), (0, .ref h0), (1, .int 5), (2, .int 7), (3, .int z)]) hx hb dX10_far_111 hl (by decide) rfl (fun ls hl => ?_)
  refine lv_lload hx hb dX10_far_113 (lv_at hl 2 rfl) ?_
  refine lv_iload_n hx hb dX10_far_115 rfl (lv_at hl 7 rfl) ?_
  refine lv_i2l (v := 5) hx hb dX10_far_116 (by decide) ?_
  refine lv_lmul hx hb dX10_far_117 ?_
  refine lv_topl (fun x_34 ex_34 => ?_)
  obtain rfl : x_34 = (5 : Int64) := ex_34.trans (by decide)
  refine lv_lstore (lv' := [(9, .long 5), (8, .ref q_33), (11, .int 0), (6, .long 120), (4, .int 3125), (5, .int 2930), (0, .ref h0), (1, .int 5), (2, .int 7), (3, .int z)]) hx hb dX10_far_118 hl (by decide) rfl (fun ls hl => ?_)
  refine lv_iinc (v := 1) (lv' := [(11, .int 1), (9, .long 5), (8, .ref q_33), (6, .long 120), (4, .int 3125), (5, .int 2930), (0, .ref h0), (1, .int 5), (2, .int 7), (3, .int z)]) hx hb dX10_far_120 hl (k := 2) rfl (by decide) (by decide) rfl (fun ls hl => ?_)
  refine lv_goto (tgt := 99) hx hb dX10_far_123 (by decide) ?_
  refine lv_iload hx hb dX10_far_99 (lv_at hl 0 rfl) ?_
  refine lv_iload_n hx hb dX10_far_101 rfl (lv_at hl 8 rfl) ?_
  refine lv_icmp_ge (tgt := 126) hx hb dX10_far_102 (by decide) (fun c => absurd c (by decide)) (fun _ => ?_)
  refine lv_aload hx hb dX10_far_105 (lv_at hl 2 rfl) ?_
  refine lv_iload_n hx hb dX10_far_107 rfl (lv_at hl 7 rfl) ?_
  have hPc := hP.sub (ws' := [(q_33, .inl (cA_31, 3125, .inr (.inl f_32)))]) [2] rfl
  have hDc := hD.sub (ws' := [(q_33, .inl (cA_31, 3125, .inr (.inl f_32)))]) [2] (by decide) rfl
  have hKc := hK.sub (tys' := [(cA_31, .long)]) [1] rfl
  have hFc := va_free (wc := [(q_33, .inl (cA_31, 3125, .inr (.inl f_32)))]) hD hS hA [2] rfl
  refine va_callr (va_runS (As := [.ref q_33, .int 5]) (rest := []) ⟨hx, hb, hml, hown, hts⟩ (c_X10_shuffled l dC dI q_33 cA_31 f_32 H.size) (va_cwS 2 hts gX10_far_X10_shuffled rfl rfl rfl (by decide +kernel) ⟨Nat.le_of_ble_eq_true rfl, Nat.le_of_ble_eq_true rfl⟩) (fx_preS hPc hKc hDc hnw) rfl rfl hl.1 rfl (lv_room (Nat.le_of_ble_eq_true rfl)) dX10_far_108 ⟨(Nat.le_of_ble_eq_true rfl), (Nat.le_of_ble_eq_true rfl)⟩) hS (fun q _ h => hFc q h) hFc (fun u q_37 t H1 locs ht hvm hw hB hz1 hk1 hS => ?_)
  obtain ⟨cA_35, f_36, hP1, hK1, hD1⟩ := hB
  rw [ht] at hP1
  have hK1 := va_K.moved hvm.symm hK1
  obtain ⟨hP, hD⟩ := va_join (wr := [(h0, .inr (6, [.int 0, .int kn, .ref u1, .ref u2])), (q_28, .inl (cA_29, 3125, .inr (.inl f_30)))]) (w1 := [(q_33, .inl (cA_31, 3125, .inr (.inl f_32))), (q_37, .inl (cA_35, 3125, .inr (.inl f_36)))]) hP hD [2] [0, 1] rfl rfl (by decide) (by decide) hk1 hFc hP1 hD1
  have hK := (hK.sub (tys' := [(cA_29, .long)]) [0] rfl).app hK1
  generalize H1 = H at hP hS ⊢
  have hP : va_P (dC, dI) fxCl [(h0, .inr (6, [.int 0, .int kn, .ref u1, .ref u2])), (q_28, .inl (cA_29, 3125, .inr (.inl f_30))), (q_33, .inl (cA_31, 3125, .inr (.inl f_32))), (q_37, .inl (cA_35, 3125, .inr (.inl f_36)))] H := hP
  have hD : va_D A [(h0, .inr (6, [.int 0, .int kn, .ref u1, .ref u2])), (q_28, .inl (cA_29, 3125, .inr (.inl f_30))), (q_33, .inl (cA_31, 3125, .inr (.inl f_32))), (q_37, .inl (cA_35, 3125, .inr (.inl f_36)))] := hD
  have hK : va_K (dC, dI) fxCl [(cA_29, .long), (cA_31, .long), (cA_35, .long)] s := hK
  refine W.widen (k := 3) (n := 9375) (Nat.le_of_ble_eq_true rfl) (Nat.le_of_ble_eq_true rfl) ?_
  refine lv_astore (lv' := [(8, .ref q_37), (11, .int 1), (9, .long 5), (6, .long 120), (4, .int 3125), (5, .int 2930), (0, .ref h0), (1, .int 5), (2, .int 7), (3, .int z)]) hx hb dX10_far_111 hl (by decide) rfl (fun ls hl => ?_)
  refine lv_lload hx hb dX10_far_113 (lv_at hl 2 rfl) ?_
  refine lv_iload_n hx hb dX10_far_115 rfl (lv_at hl 7 rfl) ?_
  refine lv_i2l (v := 5) hx hb dX10_far_116 (by decide) ?_
  refine lv_lmul hx hb dX10_far_117 ?_
  refine lv_topl (fun x_38 ex_38 => ?_)
  obtain rfl : x_38 = (25 : Int64) := ex_38.trans (by decide)
  refine lv_lstore (lv' := [(9, .long 25), (8, .ref q_37), (11, .int 1), (6, .long 120), (4, .int 3125), (5, .int 2930), (0, .ref h0), (1, .int 5), (2, .int 7), (3, .int z)]) hx hb dX10_far_118 hl (by decide) rfl (fun ls hl => ?_)
  refine lv_iinc (v := 2) (lv' := [(11, .int 2), (9, .long 25), (8, .ref q_37), (6, .long 120), (4, .int 3125), (5, .int 2930), (0, .ref h0), (1, .int 5), (2, .int 7), (3, .int z)]) hx hb dX10_far_120 hl (k := 2) rfl (by decide) (by decide) rfl (fun ls hl => ?_)
  refine lv_goto (tgt := 99) hx hb dX10_far_123 (by decide) ?_
  refine lv_iload hx hb dX10_far_99 (lv_at hl 0 rfl) ?_
  refine lv_iload_n hx hb dX10_far_101 rfl (lv_at hl 8 rfl) ?_
  refine lv_icmp_ge (tgt := 126) hx hb dX10_far_102 (by decide) (fun c => absurd c (by decide)) (fun _ => ?_)
  refine lv_aload hx hb dX10_far_105 (lv_at hl 2 rfl) ?_
  refine lv_iload_n hx hb dX10_far_107 rfl (lv_at hl 7 rfl) ?_
  have hPc := hP.sub (ws' := [(q_37, .inl (cA_35, 3125, .inr (.inl f_36)))]) [3] rfl
  have hDc := hD.sub (ws' := [(q_37, .inl (cA_35, 3125, .inr (.inl f_36)))]) [3] (by decide) rfl
  have hKc := hK.sub (tys' := [(cA_35, .long)]) [2] rfl
  have hFc := va_free (wc := [(q_37, .inl (cA_35, 3125, .inr (.inl f_36)))]) hD hS hA [3] rfl
  refine va_callr (va_runS (As := [.ref q_37, .int 5]) (rest := []) ⟨hx, hb, hml, hown, hts⟩ (c_X10_shuffled l dC dI q_37 cA_35 f_36 H.size) (va_cwS 2 hts gX10_far_X10_shuffled rfl rfl rfl (by decide +kernel) ⟨Nat.le_of_ble_eq_true rfl, Nat.le_of_ble_eq_true rfl⟩) (fx_preS hPc hKc hDc hnw) rfl rfl hl.1 rfl (lv_room (Nat.le_of_ble_eq_true rfl)) dX10_far_108 ⟨(Nat.le_of_ble_eq_true rfl), (Nat.le_of_ble_eq_true rfl)⟩) hS (fun q _ h => hFc q h) hFc (fun u q_41 t H1 locs ht hvm hw hB hz1 hk1 hS => ?_)
  obtain ⟨cA_39, f_40, hP1, hK1, hD1⟩ := hB
  rw [ht] at hP1
  have hK1 := va_K.moved hvm.symm hK1
  obtain ⟨hP, hD⟩ := va_join (wr := [(h0, .inr (6, [.int 0, .int kn, .ref u1, .ref u2])), (q_28, .inl (cA_29, 3125, .inr (.inl f_30))), (q_33, .inl (cA_31, 3125, .inr (.inl f_32)))]) (w1 := [(q_37, .inl (cA_35, 3125, .inr (.inl f_36))), (q_41, .inl (cA_39, 3125, .inr (.inl f_40)))]) hP hD [3] [0, 1, 2] rfl rfl (by decide) (by decide) hk1 hFc hP1 hD1
  have hK := (hK.sub (tys' := [(cA_29, .long), (cA_31, .long)]) [0, 1] rfl).app hK1
  generalize H1 = H at hP hS ⊢
  have hP : va_P (dC, dI) fxCl [(h0, .inr (6, [.int 0, .int kn, .ref u1, .ref u2])), (q_28, .inl (cA_29, 3125, .inr (.inl f_30))), (q_33, .inl (cA_31, 3125, .inr (.inl f_32))), (q_37, .inl (cA_35, 3125, .inr (.inl f_36))), (q_41, .inl (cA_39, 3125, .inr (.inl f_40)))] H := hP
  have hD : va_D A [(h0, .inr (6, [.int 0, .int kn, .ref u1, .ref u2])), (q_28, .inl (cA_29, 3125, .inr (.inl f_30))), (q_33, .inl (cA_31, 3125, .inr (.inl f_32))), (q_37, .inl (cA_35, 3125, .inr (.inl f_36))), (q_41, .inl (cA_39, 3125, .inr (.inl f_40)))] := hD
  have hK : va_K (dC, dI) fxCl [(cA_29, .long), (cA_31, .long), (cA_35, .long), (cA_39, .long)] s := hK
  refine W.widen (k := 4) (n := 12500) (Nat.le_of_ble_eq_true rfl) (Nat.le_of_ble_eq_true rfl) ?_
  refine lv_astore (lv' := [(8, .ref q_41), (11, .int 2), (9, .long 25), (6, .long 120), (4, .int 3125), (5, .int 2930), (0, .ref h0), (1, .int 5), (2, .int 7), (3, .int z)]) hx hb dX10_far_111 hl (by decide) rfl (fun ls hl => ?_)
  refine lv_lload hx hb dX10_far_113 (lv_at hl 2 rfl) ?_
  refine lv_iload_n hx hb dX10_far_115 rfl (lv_at hl 7 rfl) ?_
  refine lv_i2l (v := 5) hx hb dX10_far_116 (by decide) ?_
  refine lv_lmul hx hb dX10_far_117 ?_
  refine lv_topl (fun x_42 ex_42 => ?_)
  obtain rfl : x_42 = (125 : Int64) := ex_42.trans (by decide)
  refine lv_lstore (lv' := [(9, .long 125), (8, .ref q_41), (11, .int 2), (6, .long 120), (4, .int 3125), (5, .int 2930), (0, .ref h0), (1, .int 5), (2, .int 7), (3, .int z)]) hx hb dX10_far_118 hl (by decide) rfl (fun ls hl => ?_)
  refine lv_iinc (v := 3) (lv' := [(11, .int 3), (9, .long 125), (8, .ref q_41), (6, .long 120), (4, .int 3125), (5, .int 2930), (0, .ref h0), (1, .int 5), (2, .int 7), (3, .int z)]) hx hb dX10_far_120 hl (k := 2) rfl (by decide) (by decide) rfl (fun ls hl => ?_)
  refine lv_goto (tgt := 99) hx hb dX10_far_123 (by decide) ?_
  refine lv_iload hx hb dX10_far_99 (lv_at hl 0 rfl) ?_
  refine lv_iload_n hx hb dX10_far_101 rfl (lv_at hl 8 rfl) ?_
  refine lv_icmp_ge (tgt := 126) hx hb dX10_far_102 (by decide) (fun c => absurd c (by decide)) (fun _ => ?_)
  refine lv_aload hx hb dX10_far_105 (lv_at hl 2 rfl) ?_
  refine lv_iload_n hx hb dX10_far_107 rfl (lv_at hl 7 rfl) ?_
  have hPc := hP.sub (ws' := [(q_41, .inl (cA_39, 3125, .inr (.inl f_40)))]) [4] rfl
  have hDc := hD.sub (ws' := [(q_41, .inl (cA_39, 3125, .inr (.inl f_40)))]) [4] (by decide) rfl
  have hKc := hK.sub (tys' := [(cA_39, .long)]) [3] rfl
  have hFc := va_free (wc := [(q_41, .inl (cA_39, 3125, .inr (.inl f_40)))]) hD hS hA [4] rfl
  refine va_callr (va_runS (As := [.ref q_41, .int 5]) (rest := []) ⟨hx, hb, hml, hown, hts⟩ (c_X10_shuffled l dC dI q_41 cA_39 f_40 H.size) (va_cwS 2 hts gX10_far_X10_shuffled rfl rfl rfl (by decide +kernel) ⟨Nat.le_of_ble_eq_true rfl, Nat.le_of_ble_eq_true rfl⟩) (fx_preS hPc hKc hDc hnw) rfl rfl hl.1 rfl (lv_room (Nat.le_of_ble_eq_true rfl)) dX10_far_108 ⟨(Nat.le_of_ble_eq_true rfl), (Nat.le_of_ble_eq_true rfl)⟩) hS (fun q _ h => hFc q h) hFc (fun u q_45 t H1 locs ht hvm hw hB hz1 hk1 hS => ?_)
  obtain ⟨cA_43, f_44, hP1, hK1, hD1⟩ := hB
  rw [ht] at hP1
  have hK1 := va_K.moved hvm.symm hK1
  obtain ⟨hP, hD⟩ := va_join (wr := [(h0, .inr (6, [.int 0, .int kn, .ref u1, .ref u2])), (q_28, .inl (cA_29, 3125, .inr (.inl f_30))), (q_33, .inl (cA_31, 3125, .inr (.inl f_32))), (q_37, .inl (cA_35, 3125, .inr (.inl f_36)))]) (w1 := [(q_41, .inl (cA_39, 3125, .inr (.inl f_40))), (q_45, .inl (cA_43, 3125, .inr (.inl f_44)))]) hP hD [4] [0, 1, 2, 3] rfl rfl (by decide) (by decide) hk1 hFc hP1 hD1
  have hK := (hK.sub (tys' := [(cA_29, .long), (cA_31, .long), (cA_35, .long)]) [0, 1, 2] rfl).app hK1
  generalize H1 = H at hP hS ⊢
  have hP : va_P (dC, dI) fxCl [(h0, .inr (6, [.int 0, .int kn, .ref u1, .ref u2])), (q_28, .inl (cA_29, 3125, .inr (.inl f_30))), (q_33, .inl (cA_31, 3125, .inr (.inl f_32))), (q_37, .inl (cA_35, 3125, .inr (.inl f_36))), (q_41, .inl (cA_39, 3125, .inr (.inl f_40))), (q_45, .inl (cA_43, 3125, .inr (.inl f_44)))] H := hP
  have hD : va_D A [(h0, .inr (6, [.int 0, .int kn, .ref u1, .ref u2])), (q_28, .inl (cA_29, 3125, .inr (.inl f_30))), (q_33, .inl (cA_31, 3125, .inr (.inl f_32))), (q_37, .inl (cA_35, 3125, .inr (.inl f_36))), (q_41, .inl (cA_39, 3125, .inr (.inl f_40))), (q_45, .inl (cA_43, 3125, .inr (.inl f_44)))] := hD
  have hK : va_K (dC, dI) fxCl [(cA_29, .long), (cA_31, .long), (cA_35, .long), (cA_39, .long), (cA_43, .long)] s := hK
  refine W.widen (k := 5) (n := 15625) (Nat.le_of_ble_eq_true rfl) (Nat.le_of_ble_eq_true rfl) ?_
  refine lv_astore (lv' := [(8, .ref q_45), (11, .int 3), (9, .long 125), (6, .long 120), (4, .int 3125), (5, .int 2930), (0, .ref h0), (1, .int 5), (2, .int 7), (3, .int z)]) hx hb dX10_far_111 hl (by decide) rfl (fun ls hl => ?_)
  refine lv_lload hx hb dX10_far_113 (lv_at hl 2 rfl) ?_
  refine lv_iload_n hx hb dX10_far_115 rfl (lv_at hl 7 rfl) ?_
  refine lv_i2l (v := 5) hx hb dX10_far_116 (by decide) ?_
  refine lv_lmul hx hb dX10_far_117 ?_
  refine lv_topl (fun x_46 ex_46 => ?_)
  obtain rfl : x_46 = (625 : Int64) := ex_46.trans (by decide)
  refine lv_lstore (lv' := [(9, .long 625), (8, .ref q_45), (11, .int 3), (6, .long 120), (4, .int 3125), (5, .int 2930), (0, .ref h0), (1, .int 5), (2, .int 7), (3, .int z)]) hx hb dX10_far_118 hl (by decide) rfl (fun ls hl => ?_)
  refine lv_iinc (v := 4) (lv' := [(11, .int 4), (9, .long 625), (8, .ref q_45), (6, .long 120), (4, .int 3125), (5, .int 2930), (0, .ref h0), (1, .int 5), (2, .int 7), (3, .int z)]) hx hb dX10_far_120 hl (k := 2) rfl (by decide) (by decide) rfl (fun ls hl => ?_)
  refine lv_goto (tgt := 99) hx hb dX10_far_123 (by decide) ?_
  refine lv_iload hx hb dX10_far_99 (lv_at hl 0 rfl) ?_
  refine lv_iload_n hx hb dX10_far_101 rfl (lv_at hl 8 rfl) ?_
  refine lv_icmp_ge (tgt := 126) hx hb dX10_far_102 (by decide) (fun c => absurd c (by decide)) (fun _ => ?_)
  refine lv_aload hx hb dX10_far_105 (lv_at hl 2 rfl) ?_
  refine lv_iload_n hx hb dX10_far_107 rfl (lv_at hl 7 rfl) ?_
  have hPc := hP.sub (ws' := [(q_45, .inl (cA_43, 3125, .inr (.inl f_44)))]) [5] rfl
  have hDc := hD.sub (ws' := [(q_45, .inl (cA_43, 3125, .inr (.inl f_44)))]) [5] (by decide) rfl
  have hKc := hK.sub (tys' := [(cA_43, .long)]) [4] rfl
  have hFc := va_free (wc := [(q_45, .inl (cA_43, 3125, .inr (.inl f_44)))]) hD hS hA [5] rfl
  refine va_callr (va_runS (As := [.ref q_45, .int 5]) (rest := []) ⟨hx, hb, hml, hown, hts⟩ (c_X10_shuffled l dC dI q_45 cA_43 f_44 H.size) (va_cwS 2 hts gX10_far_X10_shuffled rfl rfl rfl (by decide +kernel) ⟨Nat.le_of_ble_eq_true rfl, Nat.le_of_ble_eq_true rfl⟩) (fx_preS hPc hKc hDc hnw) rfl rfl hl.1 rfl (lv_room (Nat.le_of_ble_eq_true rfl)) dX10_far_108 ⟨(Nat.le_of_ble_eq_true rfl), (Nat.le_of_ble_eq_true rfl)⟩) hS (fun q _ h => hFc q h) hFc (fun u q_49 t H1 locs ht hvm hw hB hz1 hk1 hS => ?_)
  obtain ⟨cA_47, f_48, hP1, hK1, hD1⟩ := hB
  rw [ht] at hP1
  have hK1 := va_K.moved hvm.symm hK1
  obtain ⟨hP, hD⟩ := va_join (wr := [(h0, .inr (6, [.int 0, .int kn, .ref u1, .ref u2])), (q_28, .inl (cA_29, 3125, .inr (.inl f_30))), (q_33, .inl (cA_31, 3125, .inr (.inl f_32))), (q_37, .inl (cA_35, 3125, .inr (.inl f_36))), (q_41, .inl (cA_39, 3125, .inr (.inl f_40)))]) (w1 := [(q_45, .inl (cA_43, 3125, .inr (.inl f_44))), (q_49, .inl (cA_47, 3125, .inr (.inl f_48)))]) hP hD [5] [0, 1, 2, 3, 4] rfl rfl (by decide) (by decide) hk1 hFc hP1 hD1
  have hK := (hK.sub (tys' := [(cA_29, .long), (cA_31, .long), (cA_35, .long), (cA_39, .long)]) [0, 1, 2, 3] rfl).app hK1
  generalize H1 = H at hP hS ⊢
  have hP : va_P (dC, dI) fxCl [(h0, .inr (6, [.int 0, .int kn, .ref u1, .ref u2])), (q_28, .inl (cA_29, 3125, .inr (.inl f_30))), (q_33, .inl (cA_31, 3125, .inr (.inl f_32))), (q_37, .inl (cA_35, 3125, .inr (.inl f_36))), (q_41, .inl (cA_39, 3125, .inr (.inl f_40))), (q_45, .inl (cA_43, 3125, .inr (.inl f_44))), (q_49, .inl (cA_47, 3125, .inr (.inl f_48)))] H := hP
  have hD : va_D A [(h0, .inr (6, [.int 0, .int kn, .ref u1, .ref u2])), (q_28, .inl (cA_29, 3125, .inr (.inl f_30))), (q_33, .inl (cA_31, 3125, .inr (.inl f_32))), (q_37, .inl (cA_35, 3125, .inr (.inl f_36))), (q_41, .inl (cA_39, 3125, .inr (.inl f_40))), (q_45, .inl (cA_43, 3125, .inr (.inl f_44))), (q_49, .inl (cA_47, 3125, .inr (.inl f_48)))] := hD
  have hK : va_K (dC, dI) fxCl [(cA_29, .long), (cA_31, .long), (cA_35, .long), (cA_39, .long), (cA_43, .long), (cA_47, .long)] s := hK
  refine W.widen (k := 6) (n := 18750) (Nat.le_of_ble_eq_true rfl) (Nat.le_of_ble_eq_true rfl) ?_
  refine lv_astore (lv' := [(8, .ref q_49), (11, .int 4), (9, .long 625), (6, .long 120), (4, .int 3125), (5, .int 2930), (0, .ref h0), (1, .int 5), (2, .int 7), (3, .int z)]) hx hb dX10_far_111 hl (by decide) rfl (fun ls hl => ?_)
  refine lv_lload hx hb dX10_far_113 (lv_at hl 2 rfl) ?_
  refine lv_iload_n hx hb dX10_far_115 rfl (lv_at hl 7 rfl) ?_
  refine lv_i2l (v := 5) hx hb dX10_far_116 (by decide) ?_
  refine lv_lmul hx hb dX10_far_117 ?_
  refine lv_topl (fun x_50 ex_50 => ?_)
  obtain rfl : x_50 = (3125 : Int64) := ex_50.trans (by decide)
  refine lv_lstore (lv' := [(9, .long 3125), (8, .ref q_49), (11, .int 4), (6, .long 120), (4, .int 3125), (5, .int 2930), (0, .ref h0), (1, .int 5), (2, .int 7), (3, .int z)]) hx hb dX10_far_118 hl (by decide) rfl (fun ls hl => ?_)
  refine lv_iinc (v := 5) (lv' := [(11, .int 5), (9, .long 3125), (8, .ref q_49), (6, .long 120), (4, .int 3125), (5, .int 2930), (0, .ref h0), (1, .int 5), (2, .int 7), (3, .int z)]) hx hb dX10_far_120 hl (k := 2) rfl (by decide) (by decide) rfl (fun ls hl => ?_)
  refine lv_goto (tgt := 99) hx hb dX10_far_123 (by decide) ?_
  refine lv_iload hx hb dX10_far_99 (lv_at hl 0 rfl) ?_
  refine lv_iload_n hx hb dX10_far_101 rfl (lv_at hl 8 rfl) ?_
  refine lv_icmp_ge (tgt := 126) hx hb dX10_far_102 (by decide) (fun c => absurd c (by decide)) (fun _ => ?_)
  refine lv_aload hx hb dX10_far_105 (lv_at hl 2 rfl) ?_
  refine lv_iload_n hx hb dX10_far_107 rfl (lv_at hl 7 rfl) ?_
  have hPc := hP.sub (ws' := [(q_49, .inl (cA_47, 3125, .inr (.inl f_48)))]) [6] rfl
  have hDc := hD.sub (ws' := [(q_49, .inl (cA_47, 3125, .inr (.inl f_48)))]) [6] (by decide) rfl
  have hKc := hK.sub (tys' := [(cA_47, .long)]) [5] rfl
  have hFc := va_free (wc := [(q_49, .inl (cA_47, 3125, .inr (.inl f_48)))]) hD hS hA [6] rfl
  refine va_callr (va_runS (As := [.ref q_49, .int 5]) (rest := []) ⟨hx, hb, hml, hown, hts⟩ (c_X10_shuffled l dC dI q_49 cA_47 f_48 H.size) (va_cwS 2 hts gX10_far_X10_shuffled rfl rfl rfl (by decide +kernel) ⟨Nat.le_of_ble_eq_true rfl, Nat.le_of_ble_eq_true rfl⟩) (fx_preS hPc hKc hDc hnw) rfl rfl hl.1 rfl (lv_room (Nat.le_of_ble_eq_true rfl)) dX10_far_108 ⟨(Nat.le_of_ble_eq_true rfl), (Nat.le_of_ble_eq_true rfl)⟩) hS (fun q _ h => hFc q h) hFc (fun u q_53 t H1 locs ht hvm hw hB hz1 hk1 hS => ?_)
  obtain ⟨cA_51, f_52, hP1, hK1, hD1⟩ := hB
  rw [ht] at hP1
  have hK1 := va_K.moved hvm.symm hK1
  obtain ⟨hP, hD⟩ := va_join (wr := [(h0, .inr (6, [.int 0, .int kn, .ref u1, .ref u2])), (q_28, .inl (cA_29, 3125, .inr (.inl f_30))), (q_33, .inl (cA_31, 3125, .inr (.inl f_32))), (q_37, .inl (cA_35, 3125, .inr (.inl f_36))), (q_41, .inl (cA_39, 3125, .inr (.inl f_40))), (q_45, .inl (cA_43, 3125, .inr (.inl f_44)))]) (w1 := [(q_49, .inl (cA_47, 3125, .inr (.inl f_48))), (q_53, .inl (cA_51, 3125, .inr (.inl f_52)))]) hP hD [6] [0, 1, 2, 3, 4, 5] rfl rfl (by decide) (by decide) hk1 hFc hP1 hD1
  have hK := (hK.sub (tys' := [(cA_29, .long), (cA_31, .long), (cA_35, .long), (cA_39, .long), (cA_43, .long)]) [0, 1, 2, 3, 4] rfl).app hK1
  generalize H1 = H at hP hS ⊢
  have hP : va_P (dC, dI) fxCl [(h0, .inr (6, [.int 0, .int kn, .ref u1, .ref u2])), (q_28, .inl (cA_29, 3125, .inr (.inl f_30))), (q_33, .inl (cA_31, 3125, .inr (.inl f_32))), (q_37, .inl (cA_35, 3125, .inr (.inl f_36))), (q_41, .inl (cA_39, 3125, .inr (.inl f_40))), (q_45, .inl (cA_43, 3125, .inr (.inl f_44))), (q_49, .inl (cA_47, 3125, .inr (.inl f_48))), (q_53, .inl (cA_51, 3125, .inr (.inl f_52)))] H := hP
  have hD : va_D A [(h0, .inr (6, [.int 0, .int kn, .ref u1, .ref u2])), (q_28, .inl (cA_29, 3125, .inr (.inl f_30))), (q_33, .inl (cA_31, 3125, .inr (.inl f_32))), (q_37, .inl (cA_35, 3125, .inr (.inl f_36))), (q_41, .inl (cA_39, 3125, .inr (.inl f_40))), (q_45, .inl (cA_43, 3125, .inr (.inl f_44))), (q_49, .inl (cA_47, 3125, .inr (.inl f_48))), (q_53, .inl (cA_51, 3125, .inr (.inl f_52)))] := hD
  have hK : va_K (dC, dI) fxCl [(cA_29, .long), (cA_31, .long), (cA_35, .long), (cA_39, .long), (cA_43, .long), (cA_47, .long), (cA_51, .long)] s := hK
  refine W.widen (k := 7) (n := 21875) (Nat.le_of_ble_eq_true rfl) (Nat.le_of_ble_eq_true rfl) ?_
  refine lv_astore (lv' := [(8, .ref q_53), (11, .int 5), (9, .long 3125), (6, .long 120), (4, .int 3125), (5, .int 2930), (0, .ref h0), (1, .int 5), (2, .int 7), (3, .int z)]) hx hb dX10_far_111 hl (by decide) rfl (fun ls hl => ?_)
  refine lv_lload hx hb dX10_far_113 (lv_at hl 2 rfl) ?_
  refine lv_iload_n hx hb dX10_far_115 rfl (lv_at hl 7 rfl) ?_
  refine lv_i2l (v := 5) hx hb dX10_far_116 (by decide) ?_
  refine lv_lmul hx hb dX10_far_117 ?_
  refine lv_topl (fun x_54 ex_54 => ?_)
  obtain rfl : x_54 = (15625 : Int64) := ex_54.trans (by decide)
  refine lv_lstore (lv' := [(9, .long 15625), (8, .ref q_53), (11, .int 5), (6, .long 120), (4, .int 3125), (5, .int 2930), (0, .ref h0), (1, .int 5), (2, .int 7), (3, .int z)]) hx hb dX10_far_118 hl (by decide) rfl (fun ls hl => ?_)
  refine lv_iinc (v := 6) (lv' := [(11, .int 6), (9, .long 15625), (8, .ref q_53), (6, .long 120), (4, .int 3125), (5, .int 2930), (0, .ref h0), (1, .int 5), (2, .int 7), (3, .int z)]) hx hb dX10_far_120 hl (k := 2) rfl (by decide) (by decide) rfl (fun ls hl => ?_)
  refine lv_goto (tgt := 99) hx hb dX10_far_123 (by decide) ?_
  refine lv_iload hx hb dX10_far_99 (lv_at hl 0 rfl) ?_
  refine lv_iload_n hx hb dX10_far_101 rfl (lv_at hl 8 rfl) ?_
  refine lv_icmp_ge (tgt := 126) hx hb dX10_far_102 (by decide) (fun c => absurd c (by decide)) (fun _ => ?_)
  refine lv_aload hx hb dX10_far_105 (lv_at hl 2 rfl) ?_
  refine lv_iload_n hx hb dX10_far_107 rfl (lv_at hl 7 rfl) ?_
  have hPc := hP.sub (ws' := [(q_53, .inl (cA_51, 3125, .inr (.inl f_52)))]) [7] rfl
  have hDc := hD.sub (ws' := [(q_53, .inl (cA_51, 3125, .inr (.inl f_52)))]) [7] (by decide) rfl
  have hKc := hK.sub (tys' := [(cA_51, .long)]) [6] rfl
  have hFc := va_free (wc := [(q_53, .inl (cA_51, 3125, .inr (.inl f_52)))]) hD hS hA [7] rfl
  refine va_callr (va_runS (As := [.ref q_53, .int 5]) (rest := []) ⟨hx, hb, hml, hown, hts⟩ (c_X10_shuffled l dC dI q_53 cA_51 f_52 H.size) (va_cwS 2 hts gX10_far_X10_shuffled rfl rfl rfl (by decide +kernel) ⟨Nat.le_of_ble_eq_true rfl, Nat.le_of_ble_eq_true rfl⟩) (fx_preS hPc hKc hDc hnw) rfl rfl hl.1 rfl (lv_room (Nat.le_of_ble_eq_true rfl)) dX10_far_108 ⟨(Nat.le_of_ble_eq_true rfl), (Nat.le_of_ble_eq_true rfl)⟩) hS (fun q _ h => hFc q h) hFc (fun u q_57 t H1 locs ht hvm hw hB hz1 hk1 hS => ?_)
  obtain ⟨cA_55, f_56, hP1, hK1, hD1⟩ := hB
  rw [ht] at hP1
  have hK1 := va_K.moved hvm.symm hK1
  obtain ⟨hP, hD⟩ := va_join (wr := [(h0, .inr (6, [.int 0, .int kn, .ref u1, .ref u2])), (q_28, .inl (cA_29, 3125, .inr (.inl f_30))), (q_33, .inl (cA_31, 3125, .inr (.inl f_32))), (q_37, .inl (cA_35, 3125, .inr (.inl f_36))), (q_41, .inl (cA_39, 3125, .inr (.inl f_40))), (q_45, .inl (cA_43, 3125, .inr (.inl f_44))), (q_49, .inl (cA_47, 3125, .inr (.inl f_48)))]) (w1 := [(q_53, .inl (cA_51, 3125, .inr (.inl f_52))), (q_57, .inl (cA_55, 3125, .inr (.inl f_56)))]) hP hD [7] [0, 1, 2, 3, 4, 5, 6] rfl rfl (by decide) (by decide) hk1 hFc hP1 hD1
  have hK := (hK.sub (tys' := [(cA_29, .long), (cA_31, .long), (cA_35, .long), (cA_39, .long), (cA_43, .long), (cA_47, .long)]) [0, 1, 2, 3, 4, 5] rfl).app hK1
  generalize H1 = H at hP hS ⊢
  have hP : va_P (dC, dI) fxCl [(h0, .inr (6, [.int 0, .int kn, .ref u1, .ref u2])), (q_28, .inl (cA_29, 3125, .inr (.inl f_30))), (q_33, .inl (cA_31, 3125, .inr (.inl f_32))), (q_37, .inl (cA_35, 3125, .inr (.inl f_36))), (q_41, .inl (cA_39, 3125, .inr (.inl f_40))), (q_45, .inl (cA_43, 3125, .inr (.inl f_44))), (q_49, .inl (cA_47, 3125, .inr (.inl f_48))), (q_53, .inl (cA_51, 3125, .inr (.inl f_52))), (q_57, .inl (cA_55, 3125, .inr (.inl f_56)))] H := hP
  have hD : va_D A [(h0, .inr (6, [.int 0, .int kn, .ref u1, .ref u2])), (q_28, .inl (cA_29, 3125, .inr (.inl f_30))), (q_33, .inl (cA_31, 3125, .inr (.inl f_32))), (q_37, .inl (cA_35, 3125, .inr (.inl f_36))), (q_41, .inl (cA_39, 3125, .inr (.inl f_40))), (q_45, .inl (cA_43, 3125, .inr (.inl f_44))), (q_49, .inl (cA_47, 3125, .inr (.inl f_48))), (q_53, .inl (cA_51, 3125, .inr (.inl f_52))), (q_57, .inl (cA_55, 3125, .inr (.inl f_56)))] := hD
  have hK : va_K (dC, dI) fxCl [(cA_29, .long), (cA_31, .long), (cA_35, .long), (cA_39, .long), (cA_43, .long), (cA_47, .long), (cA_51, .long), (cA_55, .long)] s := hK
  refine W.widen (k := 8) (n := 25000) (Nat.le_of_ble_eq_true rfl) (Nat.le_of_ble_eq_true rfl) ?_
  refine lv_astore (lv' := [(8, .ref q_57), (11, .int 6), (9, .long 15625), (6, .long 120), (4, .int 3125), (5, .int 2930), (0, .ref h0), (1, .int 5), (2, .int 7), (3, .int z)]) hx hb dX10_far_111 hl (by decide) rfl (fun ls hl => ?_)
  refine lv_lload hx hb dX10_far_113 (lv_at hl 2 rfl) ?_
  refine lv_iload_n hx hb dX10_far_115 rfl (lv_at hl 7 rfl) ?_
  refine lv_i2l (v := 5) hx hb dX10_far_116 (by decide) ?_
  refine lv_lmul hx hb dX10_far_117 ?_
  refine lv_topl (fun x_58 ex_58 => ?_)
  obtain rfl : x_58 = (78125 : Int64) := ex_58.trans (by decide)
  refine lv_lstore (lv' := [(9, .long 78125), (8, .ref q_57), (11, .int 6), (6, .long 120), (4, .int 3125), (5, .int 2930), (0, .ref h0), (1, .int 5), (2, .int 7), (3, .int z)]) hx hb dX10_far_118 hl (by decide) rfl (fun ls hl => ?_)
  refine lv_iinc (v := 7) (lv' := [(11, .int 7), (9, .long 78125), (8, .ref q_57), (6, .long 120), (4, .int 3125), (5, .int 2930), (0, .ref h0), (1, .int 5), (2, .int 7), (3, .int z)]) hx hb dX10_far_120 hl (k := 2) rfl (by decide) (by decide) rfl (fun ls hl => ?_)
  refine lv_goto (tgt := 99) hx hb dX10_far_123 (by decide) ?_
  refine lv_iload hx hb dX10_far_99 (lv_at hl 0 rfl) ?_
  refine lv_iload_n hx hb dX10_far_101 rfl (lv_at hl 8 rfl) ?_
  refine lv_icmp_ge (tgt := 126) hx hb dX10_far_102 (by decide) (fun _ => ?_) (fun c => absurd (by decide) c)
  refine lv_lconst (v := 0) hx hb dX10_far_126 (by decide) ?_
  refine lv_lstore (lv' := [(11, .long 0), (9, .long 78125), (8, .ref q_57), (6, .long 120), (4, .int 3125), (5, .int 2930), (0, .ref h0), (1, .int 5), (2, .int 7), (3, .int z)]) hx hb dX10_far_127 hl (by decide) rfl (fun ls hl => ?_)
  refine lv_aload hx hb dX10_far_129 (lv_at hl 2 rfl) ?_
  refine lv_astore (lv' := [(13, .ref q_57), (11, .long 0), (9, .long 78125), (8, .ref q_57), (6, .long 120), (4, .int 3125), (5, .int 2930), (0, .ref h0), (1, .int 5), (2, .int 7), (3, .int z)]) hx hb dX10_far_131 hl (by decide) rfl (fun ls hl => ?_)
  refine lv_aload hx hb dX10_far_133 (lv_at hl 0 rfl) ?_
  refine va_alen (v := 3125) hx hb hK hP 8 7 rfl rfl rfl dX10_far_135 ?_
  refine lv_istore (lv' := [(14, .int 3125), (13, .ref q_57), (11, .long 0), (9, .long 78125), (8, .ref q_57), (6, .long 120), (4, .int 3125), (5, .int 2930), (0, .ref h0), (1, .int 5), (2, .int 7), (3, .int z)]) hx hb dX10_far_136 hl (by decide) rfl (fun ls hl => ?_)
  refine lv_iconst (v := 0) hx hb dX10_far_138 (by decide) ?_
  refine lv_istore (lv' := [(15, .int 0), (14, .int 3125), (13, .ref q_57), (11, .long 0), (9, .long 78125), (8, .ref q_57), (6, .long 120), (4, .int 3125), (5, .int 2930), (0, .ref h0), (1, .int 5), (2, .int 7), (3, .int z)]) hx hb dX10_far_139 hl (by decide) rfl (fun ls hl => ?_)
  have loop_141 : ∀ (n : Nat) (j : Nat) (zz : Int64) (ls : Array Slot), 4000 - j < n → j ≤ 3125 → lv_has ls 18 [(15, .int (nI j)), (11, .long zz), (0, .ref h0), (1, .int 5), (2, .int 7), (3, .int z), (4, .int 3125), (5, .int 2930), (6, .long 120), (8, .ref q_57), (9, .long 78125), (13, .ref q_57), (14, .int 3125)] → W p l e (headSpec wsX10_far ({ frames := 3, cells := 9, slots := 25002, locals := 200 } : Room)).room s m ([.ref h0, .int 5, .int 7, .int z] : List Value).toArray below meth c H locs 8 25000 (MQ below (va_Ql (fun (_ : Int64) (_ : Unit) => True) (fun _ t => ∃ L8 : List Nat, L8.length = 8 ∧ fx_big s.heap.size t.heap L8 ∧ fx_en dC dI (A) [(h0, .inr (6, [.int 0, .int kn, .ref u1, .ref u2]))] [] t) (A)) ([.ref h0, .int 5, .int 7, .int z] : List Value).toArray s 9 25002 A) (F0 m 141 ls []) := by
    intro n
    induction n with
    | zero => intro j zz ls hn; exact absurd hn (Nat.not_lt_zero _)
    | succ n ih =>
      intro j zz ls hn hj hl
      refine lv_iload hx hb dX10_far_141 (lv_at hl 0 rfl) ?_
      refine lv_iload hx hb dX10_far_143 (lv_at hl 12 rfl) ?_
      refine lv_icmp_ge (tgt := 178) hx hb dX10_far_145 (by decide) (fun c_141 => ?_) (fun c_141 => ?_)
      · skip
        refine va_new (ci := 5) (fs := [.long 0, .long 0]) (C := RX8) (T := TX8) (N := 2) hx hb hts (by decide +kernel) tyX8 tyX8_ok hown (hts (.classLink RX10 108 RX8) (by decide +kernel)) (hts (.instantiable RX8 2) (by decide +kernel)) (hts (.initialized RX8) (by decide +kernel)) hK hP hD hS hA rfl (fun j hj => by rcases (show j = 0 ∨ j = 1 by omega) with rfl | rfl <;> rfl) (Nat.le_of_ble_eq_true rfl) (Nat.le_of_ble_eq_true rfl) dX10_far_178 (fun q_59 H hP hD hS => ?_)
        refine W.widen (k := 9) (n := 25002) (Nat.le_of_ble_eq_true rfl) (Nat.le_of_ble_eq_true rfl) ?_
        have hP : va_P (dC, dI) fxCl [(h0, .inr (6, [.int 0, .int kn, .ref u1, .ref u2])), (q_28, .inl (cA_29, 3125, .inr (.inl f_30))), (q_33, .inl (cA_31, 3125, .inr (.inl f_32))), (q_37, .inl (cA_35, 3125, .inr (.inl f_36))), (q_41, .inl (cA_39, 3125, .inr (.inl f_40))), (q_45, .inl (cA_43, 3125, .inr (.inl f_44))), (q_49, .inl (cA_47, 3125, .inr (.inl f_48))), (q_53, .inl (cA_51, 3125, .inr (.inl f_52))), (q_57, .inl (cA_55, 3125, .inr (.inl f_56))), (q_59, .inr (5, [.long 0, .long 0]))] H := hP
        have hD : va_D A [(h0, .inr (6, [.int 0, .int kn, .ref u1, .ref u2])), (q_28, .inl (cA_29, 3125, .inr (.inl f_30))), (q_33, .inl (cA_31, 3125, .inr (.inl f_32))), (q_37, .inl (cA_35, 3125, .inr (.inl f_36))), (q_41, .inl (cA_39, 3125, .inr (.inl f_40))), (q_45, .inl (cA_43, 3125, .inr (.inl f_44))), (q_49, .inl (cA_47, 3125, .inr (.inl f_48))), (q_53, .inl (cA_51, 3125, .inr (.inl f_52))), (q_57, .inl (cA_55, 3125, .inr (.inl f_56))), (q_59, .inr (5, [.long 0, .long 0]))] := hD
        refine lv_dup hx hb dX10_far_181 rfl ?_
        have hPc := hP.sub (ws' := [(q_59, .inr (5, [.long 0, .long 0]))]) [9] rfl
        have hDc := hD.sub (ws' := [(q_59, .inr (5, [.long 0, .long 0]))]) [9] (by decide) rfl
        have hKc := hK.sub (tys' := []) [] rfl
        have hFc := va_free (wc := [(q_59, .inr (5, [.long 0, .long 0]))]) hD hS hA [9] rfl
        refine va_callv (va_runIN (As := []) (rest := [.ref q_59]) ⟨hx, hb, hml, hown, hts⟩ (c_X8_init l dC dI q_59 H.size) ⟨va_cnB 0 hts gX10_far_X8_init_n113 rfl rfl rfl (hnw.2.2.2.2.2.2.2.1) (hts (.initialized RX8) (by decide +kernel)) (by decide +kernel) ⟨Nat.le_of_ble_eq_true rfl, Nat.le_of_ble_eq_true rfl⟩, rfl, hts (.instanceMethod yX8_init) (by decide +kernel)⟩ (fx_preS hPc hKc hDc hnw) rfl rfl hl.1 rfl (lv_room (Nat.le_of_ble_eq_true rfl)) dX10_far_182 ⟨(Nat.le_of_ble_eq_true rfl), (Nat.le_of_ble_eq_true rfl)⟩) hS (fun q _ h => hFc q h) hFc (fun u t H1 locs ht hvm hw hB hz1 hk1 hS => ?_)
        obtain ⟨hP1, hK1, hD1⟩ := hB
        rw [ht] at hP1
        have hK1 := va_K.moved hvm.symm hK1
        obtain ⟨hP, hD⟩ := va_join (wr := [(h0, .inr (6, [.int 0, .int kn, .ref u1, .ref u2])), (q_28, .inl (cA_29, 3125, .inr (.inl f_30))), (q_33, .inl (cA_31, 3125, .inr (.inl f_32))), (q_37, .inl (cA_35, 3125, .inr (.inl f_36))), (q_41, .inl (cA_39, 3125, .inr (.inl f_40))), (q_45, .inl (cA_43, 3125, .inr (.inl f_44))), (q_49, .inl (cA_47, 3125, .inr (.inl f_48))), (q_53, .inl (cA_51, 3125, .inr (.inl f_52))), (q_57, .inl (cA_55, 3125, .inr (.inl f_56)))]) (w1 := [(q_59, .inr (5, [.long 0, .long 1]))]) hP hD [9] [0, 1, 2, 3, 4, 5, 6, 7, 8] rfl rfl (by decide) (by decide) hk1 hFc hP1 hD1
        have hK := (hK.sub (tys' := [(cA_29, .long), (cA_31, .long), (cA_35, .long), (cA_39, .long), (cA_43, .long), (cA_47, .long), (cA_51, .long), (cA_55, .long)]) [0, 1, 2, 3, 4, 5, 6, 7] rfl).app hK1
        generalize H1 = H at hP hS ⊢
        have hP : va_P (dC, dI) fxCl [(h0, .inr (6, [.int 0, .int kn, .ref u1, .ref u2])), (q_28, .inl (cA_29, 3125, .inr (.inl f_30))), (q_33, .inl (cA_31, 3125, .inr (.inl f_32))), (q_37, .inl (cA_35, 3125, .inr (.inl f_36))), (q_41, .inl (cA_39, 3125, .inr (.inl f_40))), (q_45, .inl (cA_43, 3125, .inr (.inl f_44))), (q_49, .inl (cA_47, 3125, .inr (.inl f_48))), (q_53, .inl (cA_51, 3125, .inr (.inl f_52))), (q_57, .inl (cA_55, 3125, .inr (.inl f_56))), (q_59, .inr (5, [.long 0, .long 1]))] H := hP
        have hD : va_D A [(h0, .inr (6, [.int 0, .int kn, .ref u1, .ref u2])), (q_28, .inl (cA_29, 3125, .inr (.inl f_30))), (q_33, .inl (cA_31, 3125, .inr (.inl f_32))), (q_37, .inl (cA_35, 3125, .inr (.inl f_36))), (q_41, .inl (cA_39, 3125, .inr (.inl f_40))), (q_45, .inl (cA_43, 3125, .inr (.inl f_44))), (q_49, .inl (cA_47, 3125, .inr (.inl f_48))), (q_53, .inl (cA_51, 3125, .inr (.inl f_52))), (q_57, .inl (cA_55, 3125, .inr (.inl f_56))), (q_59, .inr (5, [.long 0, .long 1]))] := hD
        have hK : va_K (dC, dI) fxCl [(cA_29, .long), (cA_31, .long), (cA_35, .long), (cA_39, .long), (cA_43, .long), (cA_47, .long), (cA_51, .long), (cA_55, .long)] s := hK
        refine lv_lconst (v := 1) hx hb dX10_far_185 (by decide) ?_
        refine lv_lload hx hb dX10_far_186 (lv_at hl 1 rfl) ?_
        refine lv_lload hx hb dX10_far_188 (lv_at hl 10 rfl) ?_
        refine lv_lload hx hb dX10_far_190 (lv_at hl 8 rfl) ?_
        refine lv_lmul hx hb dX10_far_192 ?_
        refine lv_topl (fun x_60 ex_60 => ?_)
        obtain rfl : x_60 = (9375000 : Int64) := ex_60.trans (by decide)
        have hPc := hP.sub (ws' := [(q_59, .inr (5, [.long 0, .long 1]))]) [9] rfl
        have hDc := hD.sub (ws' := [(q_59, .inr (5, [.long 0, .long 1]))]) [9] (by decide) rfl
        have hKc := hK.sub (tys' := []) [] rfl
        have hFc := va_free (wc := [(q_59, .inr (5, [.long 0, .long 1]))]) hD hS hA [9] rfl
        refine va_callr (va_runV (As := [.long 1, .long zz, .long 9375000]) (rest := []) ⟨hx, hb, hml, hown, hts⟩ (c_X8_add l dC dI q_59 zz H.size) (cwV 3 hts gX10_far_X8_add rfl rfl rfl (by decide +kernel) ⟨Nat.le_of_ble_eq_true rfl, Nat.le_of_ble_eq_true rfl⟩) (fx_preV hPc hKc hDc hnw rfl rfl) rfl rfl hl.1 rfl (lv_room (Nat.le_of_ble_eq_true rfl)) dX10_far_193 ⟨(Nat.le_of_ble_eq_true rfl), (Nat.le_of_ble_eq_true rfl)⟩) hS (fun q _ h => hFc q h) hFc (fun u q_63 t H1 locs ht hvm hw hB hz1 hk1 hS => ?_)
        obtain ⟨hra, y_61, y_62, hP1, hK1, hD1⟩ := hB
        subst hra
        rw [ht] at hP1
        have hK1 := va_K.moved hvm.symm hK1
        obtain ⟨hP, hD⟩ := va_join (wr := [(h0, .inr (6, [.int 0, .int kn, .ref u1, .ref u2])), (q_28, .inl (cA_29, 3125, .inr (.inl f_30))), (q_33, .inl (cA_31, 3125, .inr (.inl f_32))), (q_37, .inl (cA_35, 3125, .inr (.inl f_36))), (q_41, .inl (cA_39, 3125, .inr (.inl f_40))), (q_45, .inl (cA_43, 3125, .inr (.inl f_44))), (q_49, .inl (cA_47, 3125, .inr (.inl f_48))), (q_53, .inl (cA_51, 3125, .inr (.inl f_52))), (q_57, .inl (cA_55, 3125, .inr (.inl f_56)))]) (w1 := [(q_59, .inr (5, [.long y_61, .long y_62]))]) hP hD [9] [0, 1, 2, 3, 4, 5, 6, 7, 8] rfl rfl (by decide) (by decide) hk1 hFc hP1 hD1
        have hK := (hK.sub (tys' := [(cA_29, .long), (cA_31, .long), (cA_35, .long), (cA_39, .long), (cA_43, .long), (cA_47, .long), (cA_51, .long), (cA_55, .long)]) [0, 1, 2, 3, 4, 5, 6, 7] rfl).app hK1
        generalize H1 = H at hP hS ⊢
        have hP : va_P (dC, dI) fxCl [(h0, .inr (6, [.int 0, .int kn, .ref u1, .ref u2])), (q_28, .inl (cA_29, 3125, .inr (.inl f_30))), (q_33, .inl (cA_31, 3125, .inr (.inl f_32))), (q_37, .inl (cA_35, 3125, .inr (.inl f_36))), (q_41, .inl (cA_39, 3125, .inr (.inl f_40))), (q_45, .inl (cA_43, 3125, .inr (.inl f_44))), (q_49, .inl (cA_47, 3125, .inr (.inl f_48))), (q_53, .inl (cA_51, 3125, .inr (.inl f_52))), (q_57, .inl (cA_55, 3125, .inr (.inl f_56))), (q_59, .inr (5, [.long y_61, .long y_62]))] H := hP
        have hD : va_D A [(h0, .inr (6, [.int 0, .int kn, .ref u1, .ref u2])), (q_28, .inl (cA_29, 3125, .inr (.inl f_30))), (q_33, .inl (cA_31, 3125, .inr (.inl f_32))), (q_37, .inl (cA_35, 3125, .inr (.inl f_36))), (q_41, .inl (cA_39, 3125, .inr (.inl f_40))), (q_45, .inl (cA_43, 3125, .inr (.inl f_44))), (q_49, .inl (cA_47, 3125, .inr (.inl f_48))), (q_53, .inl (cA_51, 3125, .inr (.inl f_52))), (q_57, .inl (cA_55, 3125, .inr (.inl f_56))), (q_59, .inr (5, [.long y_61, .long y_62]))] := hD
        have hK : va_K (dC, dI) fxCl [(cA_29, .long), (cA_31, .long), (cA_35, .long), (cA_39, .long), (cA_43, .long), (cA_47, .long), (cA_51, .long), (cA_55, .long)] s := hK
        refine lv_iload_n hx hb dX10_far_196 rfl (lv_at hl 5 rfl) ?_
        have hPc := hP.sub (ws' := [(q_59, .inr (5, [.long y_61, .long y_62]))]) [9] rfl
        have hDc := hD.sub (ws' := [(q_59, .inr (5, [.long y_61, .long y_62]))]) [9] (by decide) rfl
        have hKc := hK.sub (tys' := []) [] rfl
        refine vp_callSl ((va_runV (As := [.int z]) (rest := []) ⟨hx, hb, hml, hown, hts⟩ (c_X8_part l dC dI q_59 z y_61 y_62 H.size) (cwV 1 hts gX10_far_X8_part rfl rfl rfl (by decide +kernel) ⟨Nat.le_of_ble_eq_true rfl, Nat.le_of_ble_eq_true rfl⟩) (fx_preV hPc hKc hDc hnw rfl rfl) rfl rfl hl.1 rfl (lv_room (Nat.le_of_ble_eq_true rfl)) dX10_far_197 ⟨(Nat.le_of_ble_eq_true rfl), (Nat.le_of_ble_eq_true rfl)⟩).run) (fun r_64 hr_64 => ?_)
        have hPb := hP.sub (ws' := [(h0, .inr (6, [.int 0, .int kn, .ref u1, .ref u2])), (q_28, .inl (cA_29, 3125, .inr (.inl f_30))), (q_33, .inl (cA_31, 3125, .inr (.inl f_32))), (q_37, .inl (cA_35, 3125, .inr (.inl f_36))), (q_41, .inl (cA_39, 3125, .inr (.inl f_40))), (q_45, .inl (cA_43, 3125, .inr (.inl f_44))), (q_49, .inl (cA_47, 3125, .inr (.inl f_48))), (q_53, .inl (cA_51, 3125, .inr (.inl f_52))), (q_57, .inl (cA_55, 3125, .inr (.inl f_56)))]) [0, 1, 2, 3, 4, 5, 6, 7, 8] rfl
        have hDb := hD.sub (ws' := [(h0, .inr (6, [.int 0, .int kn, .ref u1, .ref u2])), (q_28, .inl (cA_29, 3125, .inr (.inl f_30))), (q_33, .inl (cA_31, 3125, .inr (.inl f_32))), (q_37, .inl (cA_35, 3125, .inr (.inl f_36))), (q_41, .inl (cA_39, 3125, .inr (.inl f_40))), (q_45, .inl (cA_43, 3125, .inr (.inl f_44))), (q_49, .inl (cA_47, 3125, .inr (.inl f_48))), (q_53, .inl (cA_51, 3125, .inr (.inl f_52))), (q_57, .inl (cA_55, 3125, .inr (.inl f_56)))]) [0, 1, 2, 3, 4, 5, 6, 7, 8] (by decide) rfl
        have hbig := fx_bigof hAe hDb hPb (by
          intro x hx
          simp only [List.mem_cons, List.not_mem_nil, or_false] at hx
          rcases hx with rfl | rfl | rfl | rfl | rfl | rfl | rfl | rfl <;> exact ⟨_, _, rfl⟩)
        have hP9 := hP.sub (ws' := [(h0, .inr (6, [.int 0, .int kn, .ref u1, .ref u2]))]) [0] rfl
        have hD9 := hD.sub (ws' := [(h0, .inr (6, [.int 0, .int kn, .ref u1, .ref u2]))]) [0] (by decide) rfl
        have hK9 := hK.sub (tys' := []) [] rfl
        refine W.widen (k := 9) (n := 25002) (Nat.le_of_ble_eq_true rfl) (Nat.le_of_ble_eq_true rfl) ?_
        exact W.lret (v := r_64) hx hb hr (fun t ht hW => ⟨⟨r_64, (), rfl, trivial, [q_28, q_33, q_37, q_41, q_45, q_49, q_53, q_57], rfl, by rw [ht]; exact hbig, by rw [ht]; exact hP9, va_K.moved hW.alike hK9, hD9⟩, hS.F ht⟩) hS.2.2 dX10_far_200
      · skip
        have hj5 : j < 3125 := fx_ge (n := 3125) c_141 (by decide) (by omega)
        refine lv_aload hx hb dX10_far_148 (lv_at hl 11 rfl) ?_
        refine lv_iload hx hb dX10_far_150 (lv_at hl 0 rfl) ?_
        refine va_lald hx hb hK hP 8 7 rfl rfl (vp_in_nI (N := 3125) hj5 (by decide)) dX10_far_152 ?_
        refine lv_topl (fun x_65 ex_65 => ?_)
        refine lv_lstore (lv' := [(16, .long x_65), (15, .int (nI j)), (11, .long zz), (0, .ref h0), (1, .int 5), (2, .int 7), (3, .int z), (4, .int 3125), (5, .int 2930), (6, .long 120), (8, .ref q_57), (9, .long 78125), (13, .ref q_57), (14, .int 3125)]) hx hb dX10_far_153 hl (by decide) rfl (fun ls hl => ?_)
        refine lv_lload hx hb dX10_far_155 (lv_at hl 2 rfl) ?_
        refine lv_lconst (v := 0) hx hb dX10_far_157 (by decide) ?_
        refine lv_lload hx hb dX10_far_158 (lv_at hl 0 rfl) ?_
        refine lv_lload hx hb dX10_far_160 (lv_at hl 9 rfl) ?_
        refine lv_lmul hx hb dX10_far_162 ?_
        refine lv_topl (fun x_66 ex_66 => ?_)
        refine lv_lload hx hb dX10_far_163 (lv_at hl 11 rfl) ?_
        refine lv_lsub hx hb dX10_far_165 ?_
        refine lv_topl (fun x_67 ex_67 => ?_)
        refine va_mmax_long hx hb (hml.trans hl.1.symm) hown (hts (.methodLink RX10 240 Lib.MathLoose.max_long.x) (by decide +kernel)) (hts (.static Lib.MathLoose.max_long.x) (by decide +kernel)) (hts (.initialized "java/lang/Math") (by decide +kernel)) (hts (.code Lib.MathLoose.max_long.x Lib.MathLoose.max_long.code 4 (some .long)) (by decide +kernel)) (Nat.le_of_ble_eq_true rfl) (Nat.le_of_ble_eq_true rfl) (Nat.le_of_ble_eq_true rfl) (Nat.le_of_ble_eq_true rfl) dX10_far_166 ?_
        refine lv_topl (fun x_68 ex_68 => ?_)
        refine lv_ladd hx hb dX10_far_169 ?_
        refine lv_topl (fun x_69 ex_69 => ?_)
        refine lv_lstore (lv' := [(11, .long x_69), (16, .long x_65), (15, .int (nI j)), (0, .ref h0), (1, .int 5), (2, .int 7), (3, .int z), (4, .int 3125), (5, .int 2930), (6, .long 120), (8, .ref q_57), (9, .long 78125), (13, .ref q_57), (14, .int 3125)]) hx hb dX10_far_170 hl (by decide) rfl (fun ls hl => ?_)
        refine lv_iinc (v := nI (j + 1)) (lv' := [(15, .int (nI (j + 1))), (11, .long x_69), (16, .long x_65), (0, .ref h0), (1, .int 5), (2, .int 7), (3, .int z), (4, .int 3125), (5, .int 2930), (6, .long 120), (8, .ref q_57), (9, .long 78125), (13, .ref q_57), (14, .int 3125)]) hx hb dX10_far_172 hl (k := 2) rfl (nI_add j 1) (by decide) rfl (fun ls hl => ?_)
        refine lv_goto (tgt := 141) hx hb dX10_far_175 (by decide) ?_
        exact ih (j + 1) x_69 ls (by omega) (by omega) (lv_sub hl [0, 1, 3, 4, 5, 6, 7, 8, 9, 10, 11, 12, 13] rfl)
  exact loop_141 4001 0 0 ls (by omega) (by omega) (lv_sub hl [0, 3, 9, 10, 11, 12, 7, 8, 6, 5, 4, 2, 1] rfl)
