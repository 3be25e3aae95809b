/-! the nest mates' links and the classes of arrays of references: the words that the lists of words do not carry -/
def fx_nw (U : State) : Prop := va_Nw (.methodLinkNest RX5 23 yX1_init RX5) U ∧ va_Nw (.methodLinkNest RX5 30 yX3_init RX5) U ∧ va_Nw (.methodLinkNest RX5 37 yX0_init RX5) U ∧ va_Nw (.methodLinkNest RX5 251 yX0_shuffle RX5) U ∧ va_Nw (.methodLinkNest RX5 255 yX0_sumOfDifferences RX5) U ∧ va_Nw (.methodLinkNest RX0 15 yX5_put_ RX5) U ∧ va_Nw (.methodLinkNest RX0 19 yX5_at_ RX5) U ∧ va_Nw (.methodLinkNest RX10 113 yX8_init RX10) U ∧ va_Nw (.methodLinkNest RX8 16 yX10_common RX10) U ∧ va_Nw (.methodLinkNest RL 132 yX6_init RL) U ∧ va_Nw (.fieldLinkNest RL 13 RX6 "n" "J" RL) U ∧ va_AO RX4 U ∧ va_AO RX2 U
theorem fx_nw.same {u U : State} (h : u.vm = U.vm) (q : fx_nw u) : fx_nw U := by
  obtain ⟨q0, q1, q2, q3, q4, q5, q6, q7, q8, q9, q10, q11, q12⟩ := q
  exact ⟨va_Nw.same rfl h q0, va_Nw.same rfl h q1, va_Nw.same rfl h q2, va_Nw.same rfl h q3, va_Nw.same rfl h q4, va_Nw.same rfl h q5, va_Nw.same rfl h q6, va_Nw.same rfl h q7, va_Nw.same rfl h q8, va_Nw.same rfl h q9, va_Nw.same rfl h q10, va_AO.moved (h ▸ Vm.Alike.refl _) q11, va_AO.moved (h ▸ Vm.Alike.refl _) q12⟩
theorem fx_nw.warm {u U : State} (hW : u.WarmedH U.vm) (q : fx_nw u) : fx_nw U := by
  obtain ⟨q0, q1, q2, q3, q4, q5, q6, q7, q8, q9, q10, q11, q12⟩ := q
  exact ⟨va_Nw.warmM hW q0, va_Nw.warmM hW q1, va_Nw.warmM hW q2, va_Nw.warmM hW q3, va_Nw.warmM hW q4, va_Nw.warmM hW q5, va_Nw.warmM hW q6, va_Nw.warmM hW q7, va_Nw.warmM hW q8, va_Nw.warmM hW q9, va_Nw.warmF hW q10, va_AO.moved hW.alike q11, va_AO.moved hW.alike q12⟩
theorem fx_h {p : Program} {l : Launch} {e : Env} {R : Room} {s : State} {m : MethodId} {args : Array Value} {below : List Frame} {meth : Method} {c : Code} {H H' : Heap} {locs : List Loc} {cells slots : Nat} {Q : State → Prop} {g : JFrame} (h : H = H') (k : W p l e R s m args below meth c H locs cells slots Q g) : W p l e R s m args below meth c H' locs cells slots Q g := h ▸ k
/-- a start: the heap's size, a world, the classes, the links -/
def fx_st (dC : Nat → ClassId) (dI : Nat → Nat → Nat) (ws : va_W) (tys : List (ClassId × FieldType)) (sz : Nat) (U : State) : Prop := U.heap.size = sz ∧ va_P (dC, dI) fxCl ws U.heap ∧ va_K (dC, dI) fxCl tys U ∧ va_D (fun _ => True) ws ∧ fx_nw U
/-- an end -/
abbrev fx_en (dC : Nat → ClassId) (dI : Nat → Nat → Nat) (A : Nat → Prop) (ws : va_W) (tys : List (ClassId × FieldType)) (t : State) : Prop := va_P (dC, dI) fxCl ws t.heap ∧ va_K (dC, dI) fxCl tys t ∧ va_D A ws
theorem fx_blind {dC : Nat → ClassId} {dI : Nat → Nat → Nat} {ws : va_W} {tys : List (ClassId × FieldType)} {sz : Nat} {As : List Value} : FrameBlind (va_Pc As (fx_st dC dI ws tys sz)) := fun a U g mk q => by
  obtain ⟨q0, q1, q2, q3, q4, q5⟩ := q
  exact ⟨q0, q1, q2, va_K.moved (u := U) (U := U.calling g mk a) (Vm.Alike.refl U.vm) q3, q4, fx_nw.same (u := U) (U := U.calling g mk a) rfl q5⟩
theorem fx_preS {dC : Nat → ClassId} {dI : Nat → Nat → Nat} {wc : va_W} {tys : List (ClassId × FieldType)} {s : State} {H : Heap} {A : Nat → Prop} {As : List Value} (hP : va_P (dC, dI) fxCl wc H) (hK : va_K (dC, dI) fxCl tys s) (hD : va_D A wc) (hnw : fx_nw s) : PreS s H (va_Pc As (fx_st dC dI wc tys H.size)) As :=
  ⟨fx_blind, fun U hU hW => ⟨rfl, by rw [hU], by rw [hU]; exact hP, va_K.moved hW.alike hK, hD.weaken (fun _ _ _ _ => trivial), fx_nw.warm hW hnw⟩⟩
theorem fx_preV {dC : Nat → ClassId} {dI : Nat → Nat → Nat} {wc : va_W} {tys : List (ClassId × FieldType)} {s : State} {H : Heap} {A : Nat → Prop} {As : List Value} {a ci : Nat} {q : vw_C} {fs : List Value} (hP : va_P (dC, dI) fxCl wc H) (hK : va_K (dC, dI) fxCl tys s) (hD : va_D A wc) (hnw : fx_nw s) (hc : fxCl[ci]? = some q) (he : wc[0]? = some (a, .inr (ci, fs))) : PreV s H q.1 a (va_Pc (.ref a :: As) (fx_st dC dI wc tys H.size)) As :=
  ⟨fx_blind, va_recv hK hP hc he, fun U hU hW => ⟨rfl, by rw [hU], by rw [hU]; exact hP, va_K.moved hW.alike hK, hD.weaken (fun _ _ _ _ => trivial), fx_nw.warm hW hnw⟩⟩
theorem fx_in6 {i : Int32} (h1 : ¬ i < 0) (h2 : ¬ (6 : Int32) ≤ i) : vp_in i 6 := vp_in_iff.mpr ⟨by rw [Int32.lt_iff_toInt_lt] at h1; have : (0 : Int32).toInt = 0 := rfl; omega, by rw [Int32.le_iff_toInt_le] at h2; have : (6 : Int32).toInt = 6 := rfl; omega⟩
set_option maxHeartbeats 4000000 in
set_option maxRecDepth 100000 in
/-- at(row, place), for a row of 6 -/
theorem c_X5_at_ (l : Launch) (dC : Nat → ClassId) (dI : Nat → Nat → Nat) (q : Nat) (cA : ClassId) (i : Int32) (f : Nat → Int64) (sz : Nat) : Met l yX5_at_ wsX5_at_ ({ frames := 0, cells := 0, slots := 0, locals := 0 } : Room) (va_Pc [.ref q, .int i] (fx_st dC dI [(q, .inl (cA, 6, .inr (.inl f)))] [(cA, .long)] sz)) (vp_Sl (fun _ => True)) 0 0 (fun _ => False) := by
  refine Met.ofW (cc := cX5_at_) (maxL := 2) (ret := (some .long)) (by decide) rfl ?_
  intro p e s m args below meth c s₁ B hml hv
  obtain ⟨rfl, hsz, hP, hK, hD0, hnw⟩ := hv
  have hx := B.exec
  have hb := B.bytes
  have hr := B.returns
  have hts := atoms_spec (ws := wsX5_at_) B.pre
  have hown : s.vm.findClass RX5 = some m.cls := findClass_of_methodNamed B.named
  have hlocks := B.notSynchronized
  subst hsz
  have hD := hD0
  generalize hHe : s.heap = H at hP ⊢
  have hK : va_K (dC, dI) fxCl [(cA, .long)] s := hK
  have hl := lv_entry ([.ref q, .int i]) (n := 2) (Nat.le_of_ble_eq_true rfl)
  rw [lg_entry_eq]
  generalize (lg_sl ([.ref q, .int i]) ++ List.replicate (2 - (lg_sl ([.ref q, .int i])).length) Slot.unset).toArray = ls at hl ⊢
  have hl : lv_has ls 2 [(0, .ref q), (1, .int i)] := hl
  refine lv_iload_n hx hb dX5_at__0 rfl (lv_at hl 1 rfl) ?_
  refine lv_if_lt (tgt := 16) hx hb dX5_at__1 (by decide) (fun c_1 => ?_) (fun c_1 => ?_)
  · skip
    refine lv_lconst (v := 0) hx hb dX5_at__16 (by decide) ?_
    exact W.lret (v := 0) hx hb hr (fun t ht hW => ⟨0, rfl, trivial, ht.trans hHe.symm⟩) (fun _ h => by cases h) dX5_at__17
  · skip
    refine lv_iload_n hx hb dX5_at__4 rfl (lv_at hl 1 rfl) ?_
    refine lv_aload_n hx hb dX5_at__5 rfl (lv_at hl 0 rfl) ?_
    refine va_alen (v := 6) hx hb hK hP 0 0 rfl rfl rfl dX5_at__6 ?_
    refine lv_icmp_ge (tgt := 16) hx hb dX5_at__7 (by decide) (fun c_2 => ?_) (fun c_2 => ?_)
    · skip
      refine lv_lconst (v := 0) hx hb dX5_at__16 (by decide) ?_
      exact W.lret (v := 0) hx hb hr (fun t ht hW => ⟨0, rfl, trivial, ht.trans hHe.symm⟩) (fun _ h => by cases h) dX5_at__17
    · skip
      refine lv_aload_n hx hb dX5_at__10 rfl (lv_at hl 0 rfl) ?_
      refine lv_iload_n hx hb dX5_at__11 rfl (lv_at hl 1 rfl) ?_
      refine va_lald hx hb hK hP 0 0 rfl rfl (fx_in6 c_1 c_2) dX5_at__12 ?_
      refine lv_topl (fun x_3 ex_3 => ?_)
      refine lv_goto (tgt := 17) hx hb dX5_at__13 (by decide) ?_
      exact W.lret (v := x_3) hx hb hr (fun t ht hW => ⟨x_3, rfl, trivial, ht.trans hHe.symm⟩) (fun _ h => by cases h) dX5_at__17
set_option maxHeartbeats 4000000 in
set_option maxRecDepth 100000 in
/-- put(row, place, z), for a row of 6 -/
theorem c_X5_put_ (l : Launch) (dC : Nat → ClassId) (dI : Nat → Nat → Nat) (q : Nat) (cA : ClassId) (i : Int32) (z : Int64) (f : Nat → Int64) (sz : Nat) : Met l yX5_put_ wsX5_put_ ({ frames := 0, cells := 0, slots := 0, locals := 0 } : Room) (va_Pc [.ref q, .int i, .long z] (fx_st dC dI [(q, .inl (cA, 6, .inr (.inl f)))] [(cA, .long)] sz)) (va_Qv (fun _ : Unit => True) (fun _ t => ∃ g : Nat → Int64, fx_en dC dI (va_A [(q, .inl (cA, 6, .inr (.inl f)))] sz) [(q, .inl (cA, 6, .inr (.inl g)))] [(cA, .long)] t) (va_A [(q, .inl (cA, 6, .inr (.inl f)))] sz)) 0 0 (va_A [(q, .inl (cA, 6, .inr (.inl f)))] sz) := by
  refine Met.ofW (cc := cX5_put_) (maxL := 4) (ret := none) (by decide) rfl ?_
  intro p e s m args below meth c s₁ B hml hv
  obtain ⟨rfl, hsz, hP, hK, hD0, hnw⟩ := hv
  have hx := B.exec
  have hb := B.bytes
  have hr := B.returns
  have hts := atoms_spec (ws := wsX5_put_) B.pre
  have hown : s.vm.findClass RX5 = some m.cls := findClass_of_methodNamed B.named
  have hlocks := B.notSynchronized
  subst hsz
  have hD := hD0.self (sz := s.heap.size)
  generalize hAe : va_A [(q, .inl (cA, 6, .inr (.inl f)))] s.heap.size = A at hD ⊢
  have hA : ∀ q : Nat, s.heap.size ≤ q → A q := fun q h => by rw [← hAe]; exact Or.inr h
  obtain ⟨H, hHe⟩ : ∃ H, H = s.heap := ⟨_, rfl⟩
  have hS : va_S A s.heap H [] := by rw [hHe]; exact va_S.rf
  have hP : va_P (dC, dI) fxCl [(q, .inl (cA, 6, .inr (.inl f)))] H := by rw [hHe]; exact hP
  refine fx_h hHe ?_
  have hl := lv_entry ([.ref q, .int i, .long z]) (n := 4) (Nat.le_of_ble_eq_true rfl)
  rw [lg_entry_eq]
  generalize (lg_sl ([.ref q, .int i, .long z]) ++ List.replicate (4 - (lg_sl ([.ref q, .int i, .long z])).length) Slot.unset).toArray = ls at hl ⊢
  have hl : lv_has ls 4 [(0, .ref q), (1, .int i), (2, .long z)] := hl
  refine lv_iload_n hx hb dX5_put__0 rfl (lv_at hl 1 rfl) ?_
  refine lv_if_lt (tgt := 14) hx hb dX5_put__1 (by decide) (fun c_1 => ?_) (fun c_1 => ?_)
  · skip
    have hP9 := hP.sub (ws' := [(q, .inl (cA, 6, .inr (.inl f)))]) [0] rfl
    have hD9 := hD.sub (ws' := [(q, .inl (cA, 6, .inr (.inl f)))]) [0] (by decide) rfl
    have hK9 := hK.sub (tys' := [(cA, .long)]) [0] rfl
    exact W.vret hx hb hr (fun t ht hW => ⟨⟨(), rfl, trivial, f, by rw [ht]; exact hP9, va_K.moved hW.alike hK9, hD9⟩, hS.F ht⟩) hS.2.2 dX5_put__14
  · skip
    refine lv_iload_n hx hb dX5_put__4 rfl (lv_at hl 1 rfl) ?_
    refine lv_aload_n hx hb dX5_put__5 rfl (lv_at hl 0 rfl) ?_
    refine va_alen (v := 6) hx hb hK hP 0 0 rfl rfl rfl dX5_put__6 ?_
    refine lv_icmp_ge (tgt := 14) hx hb dX5_put__7 (by decide) (fun c_2 => ?_) (fun c_2 => ?_)
    · skip
      have hP9 := hP.sub (ws' := [(q, .inl (cA, 6, .inr (.inl f)))]) [0] rfl
      have hD9 := hD.sub (ws' := [(q, .inl (cA, 6, .inr (.inl f)))]) [0] (by decide) rfl
      have hK9 := hK.sub (tys' := [(cA, .long)]) [0] rfl
      exact W.vret hx hb hr (fun t ht hW => ⟨⟨(), rfl, trivial, f, by rw [ht]; exact hP9, va_K.moved hW.alike hK9, hD9⟩, hS.F ht⟩) hS.2.2 dX5_put__14
    · skip
      refine lv_aload_n hx hb dX5_put__10 rfl (lv_at hl 0 rfl) ?_
      refine lv_iload_n hx hb dX5_put__11 rfl (lv_at hl 1 rfl) ?_
      refine lv_lload_n hx hb dX5_put__12 rfl (lv_at hl 2 rfl) ?_
      refine va_last hx hb hK hP hD hS 0 0 rfl rfl (fx_in6 c_1 c_2) dX5_put__13 (fun H locs hP hD hS => ?_)
      obtain ⟨f_3, ef_3⟩ : ∃ g9 : Nat → Int64, g9 = vp_updL f i.toNatClampNeg z := ⟨_, rfl⟩
      rw [← ef_3] at hP hD
      have hP : va_P (dC, dI) fxCl [(q, .inl (cA, 6, .inr (.inl f_3)))] H := hP
      have hD : va_D A [(q, .inl (cA, 6, .inr (.inl f_3)))] := hD
      have hP9 := hP.sub (ws' := [(q, .inl (cA, 6, .inr (.inl f_3)))]) [0] rfl
      have hD9 := hD.sub (ws' := [(q, .inl (cA, 6, .inr (.inl f_3)))]) [0] (by decide) rfl
      have hK9 := hK.sub (tys' := [(cA, .long)]) [0] rfl
      exact W.vret hx hb hr (fun t ht hW => ⟨⟨(), rfl, trivial, f_3, by rw [ht]; exact hP9, va_K.moved hW.alike hK9, hD9⟩, hS.F ht⟩) hS.2.2 dX5_put__14
set_option maxHeartbeats 4000000 in
set_option maxRecDepth 100000 in
/-- Deck() -/
theorem c_X0_init (l : Launch) (dC : Nat → ClassId) (dI : Nat → Nat → Nat) (h0 : Nat) (sz : Nat) : Met l yX0_init wsX0_init ({ frames := 1, cells := 1, slots := 6, locals := 40 } : Room) (va_Pc [.ref h0] (fx_st dC dI [(h0, .inr (0, [.null]))] [] sz)) (va_Qv (fun _ : Unit => True) (fun _ t => ∃ (q : Nat) (cA : ClassId) (f : Nat → Int64), fx_en dC dI (va_A [(h0, .inr (0, [.null]))] sz) [(h0, .inr (0, [.ref q])), (q, .inl (cA, 6, .inr (.inl f)))] [(cA, .long)] t) (va_A [(h0, .inr (0, [.null]))] sz)) 1 6 (va_A [(h0, .inr (0, [.null]))] sz) := by
  refine Met.ofW (cc := cX0_init) (maxL := 1) (ret := none) (by decide) rfl ?_
  intro p e s m args below meth c s₁ B hml hv
  obtain ⟨rfl, hsz, hP, hK, hD0, hnw⟩ := hv
  have hx := B.exec
  have hb := B.bytes
  have hr := B.returns
  have hts := atoms_spec (ws := wsX0_init) B.pre
  have hown : s.vm.findClass RX0 = some m.cls := findClass_of_methodNamed B.named
  have hlocks := B.notSynchronized
  have hin : meth.name = "<init>" := (name_of_methodNamed B.named B.method).1
  subst hsz
  have hD := hD0.self (sz := s.heap.size)
  generalize hAe : va_A [(h0, .inr (0, [.null]))] s.heap.size = A at hD ⊢
  have hA : ∀ q : Nat, s.heap.size ≤ q → A q := fun q h => by rw [← hAe]; exact Or.inr h
  obtain ⟨H, hHe⟩ : ∃ H, H = s.heap := ⟨_, rfl⟩
  have hS : va_S A s.heap H [] := by rw [hHe]; exact va_S.rf
  have hP : va_P (dC, dI) fxCl [(h0, .inr (0, [.null]))] H := by rw [hHe]; exact hP
  refine fx_h hHe ?_
  have hl := lv_entry ([.ref h0]) (n := 1) (Nat.le_of_ble_eq_true rfl)
  rw [lg_entry_eq]
  generalize (lg_sl ([.ref h0]) ++ List.replicate (1 - (lg_sl ([.ref h0])).length) Slot.unset).toArray = ls at hl ⊢
  have hl : lv_has ls 1 [(0, .ref h0)] := hl
  refine lv_aload_n hx hb dX0_init_0 rfl (lv_at hl 0 rfl) ?_
  refine W.objInit hx hb hown (hts (.methodLink RX0 3 objectInit) (by decide +kernel)) (hts (.instanceMethod objectInit) (by decide +kernel)) (hts (.code objectInit ⟨#[0xb1]⟩ 1 none) (by decide +kernel)) rfl (by rw [hml]; exact hl.1) rfl dX0_init_1 (Nat.le_of_ble_eq_true rfl) (Nat.le_of_ble_eq_true rfl) ?_
  refine W.eq (g2 := F0 m 4 ls []) rfl ?_
  refine lv_aload_n hx hb dX0_init_4 rfl (lv_at hl 0 rfl) ?_
  refine lv_bipush (v := 6) hx hb dX0_init_5 (by decide) ?_
  refine va_newa (atype := .long) (ty := .long) (N' := 6) (a0 := (6, .inr (.inl fun _ => 0))) hx hb (hts (.arrayClass .long) (by decide +kernel)) rfl hK hP hD hS hA (fun _ => rfl) (by decide) (by decide) (Nat.le_of_ble_eq_true rfl) (Nat.le_of_ble_eq_true rfl) (Nat.le_of_ble_eq_true rfl) dX0_init_7 (fun q_1 cA_2 H hK hP hD hS => ?_)
  refine W.widen (k := 1) (n := 6) (Nat.le_of_ble_eq_true rfl) (Nat.le_of_ble_eq_true rfl) ?_
  have hP : va_P (dC, dI) fxCl [(h0, .inr (0, [.null])), (q_1, .inl (cA_2, 6, .inr (.inl (fun _ => 0))))] H := hP
  have hD : va_D A [(h0, .inr (0, [.null])), (q_1, .inl (cA_2, 6, .inr (.inl (fun _ => 0))))] := hD
  have hK : va_K (dC, dI) fxCl [(cA_2, .long)] s := hK
  refine va_putF (D := (dC, dI)) (ci := 0) (v := .ref q_1) (ty := .array .long) (C := RX0) (T := TX0) (N := 1) hx hb hts (by decide +kernel) tyX0 tyX0_ok nmX0 hown hK hP hD hS 0 rfl rfl 0 (by decide) (hts (.fieldLink RX0 9 "Urnwright$Deck" "runs" "[J") (by decide +kernel)) (fun _ h9 => h9) rfl hin rfl (by decide +kernel) rfl rfl (Nat.le_of_ble_eq_true rfl) dX0_init_9 (fun H locs hP hD hS => ?_)
  have hP : va_P (dC, dI) fxCl [(h0, .inr (0, [.ref q_1])), (q_1, .inl (cA_2, 6, .inr (.inl (fun _ => 0))))] H := hP
  have hD : va_D A [(h0, .inr (0, [.ref q_1])), (q_1, .inl (cA_2, 6, .inr (.inl (fun _ => 0))))] := hD
  have hP9 := hP.sub (ws' := [(h0, .inr (0, [.ref q_1])), (q_1, .inl (cA_2, 6, .inr (.inl (fun _ => 0))))]) [0, 1] rfl
  have hD9 := hD.sub (ws' := [(h0, .inr (0, [.ref q_1])), (q_1, .inl (cA_2, 6, .inr (.inl (fun _ => 0))))]) [0, 1] (by decide) rfl
  have hK9 := hK.sub (tys' := [(cA_2, .long)]) [0] rfl
  refine W.widen (k := 1) (n := 6) (Nat.le_of_ble_eq_true rfl) (Nat.le_of_ble_eq_true rfl) ?_
  exact W.vret hx hb hr (fun t ht hW => ⟨⟨(), rfl, trivial, q_1, cA_2, fun _ => 0, by rw [ht]; exact hP9, va_K.moved hW.alike hK9, hD9⟩, hS.F ht⟩) hS.2.2 dX0_init_12
set_option maxHeartbeats 4000000 in
set_option maxRecDepth 100000 in
/-- Sides() -/
theorem c_X3_init (l : Launch) (dC : Nat → ClassId) (dI : Nat → Nat → Nat) (h0 : Nat) (sz : Nat) : Met l yX3_init wsX3_init ({ frames := 1, cells := 2, slots := 10, locals := 40 } : Room) (va_Pc [.ref h0] (fx_st dC dI [(h0, .inr (2, [.null, .null]))] [] sz)) (va_Qv (fun _ : Unit => True) (fun _ t => ∃ (q1 q2 : Nat), fx_en dC dI (va_A [(h0, .inr (2, [.null, .null]))] sz) [(h0, .inr (2, [.ref q1, .ref q2]))] [] t) (va_A [(h0, .inr (2, [.null, .null]))] sz)) 2 10 (va_A [(h0, .inr (2, [.null, .null]))] sz) := by
  refine Met.ofW (cc := cX3_init) (maxL := 1) (ret := none) (by decide) rfl ?_
  intro p e s m args below meth c s₁ B hml hv
  obtain ⟨rfl, hsz, hP, hK, hD0, hnw⟩ := hv
  have hx := B.exec
  have hb := B.bytes
  have hr := B.returns
  have hts := atoms_spec (ws := wsX3_init) B.pre
  have hown : s.vm.findClass RX3 = some m.cls := findClass_of_methodNamed B.named
  have hlocks := B.notSynchronized
  have hin : meth.name = "<init>" := (name_of_methodNamed B.named B.method).1
  subst hsz
  have hD := hD0.self (sz := s.heap.size)
  generalize hAe : va_A [(h0, .inr (2, [.null, .null]))] s.heap.size = A at hD ⊢
  have hA : ∀ q : Nat, s.heap.size ≤ q → A q := fun q h => by rw [← hAe]; exact Or.inr h
  obtain ⟨H, hHe⟩ : ∃ H, H = s.heap := ⟨_, rfl⟩
  have hS : va_S A s.heap H [] := by rw [hHe]; exact va_S.rf
  have hP : va_P (dC, dI) fxCl [(h0, .inr (2, [.null, .null]))] H := by rw [hHe]; exact hP
  refine fx_h hHe ?_
  have hl := lv_entry ([.ref h0]) (n := 1) (Nat.le_of_ble_eq_true rfl)
  rw [lg_entry_eq]
  generalize (lg_sl ([.ref h0]) ++ List.replicate (1 - (lg_sl ([.ref h0])).length) Slot.unset).toArray = ls at hl ⊢
  have hl : lv_has ls 1 [(0, .ref h0)] := hl
  refine lv_aload_n hx hb dX3_init_0 rfl (lv_at hl 0 rfl) ?_
  refine W.objInit hx hb hown (hts (.methodLink RX3 3 objectInit) (by decide +kernel)) (hts (.instanceMethod objectInit) (by decide +kernel)) (hts (.code objectInit ⟨#[0xb1]⟩ 1 none) (by decide +kernel)) rfl (by rw [hml]; exact hl.1) rfl dX3_init_1 (Nat.le_of_ble_eq_true rfl) (Nat.le_of_ble_eq_true rfl) ?_
  refine W.eq (g2 := F0 m 4 ls []) rfl ?_
  refine lv_aload_n hx hb dX3_init_4 rfl (lv_at hl 0 rfl) ?_
  refine lv_iconst (v := 5) hx hb dX3_init_5 (by decide) ?_
  refine va_newa (atype := .int) (ty := .int) (N' := 5) (a0 := (5, .inl fun _ => 0)) hx hb (hts (.arrayClass .int) (by decide +kernel)) rfl hK hP hD hS hA (fun _ => rfl) (by decide) (by decide) (Nat.le_of_ble_eq_true rfl) (Nat.le_of_ble_eq_true rfl) (Nat.le_of_ble_eq_true rfl) dX3_init_6 (fun q_1 cA_2 H hK hP hD hS => ?_)
  refine W.widen (k := 1) (n := 5) (Nat.le_of_ble_eq_true rfl) (Nat.le_of_ble_eq_true rfl) ?_
  have hP : va_P (dC, dI) fxCl [(h0, .inr (2, [.null, .null])), (q_1, .inl (cA_2, 5, .inl (fun _ => 0)))] H := hP
  have hD : va_D A [(h0, .inr (2, [.null, .null])), (q_1, .inl (cA_2, 5, .inl (fun _ => 0)))] := hD
  have hK : va_K (dC, dI) fxCl [(cA_2, .int)] s := hK
  refine va_putF (D := (dC, dI)) (ci := 2) (v := .ref q_1) (ty := .array .int) (C := RX3) (T := TX3) (N := 2) hx hb hts (by decide +kernel) tyX3 tyX3_ok nmX3 hown hK hP hD hS 0 rfl rfl 0 (by decide) (hts (.fieldLink RX3 9 "Urnwright$Sides" "left" "[I") (by decide +kernel)) (fun _ h9 => h9) rfl hin rfl (by decide +kernel) rfl rfl (Nat.le_of_ble_eq_true rfl) dX3_init_8 (fun H locs hP hD hS => ?_)
  have hP : va_P (dC, dI) fxCl [(h0, .inr (2, [.ref q_1, .null])), (q_1, .inl (cA_2, 5, .inl (fun _ => 0)))] H := hP
  have hD : va_D A [(h0, .inr (2, [.ref q_1, .null])), (q_1, .inl (cA_2, 5, .inl (fun _ => 0)))] := hD
  refine lv_aload_n hx hb dX3_init_11 rfl (lv_at hl 0 rfl) ?_
  refine lv_iconst (v := 5) hx hb dX3_init_12 (by decide) ?_
  refine va_newa (atype := .int) (ty := .int) (N' := 5) (a0 := (5, .inl fun _ => 0)) hx hb (hts (.arrayClass .int) (by decide +kernel)) rfl hK hP hD hS hA (fun _ => rfl) (by decide) (by decide) (Nat.le_of_ble_eq_true rfl) (Nat.le_of_ble_eq_true rfl) (Nat.le_of_ble_eq_true rfl) dX3_init_13 (fun q_3 cA_4 H hK hP hD hS => ?_)
  refine W.widen (k := 2) (n := 10) (Nat.le_of_ble_eq_true rfl) (Nat.le_of_ble_eq_true rfl) ?_
  have hP : va_P (dC, dI) fxCl [(h0, .inr (2, [.ref q_1, .null])), (q_1, .inl (cA_2, 5, .inl (fun _ => 0))), (q_3, .inl (cA_4, 5, .inl (fun _ => 0)))] H := hP
  have hD : va_D A [(h0, .inr (2, [.ref q_1, .null])), (q_1, .inl (cA_2, 5, .inl (fun _ => 0))), (q_3, .inl (cA_4, 5, .inl (fun _ => 0)))] := hD
  have hK : va_K (dC, dI) fxCl [(cA_2, .int), (cA_4, .int)] s := hK
  refine va_putF (D := (dC, dI)) (ci := 2) (v := .ref q_3) (ty := .array .int) (C := RX3) (T := TX3) (N := 2) hx hb hts (by decide +kernel) tyX3 tyX3_ok nmX3 hown hK hP hD hS 0 rfl rfl 1 (by decide) (hts (.fieldLink RX3 15 "Urnwright$Sides" "itsLeft" "[I") (by decide +kernel)) (fun _ h9 => h9) rfl hin rfl (by decide +kernel) rfl rfl (Nat.le_of_ble_eq_true rfl) dX3_init_15 (fun H locs hP hD hS => ?_)
  have hP : va_P (dC, dI) fxCl [(h0, .inr (2, [.ref q_1, .ref q_3])), (q_1, .inl (cA_2, 5, .inl (fun _ => 0))), (q_3, .inl (cA_4, 5, .inl (fun _ => 0)))] H := hP
  have hD : va_D A [(h0, .inr (2, [.ref q_1, .ref q_3])), (q_1, .inl (cA_2, 5, .inl (fun _ => 0))), (q_3, .inl (cA_4, 5, .inl (fun _ => 0)))] := hD
  have hP9 := hP.sub (ws' := [(h0, .inr (2, [.ref q_1, .ref q_3]))]) [0] rfl
  have hD9 := hD.sub (ws' := [(h0, .inr (2, [.ref q_1, .ref q_3]))]) [0] (by decide) rfl
  have hK9 := hK.sub (tys' := []) [] rfl
  refine W.widen (k := 2) (n := 10) (Nat.le_of_ble_eq_true rfl) (Nat.le_of_ble_eq_true rfl) ?_
  exact W.vret hx hb hr (fun t ht hW => ⟨⟨(), rfl, trivial, q_1, q_3, by rw [ht]; exact hP9, va_K.moved hW.alike hK9, hD9⟩, hS.F ht⟩) hS.2.2 dX3_init_18
set_option maxHeartbeats 4000000 in
set_option maxRecDepth 100000 in
/-- Game() -/
theorem c_X1_init (l : Launch) (dC : Nat → ClassId) (dI : Nat → Nat → Nat) (h0 : Nat) (sz : Nat) : Met l yX1_init wsX1_init ({ frames := 1, cells := 6, slots := 968, locals := 40 } : Room) (va_Pc [.ref h0] (fx_st dC dI [(h0, .inr (1, [.null, .null, .null, .null, .null, .null, .int 0, .int 0, .int 0]))] [] sz)) (va_Qv (fun _ : Unit => True) (fun _ t => ∃ (q1 q2 q3 q4 q5 q6 : Nat), fx_en dC dI (va_A [(h0, .inr (1, [.null, .null, .null, .null, .null, .null, .int 0, .int 0, .int 0]))] sz) [(h0, .inr (1, [.ref q1, .ref q2, .ref q3, .ref q4, .ref q5, .ref q6, .int 0, .int 0, .int 0]))] [] t) (va_A [(h0, .inr (1, [.null, .null, .null, .null, .null, .null, .int 0, .int 0, .int 0]))] sz)) 6 968 (va_A [(h0, .inr (1, [.null, .null, .null, .null, .null, .null, .int 0, .int 0, .int 0]))] sz) := by
  refine Met.ofW (cc := cX1_init) (maxL := 1) (ret := none) (by decide) rfl ?_
  intro p e s m args below meth c s₁ B hml hv
  obtain ⟨rfl, hsz, hP, hK, hD0, hnw⟩ := hv
  have hx := B.exec
  have hb := B.bytes
  have hr := B.returns
  have hts := atoms_spec (ws := wsX1_init) B.pre
  have hown : s.vm.findClass RX1 = some m.cls := findClass_of_methodNamed B.named
  have hlocks := B.notSynchronized
  have hin : meth.name = "<init>" := (name_of_methodNamed B.named B.method).1
  subst hsz
  have hD := hD0.self (sz := s.heap.size)
  generalize hAe : va_A [(h0, .inr (1, [.null, .null, .null, .null, .null, .null, .int 0, .int 0, .int 0]))] s.heap.size = A at hD ⊢
  have hA : ∀ q : Nat, s.heap.size ≤ q → A q := fun q h => by rw [← hAe]; exact Or.inr h
  obtain ⟨H, hHe⟩ : ∃ H, H = s.heap := ⟨_, rfl⟩
  have hS : va_S A s.heap H [] := by rw [hHe]; exact va_S.rf
  have hP : va_P (dC, dI) fxCl [(h0, .inr (1, [.null, .null, .null, .null, .null, .null, .int 0, .int 0, .int 0]))] H := by rw [hHe]; exact hP
  refine fx_h hHe ?_
  have hl := lv_entry ([.ref h0]) (n := 1) (Nat.le_of_ble_eq_true rfl)
  rw [lg_entry_eq]
  generalize (lg_sl ([.ref h0]) ++ List.replicate (1 - (lg_sl ([.ref h0])).length) Slot.unset).toArray = ls at hl ⊢
  have hl : lv_has ls 1 [(0, .ref h0)] := hl
  refine lv_aload_n hx hb dX1_init_0 rfl (lv_at hl 0 rfl) ?_
  refine W.objInit hx hb hown (hts (.methodLink RX1 3 objectInit) (by decide +kernel)) (hts (.instanceMethod objectInit) (by decide +kernel)) (hts (.code objectInit ⟨#[0xb1]⟩ 1 none) (by decide +kernel)) rfl (by rw [hml]; exact hl.1) rfl dX1_init_1 (Nat.le_of_ble_eq_true rfl) (Nat.le_of_ble_eq_true rfl) ?_
  refine W.eq (g2 := F0 m 4 ls []) rfl ?_
  refine lv_aload_n hx hb dX1_init_4 rfl (lv_at hl 0 rfl) ?_
  refine lv_bipush (v := 121) hx hb dX1_init_5 (by decide) ?_
  refine va_newa (atype := .long) (ty := .long) (N' := 121) (a0 := (121, .inr (.inl fun _ => 0))) hx hb (hts (.arrayClass .long) (by decide +kernel)) rfl hK hP hD hS hA (fun _ => rfl) (by decide) (by decide) (Nat.le_of_ble_eq_true rfl) (Nat.le_of_ble_eq_true rfl) (Nat.le_of_ble_eq_true rfl) dX1_init_7 (fun q_1 cA_2 H hK hP hD hS => ?_)
  refine W.widen (k := 1) (n := 121) (Nat.le_of_ble_eq_true rfl) (Nat.le_of_ble_eq_true rfl) ?_
  have hP : va_P (dC, dI) fxCl [(h0, .inr (1, [.null, .null, .null, .null, .null, .null, .int 0, .int 0, .int 0])), (q_1, .inl (cA_2, 121, .inr (.inl (fun _ => 0))))] H := hP
  have hD : va_D A [(h0, .inr (1, [.null, .null, .null, .null, .null, .null, .int 0, .int 0, .int 0])), (q_1, .inl (cA_2, 121, .inr (.inl (fun _ => 0))))] := hD
  have hK : va_K (dC, dI) fxCl [(cA_2, .long)] s := hK
  refine va_putF (D := (dC, dI)) (ci := 1) (v := .ref q_1) (ty := .array .long) (C := RX1) (T := TX1) (N := 9) hx hb hts (by decide +kernel) tyX1 tyX1_ok nmX1 hown hK hP hD hS 0 rfl rfl 0 (by decide) (hts (.fieldLink RX1 9 "Urnwright$Game" "ways" "[J") (by decide +kernel)) (fun _ h9 => h9) rfl hin rfl (by decide +kernel) rfl rfl (Nat.le_of_ble_eq_true rfl) dX1_init_9 (fun H locs hP hD hS => ?_)
  have hP : va_P (dC, dI) fxCl [(h0, .inr (1, [.ref q_1, .null, .null, .null, .null, .null, .int 0, .int 0, .int 0])), (q_1, .inl (cA_2, 121, .inr (.inl (fun _ => 0))))] H := hP
  have hD : va_D A [(h0, .inr (1, [.ref q_1, .null, .null, .null, .null, .null, .int 0, .int 0, .int 0])), (q_1, .inl (cA_2, 121, .inr (.inl (fun _ => 0))))] := hD
  refine lv_aload_n hx hb dX1_init_12 rfl (lv_at hl 0 rfl) ?_
  refine lv_bipush (v := 121) hx hb dX1_init_13 (by decide) ?_
  refine va_newa (atype := .int) (ty := .int) (N' := 121) (a0 := (121, .inl fun _ => 0)) hx hb (hts (.arrayClass .int) (by decide +kernel)) rfl hK hP hD hS hA (fun _ => rfl) (by decide) (by decide) (Nat.le_of_ble_eq_true rfl) (Nat.le_of_ble_eq_true rfl) (Nat.le_of_ble_eq_true rfl) dX1_init_15 (fun q_3 cA_4 H hK hP hD hS => ?_)
  refine W.widen (k := 2) (n := 242) (Nat.le_of_ble_eq_true rfl) (Nat.le_of_ble_eq_true rfl) ?_
  have hP : va_P (dC, dI) fxCl [(h0, .inr (1, [.ref q_1, .null, .null, .null, .null, .null, .int 0, .int 0, .int 0])), (q_1, .inl (cA_2, 121, .inr (.inl (fun _ => 0)))), (q_3, .inl (cA_4, 121, .inl (fun _ => 0)))] H := hP
  have hD : va_D A [(h0, .inr (1, [.ref q_1, .null, .null, .null, .null, .null, .int 0, .int 0, .int 0])), (q_1, .inl (cA_2, 121, .inr (.inl (fun _ => 0)))), (q_3, .inl (cA_4, 121, .inl (fun _ => 0)))] := hD
  have hK : va_K (dC, dI) fxCl [(cA_2, .long), (cA_4, .int)] s := hK
  refine va_putF (D := (dC, dI)) (ci := 1) (v := .ref q_3) (ty := .array .int) (C := RX1) (T := TX1) (N := 9) hx hb hts (by decide +kernel) tyX1 tyX1_ok nmX1 hown hK hP hD hS 0 rfl rfl 1 (by decide) (hts (.fieldLink RX1 15 "Urnwright$Game" "yields" "[I") (by decide +kernel)) (fun _ h9 => h9) rfl hin rfl (by decide +kernel) rfl rfl (Nat.le_of_ble_eq_true rfl) dX1_init_17 (fun H locs hP hD hS => ?_)
  have hP : va_P (dC, dI) fxCl [(h0, .inr (1, [.ref q_1, .ref q_3, .null, .null, .null, .null, .int 0, .int 0, .int 0])), (q_1, .inl (cA_2, 121, .inr (.inl (fun _ => 0)))), (q_3, .inl (cA_4, 121, .inl (fun _ => 0)))] H := hP
  have hD : va_D A [(h0, .inr (1, [.ref q_1, .ref q_3, .null, .null, .null, .null, .int 0, .int 0, .int 0])), (q_1, .inl (cA_2, 121, .inr (.inl (fun _ => 0)))), (q_3, .inl (cA_4, 121, .inl (fun _ => 0)))] := hD
  refine lv_aload_n hx hb dX1_init_20 rfl (lv_at hl 0 rfl) ?_
  refine lv_bipush (v := 121) hx hb dX1_init_21 (by decide) ?_
  refine va_newa (atype := .int) (ty := .int) (N' := 121) (a0 := (121, .inl fun _ => 0)) hx hb (hts (.arrayClass .int) (by decide +kernel)) rfl hK hP hD hS hA (fun _ => rfl) (by decide) (by decide) (Nat.le_of_ble_eq_true rfl) (Nat.le_of_ble_eq_true rfl) (Nat.le_of_ble_eq_true rfl) dX1_init_23 (fun q_5 cA_6 H hK hP hD hS => ?_)
  refine W.widen (k := 3) (n := 363) (Nat.le_of_ble_eq_true rfl) (Nat.le_of_ble_eq_true rfl) ?_
  have hP : va_P (dC, dI) fxCl [(h0, .inr (1, [.ref q_1, .ref q_3, .null, .null, .null, .null, .int 0, .int 0, .int 0])), (q_1, .inl (cA_2, 121, .inr (.inl (fun _ => 0)))), (q_3, .inl (cA_4, 121, .inl (fun _ => 0))), (q_5, .inl (cA_6, 121, .inl (fun _ => 0)))] H := hP
  have hD : va_D A [(h0, .inr (1, [.ref q_1, .ref q_3, .null, .null, .null, .null, .int 0, .int 0, .int 0])), (q_1, .inl (cA_2, 121, .inr (.inl (fun _ => 0)))), (q_3, .inl (cA_4, 121, .inl (fun _ => 0))), (q_5, .inl (cA_6, 121, .inl (fun _ => 0)))] := hD
  have hK : va_K (dC, dI) fxCl [(cA_2, .long), (cA_4, .int), (cA_6, .int)] s := hK
  refine va_putF (D := (dC, dI)) (ci := 1) (v := .ref q_5) (ty := .array .int) (C := RX1) (T := TX1) (N := 9) hx hb hts (by decide +kernel) tyX1 tyX1_ok nmX1 hown hK hP hD hS 0 rfl rfl 2 (by decide) (hts (.fieldLink RX1 19 "Urnwright$Game" "paths" "[I") (by decide +kernel)) (fun _ h9 => h9) rfl hin rfl (by decide +kernel) rfl rfl (Nat.le_of_ble_eq_true rfl) dX1_init_25 (fun H locs hP hD hS => ?_)
  have hP : va_P (dC, dI) fxCl [(h0, .inr (1, [.ref q_1, .ref q_3, .ref q_5, .null, .null, .null, .int 0, .int 0, .int 0])), (q_1, .inl (cA_2, 121, .inr (.inl (fun _ => 0)))), (q_3, .inl (cA_4, 121, .inl (fun _ => 0))), (q_5, .inl (cA_6, 121, .inl (fun _ => 0)))] H := hP
  have hD : va_D A [(h0, .inr (1, [.ref q_1, .ref q_3, .ref q_5, .null, .null, .null, .int 0, .int 0, .int 0])), (q_1, .inl (cA_2, 121, .inr (.inl (fun _ => 0)))), (q_3, .inl (cA_4, 121, .inl (fun _ => 0))), (q_5, .inl (cA_6, 121, .inl (fun _ => 0)))] := hD
  refine lv_aload_n hx hb dX1_init_28 rfl (lv_at hl 0 rfl) ?_
  refine lv_sipush (v := 363) hx hb dX1_init_29 (by decide) ?_
  refine va_newa (atype := .int) (ty := .int) (N' := 363) (a0 := (363, .inl fun _ => 0)) hx hb (hts (.arrayClass .int) (by decide +kernel)) rfl hK hP hD hS hA (fun _ => rfl) (by decide) (by decide) (Nat.le_of_ble_eq_true rfl) (Nat.le_of_ble_eq_true rfl) (Nat.le_of_ble_eq_true rfl) dX1_init_32 (fun q_7 cA_8 H hK hP hD hS => ?_)
  refine W.widen (k := 4) (n := 726) (Nat.le_of_ble_eq_true rfl) (Nat.le_of_ble_eq_true rfl) ?_
  have hP : va_P (dC, dI) fxCl [(h0, .inr (1, [.ref q_1, .ref q_3, .ref q_5, .null, .null, .null, .int 0, .int 0, .int 0])), (q_1, .inl (cA_2, 121, .inr (.inl (fun _ => 0)))), (q_3, .inl (cA_4, 121, .inl (fun _ => 0))), (q_5, .inl (cA_6, 121, .inl (fun _ => 0))), (q_7, .inl (cA_8, 363, .inl (fun _ => 0)))] H := hP
  have hD : va_D A [(h0, .inr (1, [.ref q_1, .ref q_3, .ref q_5, .null, .null, .null, .int 0, .int 0, .int 0])), (q_1, .inl (cA_2, 121, .inr (.inl (fun _ => 0)))), (q_3, .inl (cA_4, 121, .inl (fun _ => 0))), (q_5, .inl (cA_6, 121, .inl (fun _ => 0))), (q_7, .inl (cA_8, 363, .inl (fun _ => 0)))] := hD
  have hK : va_K (dC, dI) fxCl [(cA_2, .long), (cA_4, .int), (cA_6, .int), (cA_8, .int)] s := hK
  refine va_putF (D := (dC, dI)) (ci := 1) (v := .ref q_7) (ty := .array .int) (C := RX1) (T := TX1) (N := 9) hx hb hts (by decide +kernel) tyX1 tyX1_ok nmX1 hown hK hP hD hS 0 rfl rfl 3 (by decide) (hts (.fieldLink RX1 22 "Urnwright$Game" "counts" "[I") (by decide +kernel)) (fun _ h9 => h9) rfl hin rfl (by decide +kernel) rfl rfl (Nat.le_of_ble_eq_true rfl) dX1_init_34 (fun H locs hP hD hS => ?_)
  have hP : va_P (dC, dI) fxCl [(h0, .inr (1, [.ref q_1, .ref q_3, .ref q_5, .ref q_7, .null, .null, .int 0, .int 0, .int 0])), (q_1, .inl (cA_2, 121, .inr (.inl (fun _ => 0)))), (q_3, .inl (cA_4, 121, .inl (fun _ => 0))), (q_5, .inl (cA_6, 121, .inl (fun _ => 0))), (q_7, .inl (cA_8, 363, .inl (fun _ => 0)))] H := hP
  have hD : va_D A [(h0, .inr (1, [.ref q_1, .ref q_3, .ref q_5, .ref q_7, .null, .null, .int 0, .int 0, .int 0])), (q_1, .inl (cA_2, 121, .inr (.inl (fun _ => 0)))), (q_3, .inl (cA_4, 121, .inl (fun _ => 0))), (q_5, .inl (cA_6, 121, .inl (fun _ => 0))), (q_7, .inl (cA_8, 363, .inl (fun _ => 0)))] := hD
  refine lv_aload_n hx hb dX1_init_37 rfl (lv_at hl 0 rfl) ?_
  refine lv_bipush (v := 121) hx hb dX1_init_38 (by decide) ?_
  refine va_newa (atype := .long) (ty := .long) (N' := 121) (a0 := (121, .inr (.inl fun _ => 0))) hx hb (hts (.arrayClass .long) (by decide +kernel)) rfl hK hP hD hS hA (fun _ => rfl) (by decide) (by decide) (Nat.le_of_ble_eq_true rfl) (Nat.le_of_ble_eq_true rfl) (Nat.le_of_ble_eq_true rfl) dX1_init_40 (fun q_9 cA_10 H hK hP hD hS => ?_)
  refine W.widen (k := 5) (n := 847) (Nat.le_of_ble_eq_true rfl) (Nat.le_of_ble_eq_true rfl) ?_
  have hP : va_P (dC, dI) fxCl [(h0, .inr (1, [.ref q_1, .ref q_3, .ref q_5, .ref q_7, .null, .null, .int 0, .int 0, .int 0])), (q_1, .inl (cA_2, 121, .inr (.inl (fun _ => 0)))), (q_3, .inl (cA_4, 121, .inl (fun _ => 0))), (q_5, .inl (cA_6, 121, .inl (fun _ => 0))), (q_7, .inl (cA_8, 363, .inl (fun _ => 0))), (q_9, .inl (cA_10, 121, .inr (.inl (fun _ => 0))))] H := hP
  have hD : va_D A [(h0, .inr (1, [.ref q_1, .ref q_3, .ref q_5, .ref q_7, .null, .null, .int 0, .int 0, .int 0])), (q_1, .inl (cA_2, 121, .inr (.inl (fun _ => 0)))), (q_3, .inl (cA_4, 121, .inl (fun _ => 0))), (q_5, .inl (cA_6, 121, .inl (fun _ => 0))), (q_7, .inl (cA_8, 363, .inl (fun _ => 0))), (q_9, .inl (cA_10, 121, .inr (.inl (fun _ => 0))))] := hD
  have hK : va_K (dC, dI) fxCl [(cA_2, .long), (cA_4, .int), (cA_6, .int), (cA_8, .int), (cA_10, .long)] s := hK
  refine va_putF (D := (dC, dI)) (ci := 1) (v := .ref q_9) (ty := .array .long) (C := RX1) (T := TX1) (N := 9) hx hb hts (by decide +kernel) tyX1 tyX1_ok nmX1 hown hK hP hD hS 0 rfl rfl 4 (by decide) (hts (.fieldLink RX1 25 "Urnwright$Game" "worths" "[J") (by decide +kernel)) (fun _ h9 => h9) rfl hin rfl (by decide +kernel) rfl rfl (Nat.le_of_ble_eq_true rfl) dX1_init_42 (fun H locs hP hD hS => ?_)
  have hP : va_P (dC, dI) fxCl [(h0, .inr (1, [.ref q_1, .ref q_3, .ref q_5, .ref q_7, .ref q_9, .null, .int 0, .int 0, .int 0])), (q_1, .inl (cA_2, 121, .inr (.inl (fun _ => 0)))), (q_3, .inl (cA_4, 121, .inl (fun _ => 0))), (q_5, .inl (cA_6, 121, .inl (fun _ => 0))), (q_7, .inl (cA_8, 363, .inl (fun _ => 0))), (q_9, .inl (cA_10, 121, .inr (.inl (fun _ => 0))))] H := hP
  have hD : va_D A [(h0, .inr (1, [.ref q_1, .ref q_3, .ref q_5, .ref q_7, .ref q_9, .null, .int 0, .int 0, .int 0])), (q_1, .inl (cA_2, 121, .inr (.inl (fun _ => 0)))), (q_3, .inl (cA_4, 121, .inl (fun _ => 0))), (q_5, .inl (cA_6, 121, .inl (fun _ => 0))), (q_7, .inl (cA_8, 363, .inl (fun _ => 0))), (q_9, .inl (cA_10, 121, .inr (.inl (fun _ => 0))))] := hD
  refine lv_aload_n hx hb dX1_init_45 rfl (lv_at hl 0 rfl) ?_
  refine lv_bipush (v := 121) hx hb dX1_init_46 (by decide) ?_
  refine va_newa (atype := .boolean) (ty := .boolean) (N' := 121) (a0 := (121, .inl fun _ => 0)) hx hb (hts (.arrayClass .boolean) (by decide +kernel)) rfl hK hP hD hS hA (fun _ => rfl) (by decide) (by decide) (Nat.le_of_ble_eq_true rfl) (Nat.le_of_ble_eq_true rfl) (Nat.le_of_ble_eq_true rfl) dX1_init_48 (fun q_11 cA_12 H hK hP hD hS => ?_)
  refine W.widen (k := 6) (n := 968) (Nat.le_of_ble_eq_true rfl) (Nat.le_of_ble_eq_true rfl) ?_
  have hP : va_P (dC, dI) fxCl [(h0, .inr (1, [.ref q_1, .ref q_3, .ref q_5, .ref q_7, .ref q_9, .null, .int 0, .int 0, .int 0])), (q_1, .inl (cA_2, 121, .inr (.inl (fun _ => 0)))), (q_3, .inl (cA_4, 121, .inl (fun _ => 0))), (q_5, .inl (cA_6, 121, .inl (fun _ => 0))), (q_7, .inl (cA_8, 363, .inl (fun _ => 0))), (q_9, .inl (cA_10, 121, .inr (.inl (fun _ => 0)))), (q_11, .inl (cA_12, 121, .inl (fun _ => 0)))] H := hP
  have hD : va_D A [(h0, .inr (1, [.ref q_1, .ref q_3, .ref q_5, .ref q_7, .ref q_9, .null, .int 0, .int 0, .int 0])), (q_1, .inl (cA_2, 121, .inr (.inl (fun _ => 0)))), (q_3, .inl (cA_4, 121, .inl (fun _ => 0))), (q_5, .inl (cA_6, 121, .inl (fun _ => 0))), (q_7, .inl (cA_8, 363, .inl (fun _ => 0))), (q_9, .inl (cA_10, 121, .inr (.inl (fun _ => 0)))), (q_11, .inl (cA_12, 121, .inl (fun _ => 0)))] := hD
  have hK : va_K (dC, dI) fxCl [(cA_2, .long), (cA_4, .int), (cA_6, .int), (cA_8, .int), (cA_10, .long), (cA_12, .boolean)] s := hK
  refine va_putF (D := (dC, dI)) (ci := 1) (v := .ref q_11) (ty := .array .boolean) (C := RX1) (T := TX1) (N := 9) hx hb hts (by decide +kernel) tyX1 tyX1_ok nmX1 hown hK hP hD hS 0 rfl rfl 5 (by decide) (hts (.fieldLink RX1 28 "Urnwright$Game" "isOver" "[Z") (by decide +kernel)) (fun _ h9 => h9) rfl hin rfl (by decide +kernel) rfl rfl (Nat.le_of_ble_eq_true rfl) dX1_init_50 (fun H locs hP hD hS => ?_)
  have hP : va_P (dC, dI) fxCl [(h0, .inr (1, [.ref q_1, .ref q_3, .ref q_5, .ref q_7, .ref q_9, .ref q_11, .int 0, .int 0, .int 0])), (q_1, .inl (cA_2, 121, .inr (.inl (fun _ => 0)))), (q_3, .inl (cA_4, 121, .inl (fun _ => 0))), (q_5, .inl (cA_6, 121, .inl (fun _ => 0))), (q_7, .inl (cA_8, 363, .inl (fun _ => 0))), (q_9, .inl (cA_10, 121, .inr (.inl (fun _ => 0)))), (q_11, .inl (cA_12, 121, .inl (fun _ => 0)))] H := hP
  have hD : va_D A [(h0, .inr (1, [.ref q_1, .ref q_3, .ref q_5, .ref q_7, .ref q_9, .ref q_11, .int 0, .int 0, .int 0])), (q_1, .inl (cA_2, 121, .inr (.inl (fun _ => 0)))), (q_3, .inl (cA_4, 121, .inl (fun _ => 0))), (q_5, .inl (cA_6, 121, .inl (fun _ => 0))), (q_7, .inl (cA_8, 363, .inl (fun _ => 0))), (q_9, .inl (cA_10, 121, .inr (.inl (fun _ => 0)))), (q_11, .inl (cA_12, 121, .inl (fun _ => 0)))] := hD
  have hP9 := hP.sub (ws' := [(h0, .inr (1, [.ref q_1, .ref q_3, .ref q_5, .ref q_7, .ref q_9, .ref q_11, .int 0, .int 0, .int 0]))]) [0] rfl
  have hD9 := hD.sub (ws' := [(h0, .inr (1, [.ref q_1, .ref q_3, .ref q_5, .ref q_7, .ref q_9, .ref q_11, .int 0, .int 0, .int 0]))]) [0] (by decide) rfl
  have hK9 := hK.sub (tys' := []) [] rfl
  refine W.widen (k := 6) (n := 968) (Nat.le_of_ble_eq_true rfl) (Nat.le_of_ble_eq_true rfl) ?_
  exact W.vret hx hb hr (fun t ht hW => ⟨⟨(), rfl, trivial, q_1, q_3, q_5, q_7, q_9, q_11, by rw [ht]; exact hP9, va_K.moved hW.alike hK9, hD9⟩, hS.F ht⟩) hS.2.2 dX1_init_53
set_option maxHeartbeats 4000000 in
set_option maxRecDepth 100000 in
/-- shuffle(5, 7) -/
theorem c_X0_shuffle (l : Launch) (dC : Nat → ClassId) (dI : Nat → Nat → Nat) (h0 q : Nat) (cA : ClassId) (f : Nat → Int64) (sz : Nat) : Met l yX0_shuffle wsX0_shuffle ({ frames := 2, cells := 0, slots := 0, locals := 60 } : Room) (va_Pc [.ref h0, .int 5, .int 7] (fx_st dC dI [(h0, .inr (0, [.ref q])), (q, .inl (cA, 6, .inr (.inl f)))] [(cA, .long)] sz)) (va_Qv (fun _ : Unit => True) (fun _ t => ∃ g : Nat → Int64, fx_en dC dI (va_A [(h0, .inr (0, [.ref q])), (q, .inl (cA, 6, .inr (.inl f)))] sz) [(h0, .inr (0, [.ref q])), (q, .inl (cA, 6, .inr (.inl g)))] [(cA, .long)] t) (va_A [(h0, .inr (0, [.ref q])), (q, .inl (cA, 6, .inr (.inl f)))] sz)) 0 0 (va_A [(h0, .inr (0, [.ref q])), (q, .inl (cA, 6, .inr (.inl f)))] sz) := by
  refine Met.ofW (cc := cX0_shuffle) (maxL := 5) (ret := none) (by decide) rfl ?_
  intro p e s m args below meth c s₁ B hml hv
  obtain ⟨rfl, hsz, hP, hK, hD0, hnw⟩ := hv
  have hx := B.exec
  have hb := B.bytes
  have hr := B.returns
  have hts := atoms_spec (ws := wsX0_shuffle) B.pre
  have hown : s.vm.findClass RX0 = some m.cls := findClass_of_methodNamed B.named
  have hlocks := B.notSynchronized
  subst hsz
  have hD := hD0.self (sz := s.heap.size)
  generalize hAe : va_A [(h0, .inr (0, [.ref q])), (q, .inl (cA, 6, .inr (.inl f)))] s.heap.size = A at hD ⊢
  have hA : ∀ q : Nat, s.heap.size ≤ q → A q := fun q h => by rw [← hAe]; exact Or.inr h
  obtain ⟨H, hHe⟩ : ∃ H, H = s.heap := ⟨_, rfl⟩
  have hS : va_S A s.heap H [] := by rw [hHe]; exact va_S.rf
  have hP : va_P (dC, dI) fxCl [(h0, .inr (0, [.ref q])), (q, .inl (cA, 6, .inr (.inl f)))] H := by rw [hHe]; exact hP
  refine fx_h hHe ?_
  have hl := lv_entry ([.ref h0, .int 5, .int 7]) (n := 5) (Nat.le_of_ble_eq_true rfl)
  rw [lg_entry_eq]
  generalize (lg_sl ([.ref h0, .int 5, .int 7]) ++ List.replicate (5 - (lg_sl ([.ref h0, .int 5, .int 7])).length) Slot.unset).toArray = ls at hl ⊢
  have hl : lv_has ls 5 [(0, .ref h0), (1, .int 5), (2, .int 7)] := hl
  have loop_32 : ∀ (n_loop_32 : Nat) (j : Nat) (f : Nat → Int64) (H : Heap) (locs : List Loc) (ls : Array Slot), 10 - j < n_loop_32 → j ≤ 7 → va_P (dC, dI) fxCl [(h0, .inr (0, [.ref q])), (q, .inl (cA, 6, .inr (.inl f)))] H → va_D A [(h0, .inr (0, [.ref q])), (q, .inl (cA, 6, .inr (.inl f)))] → va_S A s.heap H locs → lv_has ls 5 [(3, .int (nI j)), (0, .ref h0), (1, .int 5), (2, .int 7)] → W p l e (headSpec wsX0_shuffle ({ frames := 2, cells := 0, slots := 0, locals := 60 } : Room)).room s m ([.ref h0, .int 5, .int 7] : List Value).toArray below meth c H locs 0 0 (MQ below (va_Qv (fun _ : Unit => True) (fun _ t => ∃ g : Nat → Int64, fx_en dC dI (A) [(h0, .inr (0, [.ref q])), (q, .inl (cA, 6, .inr (.inl g)))] [(cA, .long)] t) (A)) ([.ref h0, .int 5, .int 7] : List Value).toArray s 0 0 A) (F0 m 32 ls []) := by
    intro n_loop_32
    induction n_loop_32 with
    | zero => intro j f H locs ls hn; exact absurd hn (Nat.not_lt_zero _)
    | succ n_loop_32 ih_loop_32 =>
      intro j f H locs ls hn_loop_32 hinv_loop_32 hP hD hS hl
      have loop_40 (c_32 : ¬ (7 : Int32) ≤ nI j) : ∀ (n_loop_40 : Nat) (k : Nat) (f : Nat → Int64) (H : Heap) (locs : List Loc) (ls : Array Slot), k < n_loop_40 → k ≤ 5 → va_P (dC, dI) fxCl [(h0, .inr (0, [.ref q])), (q, .inl (cA, 6, .inr (.inl f)))] H → va_D A [(h0, .inr (0, [.ref q])), (q, .inl (cA, 6, .inr (.inl f)))] → va_S A s.heap H locs → lv_has ls 5 [(4, .int (nI k)), (3, .int (nI j)), (0, .ref h0), (1, .int 5), (2, .int 7)] → W p l e (headSpec wsX0_shuffle ({ frames := 2, cells := 0, slots := 0, locals := 60 } : Room)).room s m ([.ref h0, .int 5, .int 7] : List Value).toArray below meth c H locs 0 0 (MQ below (va_Qv (fun _ : Unit => True) (fun _ t => ∃ g : Nat → Int64, fx_en dC dI (A) [(h0, .inr (0, [.ref q])), (q, .inl (cA, 6, .inr (.inl g)))] [(cA, .long)] t) (A)) ([.ref h0, .int 5, .int 7] : List Value).toArray s 0 0 A) (F0 m 40 ls []) := by
        intro n_loop_40
        induction n_loop_40 with
        | zero => intro k f H locs ls hn; exact absurd hn (Nat.not_lt_zero _)
        | succ n_loop_40 ih_loop_40 =>
          intro k f H locs ls hn_loop_40 hinv_loop_40 hP hD hS hl
          refine lv_iload hx hb dX0_shuffle_40 (lv_at hl 0 rfl) ?_
          refine lv_if_le (tgt := 85) hx hb dX0_shuffle_42 (by decide) (fun c_40 => ?_) (fun c_40 => ?_)
          · skip
            refine lv_aload_n hx hb dX0_shuffle_85 rfl (lv_at hl 2 rfl) ?_
            refine va_get (D := (dC, dI)) (ci := 0) (v := .ref q) (C := RX0) (T := TX0) (N := 1) hx hb hts (by decide +kernel) hown hK hP 0 rfl rfl 0 (by decide) (hts (.fieldLink RX0 9 "Urnwright$Deck" "runs" "[J") (by decide +kernel)) (fun _ h9 => h9) rfl dX0_shuffle_86 ?_
            refine lv_iconst (v := 0) hx hb dX0_shuffle_89 (by decide) ?_
            refine lv_lconst (v := 0) hx hb dX0_shuffle_90 (by decide) ?_
            have hPc := hP.sub (ws' := [(q, .inl (cA, 6, .inr (.inl f)))]) [1] rfl
            have hDc := hD.sub (ws' := [(q, .inl (cA, 6, .inr (.inl f)))]) [1] (by decide) rfl
            have hKc := hK.sub (tys' := [(cA, .long)]) [0] rfl
            have hFc := va_free (wc := [(q, .inl (cA, 6, .inr (.inl f)))]) hD hS hA [1] rfl
            refine va_callv (va_runSN (As := [.ref q, .int 0, .long 0]) (rest := []) ⟨hx, hb, hml, hown, hts⟩ (c_X5_put_ l dC dI q cA 0 0 f H.size) ⟨va_cnB 3 hts gX0_shuffle_X5_put__n15 rfl rfl rfl (hnw.2.2.2.2.2.1) (hts (.initialized RX5) (by decide +kernel)) (by decide +kernel) ⟨Nat.le_of_ble_eq_true rfl, Nat.le_of_ble_eq_true rfl⟩, hts (.static yX5_put_) (by decide +kernel), trivial⟩ (fx_preS hPc hKc hDc hnw) rfl rfl hl.1 rfl (lv_room (Nat.le_of_ble_eq_true rfl)) dX0_shuffle_91 ⟨(Nat.le_of_ble_eq_true rfl), (Nat.le_of_ble_eq_true rfl)⟩) hS (fun q _ h => hFc q h) hFc (fun u t H1 locs ht hvm hw hB hz1 hk1 hS => ?_)
            obtain ⟨f_1, hP1, hK1, hD1⟩ := hB
            rw [ht] at hP1
            have hK1 := va_K.moved hvm.symm hK1
            obtain ⟨hP, hD⟩ := va_join (wr := [(h0, .inr (0, [.ref q]))]) (w1 := [(q, .inl (cA, 6, .inr (.inl f_1)))]) hP hD [1] [0] rfl rfl (by decide) (by decide) hk1 hFc hP1 hD1
            have hK := (hK.sub (tys' := []) [] rfl).app hK1
            generalize H1 = H at hP hS ⊢
            have hP : va_P (dC, dI) fxCl [(h0, .inr (0, [.ref q])), (q, .inl (cA, 6, .inr (.inl f_1)))] H := hP
            have hD : va_D A [(h0, .inr (0, [.ref q])), (q, .inl (cA, 6, .inr (.inl f_1)))] := hD
            have hK : va_K (dC, dI) fxCl [(cA, .long)] s := hK
            refine lv_iinc (v := nI (j + 1)) (lv' := [(3, .int (nI (j + 1))), (4, .int (nI k)), (0, .ref h0), (1, .int 5), (2, .int 7)]) hx hb dX0_shuffle_94 hl (k := 1) rfl (nI_add j 1) (by decide) rfl (fun ls hl => ?_)
            refine lv_goto (tgt := 32) hx hb dX0_shuffle_97 (by decide) ?_
            have hlt32 : j < 7 := fx_ge (n := 7) c_32 (by decide) (by omega)
            exact ih_loop_32 (j + 1) f_1 H locs ls (by omega) (by omega) (hP.sub [0, 1] rfl) (hD.sub [0, 1] (by decide) rfl) hS (lv_sub hl [0, 2, 3, 4] rfl)
          · skip
            have hk0 : 0 < k := by
              rcases Nat.eq_zero_or_pos k with h | h
              · exact absurd (by rw [h]; decide) c_40
              · exact h
            refine lv_aload_n hx hb dX0_shuffle_45 rfl (lv_at hl 2 rfl) ?_
            refine va_get (D := (dC, dI)) (ci := 0) (v := .ref q) (C := RX0) (T := TX0) (N := 1) hx hb hts (by decide +kernel) hown hK hP 0 rfl rfl 0 (by decide) (hts (.fieldLink RX0 9 "Urnwright$Deck" "runs" "[J") (by decide +kernel)) (fun _ h9 => h9) rfl dX0_shuffle_46 ?_
            refine lv_iload hx hb dX0_shuffle_49 (lv_at hl 0 rfl) ?_
            refine lv_aload_n hx hb dX0_shuffle_51 rfl (lv_at hl 2 rfl) ?_
            refine va_get (D := (dC, dI)) (ci := 0) (v := .ref q) (C := RX0) (T := TX0) (N := 1) hx hb hts (by decide +kernel) hown hK hP 0 rfl rfl 0 (by decide) (hts (.fieldLink RX0 9 "Urnwright$Deck" "runs" "[J") (by decide +kernel)) (fun _ h9 => h9) rfl dX0_shuffle_52 ?_
            refine lv_iload hx hb dX0_shuffle_55 (lv_at hl 0 rfl) ?_
            have hPc := hP.sub (ws' := [(q, .inl (cA, 6, .inr (.inl f)))]) [1] rfl
            have hDc := hD.sub (ws' := [(q, .inl (cA, 6, .inr (.inl f)))]) [1] (by decide) rfl
            have hKc := hK.sub (tys' := [(cA, .long)]) [0] rfl
            refine vp_callSl ((va_runSN (As := [.ref q, .int (nI k)]) (rest := [.int (nI k), .ref q]) ⟨hx, hb, hml, hown, hts⟩ (c_X5_at_ l dC dI q cA (nI k) f H.size) ⟨va_cnB 2 hts gX0_shuffle_X5_at__n19 rfl rfl rfl (hnw.2.2.2.2.2.2.1) (hts (.initialized RX5) (by decide +kernel)) (by decide +kernel) ⟨Nat.le_of_ble_eq_true rfl, Nat.le_of_ble_eq_true rfl⟩, hts (.static yX5_at_) (by decide +kernel), trivial⟩ (fx_preS hPc hKc hDc hnw) rfl rfl hl.1 rfl (lv_room (Nat.le_of_ble_eq_true rfl)) dX0_shuffle_57 ⟨(Nat.le_of_ble_eq_true rfl), (Nat.le_of_ble_eq_true rfl)⟩).run) (fun r_2 hr_2 => ?_)
            refine lv_iload hx hb dX0_shuffle_60 (lv_at hl 0 rfl) ?_
            obtain ⟨x_3, ex_3⟩ : ∃ y : Int64, y = (nI k).toInt64 := ⟨_, rfl⟩
            refine lv_i2l (v := x_3) hx hb dX0_shuffle_62 ex_3.symm ?_
            refine lv_lmul hx hb dX0_shuffle_63 ?_
            refine lv_topl (fun x_4 ex_4 => ?_)
            refine lv_aload_n hx hb dX0_shuffle_64 rfl (lv_at hl 2 rfl) ?_
            refine va_get (D := (dC, dI)) (ci := 0) (v := .ref q) (C := RX0) (T := TX0) (N := 1) hx hb hts (by decide +kernel) hown hK hP 0 rfl rfl 0 (by decide) (hts (.fieldLink RX0 9 "Urnwright$Deck" "runs" "[J") (by decide +kernel)) (fun _ h9 => h9) rfl dX0_shuffle_65 ?_
            refine lv_iload hx hb dX0_shuffle_68 (lv_at hl 0 rfl) ?_
            refine lv_iconst (v := 1) hx hb dX0_shuffle_70 (by decide) ?_
            refine lv_isub hx hb dX0_shuffle_71 ?_
            refine lv_topi (fun x_5 ex_5 => ?_)
            obtain rfl : x_5 = nI (k - 1) := ex_5.trans (fx_sub (by omega))
            have hPc := hP.sub (ws' := [(q, .inl (cA, 6, .inr (.inl f)))]) [1] rfl
            have hDc := hD.sub (ws' := [(q, .inl (cA, 6, .inr (.inl f)))]) [1] (by decide) rfl
            have hKc := hK.sub (tys' := [(cA, .long)]) [0] rfl
            refine vp_callSl ((va_runSN (As := [.ref q, .int (nI (k - 1))]) (rest := [.long x_4, .int (nI k), .ref q]) ⟨hx, hb, hml, hown, hts⟩ (c_X5_at_ l dC dI q cA (nI (k - 1)) f H.size) ⟨va_cnB 2 hts gX0_shuffle_X5_at__n19 rfl rfl rfl (hnw.2.2.2.2.2.2.1) (hts (.initialized RX5) (by decide +kernel)) (by decide +kernel) ⟨Nat.le_of_ble_eq_true rfl, Nat.le_of_ble_eq_true rfl⟩, hts (.static yX5_at_) (by decide +kernel), trivial⟩ (fx_preS hPc hKc hDc hnw) rfl rfl hl.1 rfl (lv_room (Nat.le_of_ble_eq_true rfl)) dX0_shuffle_72 ⟨(Nat.le_of_ble_eq_true rfl), (Nat.le_of_ble_eq_true rfl)⟩).run) (fun r_6 hr_6 => ?_)
            refine lv_ladd hx hb dX0_shuffle_75 ?_
            refine lv_topl (fun x_7 ex_7 => ?_)
            have hPc := hP.sub (ws' := [(q, .inl (cA, 6, .inr (.inl f)))]) [1] rfl
            have hDc := hD.sub (ws' := [(q, .inl (cA, 6, .inr (.inl f)))]) [1] (by decide) rfl
            have hKc := hK.sub (tys' := [(cA, .long)]) [0] rfl
            have hFc := va_free (wc := [(q, .inl (cA, 6, .inr (.inl f)))]) hD hS hA [1] rfl
            refine va_callv (va_runSN (As := [.ref q, .int (nI k), .long x_7]) (rest := []) ⟨hx, hb, hml, hown, hts⟩ (c_X5_put_ l dC dI q cA (nI k) x_7 f H.size) ⟨va_cnB 3 hts gX0_shuffle_X5_put__n15 rfl rfl rfl (hnw.2.2.2.2.2.1) (hts (.initialized RX5) (by decide +kernel)) (by decide +kernel) ⟨Nat.le_of_ble_eq_true rfl, Nat.le_of_ble_eq_true rfl⟩, hts (.static yX5_put_) (by decide +kernel), trivial⟩ (fx_preS hPc hKc hDc hnw) rfl rfl hl.1 rfl (lv_room (Nat.le_of_ble_eq_true rfl)) dX0_shuffle_76 ⟨(Nat.le_of_ble_eq_true rfl), (Nat.le_of_ble_eq_true rfl)⟩) hS (fun q _ h => hFc q h) hFc (fun u t H1 locs ht hvm hw hB hz1 hk1 hS => ?_)
            obtain ⟨f_8, hP1, hK1, hD1⟩ := hB
            rw [ht] at hP1
            have hK1 := va_K.moved hvm.symm hK1
            obtain ⟨hP, hD⟩ := va_join (wr := [(h0, .inr (0, [.ref q]))]) (w1 := [(q, .inl (cA, 6, .inr (.inl f_8)))]) hP hD [1] [0] rfl rfl (by decide) (by decide) hk1 hFc hP1 hD1
            have hK := (hK.sub (tys' := []) [] rfl).app hK1
            generalize H1 = H at hP hS ⊢
            have hP : va_P (dC, dI) fxCl [(h0, .inr (0, [.ref q])), (q, .inl (cA, 6, .inr (.inl f_8)))] H := hP
            have hD : va_D A [(h0, .inr (0, [.ref q])), (q, .inl (cA, 6, .inr (.inl f_8)))] := hD
            have hK : va_K (dC, dI) fxCl [(cA, .long)] s := hK
            refine lv_iinc (v := nI (k - 1)) (lv' := [(4, .int (nI (k - 1))), (3, .int (nI j)), (0, .ref h0), (1, .int 5), (2, .int 7)]) hx hb dX0_shuffle_79 hl (k := 0) rfl (fx_dec (by omega)) (by decide) rfl (fun ls hl => ?_)
            refine lv_goto (tgt := 40) hx hb dX0_shuffle_82 (by decide) ?_
            exact ih_loop_40 (k - 1) f_8 H locs ls (by omega) (by omega) (hP.sub [0, 1] rfl) (hD.sub [0, 1] (by decide) rfl) hS (lv_sub hl [0, 1, 2, 3, 4] rfl)
      refine lv_iload_n hx hb dX0_shuffle_32 rfl (lv_at hl 0 rfl) ?_
      refine lv_iload_n hx hb dX0_shuffle_33 rfl (lv_at hl 3 rfl) ?_
      refine lv_icmp_ge (tgt := 100) hx hb dX0_shuffle_34 (by decide) (fun c_32 => ?_) (fun c_32 => ?_)
      · skip
        have hP9 := hP.sub (ws' := [(h0, .inr (0, [.ref q])), (q, .inl (cA, 6, .inr (.inl f)))]) [0, 1] rfl
        have hD9 := hD.sub (ws' := [(h0, .inr (0, [.ref q])), (q, .inl (cA, 6, .inr (.inl f)))]) [0, 1] (by decide) rfl
        have hK9 := hK.sub (tys' := [(cA, .long)]) [0] rfl
        exact W.vret hx hb hr (fun t ht hW => ⟨⟨(), rfl, trivial, f, by rw [ht]; exact hP9, va_K.moved hW.alike hK9, hD9⟩, hS.F ht⟩) hS.2.2 dX0_shuffle_100
      · skip
        refine lv_iload_n hx hb dX0_shuffle_37 rfl (lv_at hl 2 rfl) ?_
        refine lv_istore (lv' := [(4, .int 5), (3, .int (nI j)), (0, .ref h0), (1, .int 5), (2, .int 7)]) hx hb dX0_shuffle_38 hl (by decide) rfl (fun ls hl => ?_)
        exact loop_40 c_32 6 5 f H locs ls (by omega) (by omega) (hP.sub [0, 1] rfl) (hD.sub [0, 1] (by decide) rfl) hS (lv_sub hl [0, 1, 2, 3, 4] rfl)
  have loop_2 : ∀ (n_loop_2 : Nat) (j : Nat) (f : Nat → Int64) (H : Heap) (locs : List Loc) (ls : Array Slot), 10 - j < n_loop_2 → j ≤ 6 → va_P (dC, dI) fxCl [(h0, .inr (0, [.ref q])), (q, .inl (cA, 6, .inr (.inl f)))] H → va_D A [(h0, .inr (0, [.ref q])), (q, .inl (cA, 6, .inr (.inl f)))] → va_S A s.heap H locs → lv_has ls 5 [(3, .int (nI j)), (0, .ref h0), (1, .int 5), (2, .int 7)] → W p l e (headSpec wsX0_shuffle ({ frames := 2, cells := 0, slots := 0, locals := 60 } : Room)).room s m ([.ref h0, .int 5, .int 7] : List Value).toArray below meth c H locs 0 0 (MQ below (va_Qv (fun _ : Unit => True) (fun _ t => ∃ g : Nat → Int64, fx_en dC dI (A) [(h0, .inr (0, [.ref q])), (q, .inl (cA, 6, .inr (.inl g)))] [(cA, .long)] t) (A)) ([.ref h0, .int 5, .int 7] : List Value).toArray s 0 0 A) (F0 m 2 ls []) := by
    intro n_loop_2
    induction n_loop_2 with
    | zero => intro j f H locs ls hn; exact absurd hn (Nat.not_lt_zero _)
    | succ n_loop_2 ih_loop_2 =>
      intro j f H locs ls hn_loop_2 hinv_loop_2 hP hD hS hl
      refine lv_iload_n hx hb dX0_shuffle_2 rfl (lv_at hl 0 rfl) ?_
      refine lv_iload_n hx hb dX0_shuffle_3 rfl (lv_at hl 2 rfl) ?_
      refine lv_icmp_gt (tgt := 30) hx hb dX0_shuffle_4 (by decide) (fun c_9 => ?_) (fun c_9 => ?_)
      · skip
        refine lv_iconst (v := 0) hx hb dX0_shuffle_30 (by decide) ?_
        refine lv_istore_n (lv' := [(3, .int 0), (0, .ref h0), (1, .int 5), (2, .int 7)]) hx hb dX0_shuffle_31 rfl hl (by decide) rfl (fun ls hl => ?_)
        exact loop_32 11 0 f H locs ls (by omega) (by omega) (hP.sub [0, 1] rfl) (hD.sub [0, 1] (by decide) rfl) hS (lv_sub hl [0, 1, 2, 3] rfl)
      · skip
        refine lv_aload_n hx hb dX0_shuffle_7 rfl (lv_at hl 1 rfl) ?_
        refine va_get (D := (dC, dI)) (ci := 0) (v := .ref q) (C := RX0) (T := TX0) (N := 1) hx hb hts (by decide +kernel) hown hK hP 0 rfl rfl 0 (by decide) (hts (.fieldLink RX0 9 "Urnwright$Deck" "runs" "[J") (by decide +kernel)) (fun _ h9 => h9) rfl dX0_shuffle_8 ?_
        refine lv_iload_n hx hb dX0_shuffle_11 rfl (lv_at hl 0 rfl) ?_
        refine lv_iload_n hx hb dX0_shuffle_12 rfl (lv_at hl 0 rfl) ?_
        refine lv_if_ne (tgt := 20) hx hb dX0_shuffle_13 (by decide) (fun c_10 => ?_) (fun c_10 => ?_)
        · skip
          refine lv_lconst (v := 0) hx hb dX0_shuffle_20 (by decide) ?_
          have hPc := hP.sub (ws' := [(q, .inl (cA, 6, .inr (.inl f)))]) [1] rfl
          have hDc := hD.sub (ws' := [(q, .inl (cA, 6, .inr (.inl f)))]) [1] (by decide) rfl
          have hKc := hK.sub (tys' := [(cA, .long)]) [0] rfl
          have hFc := va_free (wc := [(q, .inl (cA, 6, .inr (.inl f)))]) hD hS hA [1] rfl
          refine va_callv (va_runSN (As := [.ref q, .int (nI j), .long 0]) (rest := []) ⟨hx, hb, hml, hown, hts⟩ (c_X5_put_ l dC dI q cA (nI j) 0 f H.size) ⟨va_cnB 3 hts gX0_shuffle_X5_put__n15 rfl rfl rfl (hnw.2.2.2.2.2.1) (hts (.initialized RX5) (by decide +kernel)) (by decide +kernel) ⟨Nat.le_of_ble_eq_true rfl, Nat.le_of_ble_eq_true rfl⟩, hts (.static yX5_put_) (by decide +kernel), trivial⟩ (fx_preS hPc hKc hDc hnw) rfl rfl hl.1 rfl (lv_room (Nat.le_of_ble_eq_true rfl)) dX0_shuffle_21 ⟨(Nat.le_of_ble_eq_true rfl), (Nat.le_of_ble_eq_true rfl)⟩) hS (fun q _ h => hFc q h) hFc (fun u t H1 locs ht hvm hw hB hz1 hk1 hS => ?_)
          obtain ⟨f_11, hP1, hK1, hD1⟩ := hB
          rw [ht] at hP1
          have hK1 := va_K.moved hvm.symm hK1
          obtain ⟨hP, hD⟩ := va_join (wr := [(h0, .inr (0, [.ref q]))]) (w1 := [(q, .inl (cA, 6, .inr (.inl f_11)))]) hP hD [1] [0] rfl rfl (by decide) (by decide) hk1 hFc hP1 hD1
          have hK := (hK.sub (tys' := []) [] rfl).app hK1
          generalize H1 = H at hP hS ⊢
          have hP : va_P (dC, dI) fxCl [(h0, .inr (0, [.ref q])), (q, .inl (cA, 6, .inr (.inl f_11)))] H := hP
          have hD : va_D A [(h0, .inr (0, [.ref q])), (q, .inl (cA, 6, .inr (.inl f_11)))] := hD
          have hK : va_K (dC, dI) fxCl [(cA, .long)] s := hK
          refine lv_iinc (v := nI (j + 1)) (lv' := [(3, .int (nI (j + 1))), (0, .ref h0), (1, .int 5), (2, .int 7)]) hx hb dX0_shuffle_24 hl (k := 0) rfl (nI_add j 1) (by decide) rfl (fun ls hl => ?_)
          refine lv_goto (tgt := 2) hx hb dX0_shuffle_27 (by decide) ?_
          have hlt2 : j ≤ 5 := fx_gt (n := 5) c_9 (by decide) (by omega)
          exact ih_loop_2 (j + 1) f_11 H locs ls (by omega) (by omega) (hP.sub [0, 1] rfl) (hD.sub [0, 1] (by decide) rfl) hS (lv_sub hl [0, 1, 2, 3] rfl)
        · skip
          refine lv_lconst (v := 1) hx hb dX0_shuffle_16 (by decide) ?_
          refine lv_goto (tgt := 21) hx hb dX0_shuffle_17 (by decide) ?_
          have hPc := hP.sub (ws' := [(q, .inl (cA, 6, .inr (.inl f)))]) [1] rfl
          have hDc := hD.sub (ws' := [(q, .inl (cA, 6, .inr (.inl f)))]) [1] (by decide) rfl
          have hKc := hK.sub (tys' := [(cA, .long)]) [0] rfl
          have hFc := va_free (wc := [(q, .inl (cA, 6, .inr (.inl f)))]) hD hS hA [1] rfl
          refine va_callv (va_runSN (As := [.ref q, .int (nI j), .long 1]) (rest := []) ⟨hx, hb, hml, hown, hts⟩ (c_X5_put_ l dC dI q cA (nI j) 1 f H.size) ⟨va_cnB 3 hts gX0_shuffle_X5_put__n15 rfl rfl rfl (hnw.2.2.2.2.2.1) (hts (.initialized RX5) (by decide +kernel)) (by decide +kernel) ⟨Nat.le_of_ble_eq_true rfl, Nat.le_of_ble_eq_true rfl⟩, hts (.static yX5_put_) (by decide +kernel), trivial⟩ (fx_preS hPc hKc hDc hnw) rfl rfl hl.1 rfl (lv_room (Nat.le_of_ble_eq_true rfl)) dX0_shuffle_21 ⟨(Nat.le_of_ble_eq_true rfl), (Nat.le_of_ble_eq_true rfl)⟩) hS (fun q _ h => hFc q h) hFc (fun u t H1 locs ht hvm hw hB hz1 hk1 hS => ?_)
          obtain ⟨f_12, hP1, hK1, hD1⟩ := hB
          rw [ht] at hP1
          have hK1 := va_K.moved hvm.symm hK1
          obtain ⟨hP, hD⟩ := va_join (wr := [(h0, .inr (0, [.ref q]))]) (w1 := [(q, .inl (cA, 6, .inr (.inl f_12)))]) hP hD [1] [0] rfl rfl (by decide) (by decide) hk1 hFc hP1 hD1
          have hK := (hK.sub (tys' := []) [] rfl).app hK1
          generalize H1 = H at hP hS ⊢
          have hP : va_P (dC, dI) fxCl [(h0, .inr (0, [.ref q])), (q, .inl (cA, 6, .inr (.inl f_12)))] H := hP
          have hD : va_D A [(h0, .inr (0, [.ref q])), (q, .inl (cA, 6, .inr (.inl f_12)))] := hD
          have hK : va_K (dC, dI) fxCl [(cA, .long)] s := hK
          refine lv_iinc (v := nI (j + 1)) (lv' := [(3, .int (nI (j + 1))), (0, .ref h0), (1, .int 5), (2, .int 7)]) hx hb dX0_shuffle_24 hl (k := 0) rfl (nI_add j 1) (by decide) rfl (fun ls hl => ?_)
          refine lv_goto (tgt := 2) hx hb dX0_shuffle_27 (by decide) ?_
          have hlt2 : j ≤ 5 := fx_gt (n := 5) c_9 (by decide) (by omega)
          exact ih_loop_2 (j + 1) f_12 H locs ls (by omega) (by omega) (hP.sub [0, 1] rfl) (hD.sub [0, 1] (by decide) rfl) hS (lv_sub hl [0, 1, 2, 3] rfl)
  refine lv_iconst (v := 0) hx hb dX0_shuffle_0 (by decide) ?_
  refine lv_istore_n (lv' := [(3, .int 0), (0, .ref h0), (1, .int 5), (2, .int 7)]) hx hb dX0_shuffle_1 rfl hl (by decide) rfl (fun ls hl => ?_)
  exact loop_2 11 0 f H [] ls (by omega) (by omega) (hP.sub [0, 1] rfl) (hD.sub [0, 1] (by decide) rfl) hS (lv_sub hl [0, 1, 2, 3] rfl)
set_option maxHeartbeats 4000000 in
set_option maxRecDepth 100000 in
/-- sumOfDifferences(5, o, u) -/
theorem c_X0_sumOfDifferences (l : Launch) (dC : Nat → ClassId) (dI : Nat → Nat → Nat) (h0 q : Nat) (cA : ClassId) (f : Nat → Int64) (o u : Int64) (sz : Nat) : Met l yX0_sumOfDifferences wsX0_sumOfDifferences ({ frames := 2, cells := 0, slots := 0, locals := 60 } : Room) (va_Pc [.ref h0, .int 5, .long o, .long u] (fx_st dC dI [(h0, .inr (0, [.ref q])), (q, .inl (cA, 6, .inr (.inl f)))] [(cA, .long)] sz)) (vp_Sl (fun _ => True)) 0 0 (fun _ => False) := by
  refine Met.ofW (cc := cX0_sumOfDifferences) (maxL := 13) (ret := (some .long)) (by decide) rfl ?_
  intro p e s m args below meth c s₁ B hml hv
  obtain ⟨rfl, hsz, hP, hK, hD0, hnw⟩ := hv
  have hx := B.exec
  have hb := B.bytes
  have hr := B.returns
  have hts := atoms_spec (ws := wsX0_sumOfDifferences) B.pre
  have hown : s.vm.findClass RX0 = some m.cls := findClass_of_methodNamed B.named
  have hlocks := B.notSynchronized
  subst hsz
  have hD := hD0
  generalize hHe : s.heap = H at hP ⊢
  have hK : va_K (dC, dI) fxCl [(cA, .long)] s := hK
  have hl := lv_entry ([.ref h0, .int 5, .long o, .long u]) (n := 13) (Nat.le_of_ble_eq_true rfl)
  rw [lg_entry_eq]
  generalize (lg_sl ([.ref h0, .int 5, .long o, .long u]) ++ List.replicate (13 - (lg_sl ([.ref h0, .int 5, .long o, .long u])).length) Slot.unset).toArray = ls at hl ⊢
  have hl : lv_has ls 13 [(0, .ref h0), (1, .int 5), (2, .long o), (4, .long u)] := hl
  have loop_16 : ∀ (n : Nat) (j : Nat) (z6 z8 : Int64) (ls : Array Slot), 10 - j < n → j ≤ 6 → lv_has ls 13 [(10, .int (nI j)), (6, .long z6), (8, .long z8), (0, .ref h0), (1, .int 5), (2, .long o), (4, .long u)] → W p l e (headSpec wsX0_sumOfDifferences ({ frames := 2, cells := 0, slots := 0, locals := 60 } : Room)).room s m ([.ref h0, .int 5, .long o, .long u] : List Value).toArray below meth c H [] 0 0 (MQ below (vp_Sl (fun _ => True)) ([.ref h0, .int 5, .long o, .long u] : List Value).toArray s 0 0 (fun _ => False)) (F0 m 16 ls []) := by
    intro n
    induction n with
    | zero => intro j z6 z8 ls hn; exact absurd hn (Nat.not_lt_zero _)
    | succ n ih =>
      intro j z6 z8 ls hn hj hl
      refine lv_iload hx hb dX0_sumOfDifferences_16 (lv_at hl 0 rfl) ?_
      refine lv_iload_n hx hb dX0_sumOfDifferences_18 rfl (lv_at hl 4 rfl) ?_
      refine lv_icmp_gt (tgt := 79) hx hb dX0_sumOfDifferences_19 (by decide) (fun c_1 => ?_) (fun c_1 => ?_)
      · skip
        refine lv_lload hx hb dX0_sumOfDifferences_79 (lv_at hl 1 rfl) ?_
        exact W.lret (v := z6) hx hb hr (fun t ht hW => ⟨z6, rfl, trivial, ht.trans hHe.symm⟩) (fun _ h => by cases h) dX0_sumOfDifferences_81
      · skip
        refine lv_lload hx hb dX0_sumOfDifferences_22 (lv_at hl 2 rfl) ?_
        refine lv_aload_n hx hb dX0_sumOfDifferences_24 rfl (lv_at hl 3 rfl) ?_
        refine va_get (D := (dC, dI)) (ci := 0) (v := .ref q) (C := RX0) (T := TX0) (N := 1) hx hb hts (by decide +kernel) hown hK hP 0 rfl rfl 0 (by decide) (hts (.fieldLink RX0 9 "Urnwright$Deck" "runs" "[J") (by decide +kernel)) (fun _ h9 => h9) rfl dX0_sumOfDifferences_25 ?_
        refine lv_iload_n hx hb dX0_sumOfDifferences_28 rfl (lv_at hl 4 rfl) ?_
        refine lv_iload hx hb dX0_sumOfDifferences_29 (lv_at hl 0 rfl) ?_
        refine lv_isub hx hb dX0_sumOfDifferences_31 ?_
        refine lv_topi (fun x_2 ex_2 => ?_)
        have hPc := hP.sub (ws' := [(q, .inl (cA, 6, .inr (.inl f)))]) [1] rfl
        have hDc := hD.sub (ws' := [(q, .inl (cA, 6, .inr (.inl f)))]) [1] (by decide) rfl
        have hKc := hK.sub (tys' := [(cA, .long)]) [0] rfl
        refine vp_callSl ((va_runSN (As := [.ref q, .int x_2]) (rest := [.long z8]) ⟨hx, hb, hml, hown, hts⟩ (c_X5_at_ l dC dI q cA x_2 f H.size) ⟨va_cnB 2 hts gX0_sumOfDifferences_X5_at__n19 rfl rfl rfl (hnw.2.2.2.2.2.2.1) (hts (.initialized RX5) (by decide +kernel)) (by decide +kernel) ⟨Nat.le_of_ble_eq_true rfl, Nat.le_of_ble_eq_true rfl⟩, hts (.static yX5_at_) (by decide +kernel), trivial⟩ (fx_preS hPc hKc hDc hnw) rfl rfl hl.1 rfl (lv_room (Nat.le_of_ble_eq_true rfl)) dX0_sumOfDifferences_32 ⟨(Nat.le_of_ble_eq_true rfl), (Nat.le_of_ble_eq_true rfl)⟩).run) (fun r_3 hr_3 => ?_)
        refine lv_ladd hx hb dX0_sumOfDifferences_35 ?_
        refine lv_topl (fun x_4 ex_4 => ?_)
        refine lv_lstore (lv' := [(8, .long x_4), (10, .int (nI j)), (6, .long z6), (0, .ref h0), (1, .int 5), (2, .long o), (4, .long u)]) hx hb dX0_sumOfDifferences_36 hl (by decide) rfl (fun ls hl => ?_)
        refine lv_iload_n hx hb dX0_sumOfDifferences_38 rfl (lv_at hl 4 rfl) ?_
        refine lv_iload hx hb dX0_sumOfDifferences_39 (lv_at hl 1 rfl) ?_
        refine vp_callSl (W.runS (As := [.int 5, .int (nI j)]) (rest := []) ⟨hx, hb, hml, hown, hts⟩ (c_X0_ordersWithEnd l (j) (by omega)) (va_cwS 2 hts gX0_sumOfDifferences_X0_ordersWithEnd rfl rfl rfl (by decide +kernel) ⟨Nat.le_of_ble_eq_true rfl, Nat.le_of_ble_eq_true rfl⟩) preEq rfl rfl hl.1 rfl (lv_room (Nat.le_of_ble_eq_true rfl)) dX0_sumOfDifferences_41 ⟨Nat.le_of_ble_eq_true rfl, Nat.le_of_ble_eq_true rfl⟩) (fun r_5 hr_5 => ?_)
        refine lv_iload_n hx hb dX0_sumOfDifferences_44 rfl (lv_at hl 4 rfl) ?_
        refine lv_iload hx hb dX0_sumOfDifferences_45 (lv_at hl 1 rfl) ?_
        refine lv_iconst (v := 1) hx hb dX0_sumOfDifferences_47 (by decide) ?_
        refine lv_iadd hx hb dX0_sumOfDifferences_48 ?_
        refine lv_topi (fun x_6 ex_6 => ?_)
        obtain rfl : x_6 = nI (j + 1) := ex_6.trans (nI_add j 1)
        refine vp_callSl (W.runS (As := [.int 5, .int (nI (j + 1))]) (rest := [.long r_5]) ⟨hx, hb, hml, hown, hts⟩ (c_X0_ordersWithEnd l (j + 1) (by omega)) (va_cwS 2 hts gX0_sumOfDifferences_X0_ordersWithEnd rfl rfl rfl (by decide +kernel) ⟨Nat.le_of_ble_eq_true rfl, Nat.le_of_ble_eq_true rfl⟩) preEq rfl rfl hl.1 rfl (lv_room (Nat.le_of_ble_eq_true rfl)) dX0_sumOfDifferences_49 ⟨Nat.le_of_ble_eq_true rfl, Nat.le_of_ble_eq_true rfl⟩) (fun r_7 hr_7 => ?_)
        refine lv_lsub hx hb dX0_sumOfDifferences_52 ?_
        refine lv_topl (fun x_8 ex_8 => ?_)
        refine lv_lstore (lv' := [(11, .long x_8), (8, .long x_4), (10, .int (nI j)), (6, .long z6), (0, .ref h0), (1, .int 5), (2, .long o), (4, .long u)]) hx hb dX0_sumOfDifferences_53 hl (by decide) rfl (fun ls hl => ?_)
        refine lv_lload hx hb dX0_sumOfDifferences_55 (lv_at hl 3 rfl) ?_
        refine lv_lload hx hb dX0_sumOfDifferences_57 (lv_at hl 0 rfl) ?_
        refine lv_lload hx hb dX0_sumOfDifferences_59 (lv_at hl 1 rfl) ?_
        refine lv_lload_n hx hb dX0_sumOfDifferences_61 rfl (lv_at hl 6 rfl) ?_
        refine lv_lmul hx hb dX0_sumOfDifferences_62 ?_
        refine lv_topl (fun x_9 ex_9 => ?_)
        refine lv_lload hx hb dX0_sumOfDifferences_63 (lv_at hl 7 rfl) ?_
        refine lv_lsub hx hb dX0_sumOfDifferences_65 ?_
        refine lv_topl (fun x_10 ex_10 => ?_)
        refine va_mabs_long hx hb (hml.trans hl.1.symm) hown (hts (.methodLink RX0 27 Lib.MathLoose.abs_long.x) (by decide +kernel)) (hts (.static Lib.MathLoose.abs_long.x) (by decide +kernel)) (hts (.initialized "java/lang/Math") (by decide +kernel)) (hts (.code Lib.MathLoose.abs_long.x Lib.MathLoose.abs_long.code 2 (some .long)) (by decide +kernel)) (Nat.le_of_ble_eq_true rfl) (Nat.le_of_ble_eq_true rfl) (Nat.le_of_ble_eq_true rfl) (Nat.le_of_ble_eq_true rfl) dX0_sumOfDifferences_66 ?_
        refine lv_topl (fun x_11 ex_11 => ?_)
        refine lv_lmul hx hb dX0_sumOfDifferences_69 ?_
        refine lv_topl (fun x_12 ex_12 => ?_)
        refine lv_ladd hx hb dX0_sumOfDifferences_70 ?_
        refine lv_topl (fun x_13 ex_13 => ?_)
        refine lv_lstore (lv' := [(6, .long x_13), (11, .long x_8), (8, .long x_4), (10, .int (nI j)), (0, .ref h0), (1, .int 5), (2, .long o), (4, .long u)]) hx hb dX0_sumOfDifferences_71 hl (by decide) rfl (fun ls hl => ?_)
        refine lv_iinc (v := nI (j + 1)) (lv' := [(10, .int (nI (j + 1))), (6, .long x_13), (11, .long x_8), (8, .long x_4), (0, .ref h0), (1, .int 5), (2, .long o), (4, .long u)]) hx hb dX0_sumOfDifferences_73 hl (k := 3) rfl (nI_add j 1) (by decide) rfl (fun ls hl => ?_)
        refine lv_goto (tgt := 16) hx hb dX0_sumOfDifferences_76 (by decide) ?_
        have hlt : j ≤ 5 := fx_gt (n := 5) c_1 (by decide) (by omega)
        exact ih (j + 1) x_13 x_4 ls (by omega) (by omega) (lv_sub hl [0, 1, 3, 4, 5, 6, 7] rfl)
  refine lv_lconst (v := 0) hx hb dX0_sumOfDifferences_0 (by decide) ?_
  refine lv_lstore (lv' := [(6, .long 0), (0, .ref h0), (1, .int 5), (2, .long o), (4, .long u)]) hx hb dX0_sumOfDifferences_1 hl (by decide) rfl (fun ls hl => ?_)
  refine lv_aload_n hx hb dX0_sumOfDifferences_3 rfl (lv_at hl 1 rfl) ?_
  refine va_get (D := (dC, dI)) (ci := 0) (v := .ref q) (C := RX0) (T := TX0) (N := 1) hx hb hts (by decide +kernel) hown hK hP 0 rfl rfl 0 (by decide) (hts (.fieldLink RX0 9 "Urnwright$Deck" "runs" "[J") (by decide +kernel)) (fun _ h9 => h9) rfl dX0_sumOfDifferences_4 ?_
  refine lv_iload_n hx hb dX0_sumOfDifferences_7 rfl (lv_at hl 2 rfl) ?_
  have hPc := hP.sub (ws' := [(q, .inl (cA, 6, .inr (.inl f)))]) [1] rfl
  have hDc := hD.sub (ws' := [(q, .inl (cA, 6, .inr (.inl f)))]) [1] (by decide) rfl
  have hKc := hK.sub (tys' := [(cA, .long)]) [0] rfl
  refine vp_callSl ((va_runSN (As := [.ref q, .int 5]) (rest := []) ⟨hx, hb, hml, hown, hts⟩ (c_X5_at_ l dC dI q cA 5 f H.size) ⟨va_cnB 2 hts gX0_sumOfDifferences_X5_at__n19 rfl rfl rfl (hnw.2.2.2.2.2.2.1) (hts (.initialized RX5) (by decide +kernel)) (by decide +kernel) ⟨Nat.le_of_ble_eq_true rfl, Nat.le_of_ble_eq_true rfl⟩, hts (.static yX5_at_) (by decide +kernel), trivial⟩ (fx_preS hPc hKc hDc hnw) rfl rfl hl.1 rfl (lv_room (Nat.le_of_ble_eq_true rfl)) dX0_sumOfDifferences_8 ⟨(Nat.le_of_ble_eq_true rfl), (Nat.le_of_ble_eq_true rfl)⟩).run) (fun r_14 hr_14 => ?_)
  refine lv_lstore (lv' := [(8, .long r_14), (6, .long 0), (0, .ref h0), (1, .int 5), (2, .long o), (4, .long u)]) hx hb dX0_sumOfDifferences_11 hl (by decide) rfl (fun ls hl => ?_)
  refine lv_iconst (v := 1) hx hb dX0_sumOfDifferences_13 (by decide) ?_
  refine lv_istore (lv' := [(10, .int 1), (8, .long r_14), (6, .long 0), (0, .ref h0), (1, .int 5), (2, .long o), (4, .long u)]) hx hb dX0_sumOfDifferences_14 hl (by decide) rfl (fun ls hl => ?_)
  exact loop_16 11 1 0 r_14 ls (by omega) (by omega) (lv_sub hl [0, 2, 1, 3, 4, 5, 6] rfl)
set_option maxHeartbeats 4000000 in
set_option maxRecDepth 100000 in
/-- Urnwright() -/
theorem c_X5_init (l : Launch) (dC : Nat → ClassId) (dI : Nat → Nat → Nat) (h0 : Nat) (sz : Nat) : Met l yX5_init wsX5_init ({ frames := 3, cells := 14, slots := 1004, locals := 100 } : Room) (va_Pc [.ref h0] (fx_st dC dI [(h0, .inr (3, [.null, .null, .null, .null, .null, .int 0, .int 0, .int 0]))] [] sz)) (va_Qv (fun _ : Unit => True) (fun _ t => ∃ (u1 u2 u3 u4 qd q : Nat) (cA : ClassId) (f : Nat → Int64), fx_en dC dI (va_A [(h0, .inr (3, [.null, .null, .null, .null, .null, .int 0, .int 0, .int 0]))] sz) [(h0, .inr (3, [.ref u1, .ref u2, .ref u3, .ref u4, .ref qd, .int 0, .int 0, .int 0])), (qd, .inr (0, [.ref q])), (q, .inl (cA, 6, .inr (.inl f)))] [(cA, .long)] t) (va_A [(h0, .inr (3, [.null, .null, .null, .null, .null, .int 0, .int 0, .int 0]))] sz)) 14 1004 (va_A [(h0, .inr (3, [.null, .null, .null, .null, .null, .int 0, .int 0, .int 0]))] sz) := by
  refine Met.ofW (cc := cX5_init) (maxL := 1) (ret := none) (by decide) rfl ?_
  intro p e s m args below meth c s₁ B hml hv
  obtain ⟨rfl, hsz, hP, hK, hD0, hnw⟩ := hv
  have hx := B.exec
  have hb := B.bytes
  have hr := B.returns
  have hts := atoms_spec (ws := wsX5_init) B.pre
  have hown : s.vm.findClass RX5 = some m.cls := findClass_of_methodNamed B.named
  have hlocks := B.notSynchronized
  have hin : meth.name = "<init>" := (name_of_methodNamed B.named B.method).1
  subst hsz
  have hD := hD0.self (sz := s.heap.size)
  generalize hAe : va_A [(h0, .inr (3, [.null, .null, .null, .null, .null, .int 0, .int 0, .int 0]))] s.heap.size = A at hD ⊢
  have hA : ∀ q : Nat, s.heap.size ≤ q → A q := fun q h => by rw [← hAe]; exact Or.inr h
  obtain ⟨H, hHe⟩ : ∃ H, H = s.heap := ⟨_, rfl⟩
  have hS : va_S A s.heap H [] := by rw [hHe]; exact va_S.rf
  have hP : va_P (dC, dI) fxCl [(h0, .inr (3, [.null, .null, .null, .null, .null, .int 0, .int 0, .int 0]))] H := by rw [hHe]; exact hP
  refine fx_h hHe ?_
  have hl := lv_entry ([.ref h0]) (n := 1) (Nat.le_of_ble_eq_true rfl)
  rw [lg_entry_eq]
  generalize (lg_sl ([.ref h0]) ++ List.replicate (1 - (lg_sl ([.ref h0])).length) Slot.unset).toArray = ls at hl ⊢
  have hl : lv_has ls 1 [(0, .ref h0)] := hl
  refine lv_aload_n hx hb dX5_init_0 rfl (lv_at hl 0 rfl) ?_
  refine W.objInit hx hb hown (hts (.methodLink RX5 1 objectInit) (by decide +kernel)) (hts (.instanceMethod objectInit) (by decide +kernel)) (hts (.code objectInit ⟨#[0xb1]⟩ 1 none) (by decide +kernel)) rfl (by rw [hml]; exact hl.1) rfl dX5_init_1 (Nat.le_of_ble_eq_true rfl) (Nat.le_of_ble_eq_true rfl) ?_
  refine W.eq (g2 := F0 m 4 ls []) rfl ?_
  refine lv_aload_n hx hb dX5_init_4 rfl (lv_at hl 0 rfl) ?_
  refine lv_iconst (v := 4) hx hb dX5_init_5 (by decide) ?_
  refine va_newq (C := RX4) (N' := 4) hx hb hown (hts (.classLink RX5 9 RX4) (by decide +kernel)) hnw.2.2.2.2.2.2.2.2.2.2.2.1 hK hP hD hS hA (by decide) (by decide) (Nat.le_of_ble_eq_true rfl) (Nat.le_of_ble_eq_true rfl) (Nat.le_of_ble_eq_true rfl) dX5_init_6 (fun q_1 cA_2 H hK hP hD hS => ?_)
  refine W.widen (k := 1) (n := 4) (Nat.le_of_ble_eq_true rfl) (Nat.le_of_ble_eq_true rfl) ?_
  have hP : va_P (dC, dI) fxCl [(h0, .inr (3, [.null, .null, .null, .null, .null, .int 0, .int 0, .int 0])), (q_1, .inl (cA_2, 4, .inr (.inr (.inr (.inr (fun _ => none))))))] H := hP
  have hD : va_D A [(h0, .inr (3, [.null, .null, .null, .null, .null, .int 0, .int 0, .int 0])), (q_1, .inl (cA_2, 4, .inr (.inr (.inr (.inr (fun _ => none))))))] := hD
  have hK : va_K (dC, dI) fxCl [(cA_2, .object RX4)] s := hK
  refine va_putF (D := (dC, dI)) (ci := 3) (v := .ref q_1) (ty := .array (.object "Urnwright$Urn")) (C := RX5) (T := TX5) (N := 8) hx hb hts (by decide +kernel) tyX5 tyX5_ok nmX5 hown hK hP hD hS 0 rfl rfl 0 (by decide) (hts (.fieldLink RX5 11 "Urnwright" "urns" "[LUrnwright$Urn;") (by decide +kernel)) (fun _ h9 => h9) rfl hin rfl (by decide +kernel) rfl rfl (Nat.le_of_ble_eq_true rfl) dX5_init_9 (fun H locs hP hD hS => ?_)
  have hP : va_P (dC, dI) fxCl [(h0, .inr (3, [.ref q_1, .null, .null, .null, .null, .int 0, .int 0, .int 0])), (q_1, .inl (cA_2, 4, .inr (.inr (.inr (.inr (fun _ => none))))))] H := hP
  have hD : va_D A [(h0, .inr (3, [.ref q_1, .null, .null, .null, .null, .int 0, .int 0, .int 0])), (q_1, .inl (cA_2, 4, .inr (.inr (.inr (.inr (fun _ => none))))))] := hD
  refine lv_aload_n hx hb dX5_init_12 rfl (lv_at hl 0 rfl) ?_
  refine lv_iconst (v := 4) hx hb dX5_init_13 (by decide) ?_
  refine va_newq (C := RX2) (N' := 4) hx hb hown (hts (.classLink RX5 15 RX2) (by decide +kernel)) hnw.2.2.2.2.2.2.2.2.2.2.2.2 hK hP hD hS hA (by decide) (by decide) (Nat.le_of_ble_eq_true rfl) (Nat.le_of_ble_eq_true rfl) (Nat.le_of_ble_eq_true rfl) dX5_init_14 (fun q_3 cA_4 H hK hP hD hS => ?_)
  refine W.widen (k := 2) (n := 8) (Nat.le_of_ble_eq_true rfl) (Nat.le_of_ble_eq_true rfl) ?_
  have hP : va_P (dC, dI) fxCl [(h0, .inr (3, [.ref q_1, .null, .null, .null, .null, .int 0, .int 0, .int 0])), (q_1, .inl (cA_2, 4, .inr (.inr (.inr (.inr (fun _ => none)))))), (q_3, .inl (cA_4, 4, .inr (.inr (.inr (.inr (fun _ => none))))))] H := hP
  have hD : va_D A [(h0, .inr (3, [.ref q_1, .null, .null, .null, .null, .int 0, .int 0, .int 0])), (q_1, .inl (cA_2, 4, .inr (.inr (.inr (.inr (fun _ => none)))))), (q_3, .inl (cA_4, 4, .inr (.inr (.inr (.inr (fun _ => none))))))] := hD
  have hK : va_K (dC, dI) fxCl [(cA_2, .object RX4), (cA_4, .object RX2)] s := hK
  refine va_putF (D := (dC, dI)) (ci := 3) (v := .ref q_3) (ty := .array (.object "Urnwright$Row")) (C := RX5) (T := TX5) (N := 8) hx hb hts (by decide +kernel) tyX5 tyX5_ok nmX5 hown hK hP hD hS 0 rfl rfl 1 (by decide) (hts (.fieldLink RX5 17 "Urnwright" "rows" "[LUrnwright$Row;") (by decide +kernel)) (fun _ h9 => h9) rfl hin rfl (by decide +kernel) rfl rfl (Nat.le_of_ble_eq_true rfl) dX5_init_17 (fun H locs hP hD hS => ?_)
  have hP : va_P (dC, dI) fxCl [(h0, .inr (3, [.ref q_1, .ref q_3, .null, .null, .null, .int 0, .int 0, .int 0])), (q_1, .inl (cA_2, 4, .inr (.inr (.inr (.inr (fun _ => none)))))), (q_3, .inl (cA_4, 4, .inr (.inr (.inr (.inr (fun _ => none))))))] H := hP
  have hD : va_D A [(h0, .inr (3, [.ref q_1, .ref q_3, .null, .null, .null, .int 0, .int 0, .int 0])), (q_1, .inl (cA_2, 4, .inr (.inr (.inr (.inr (fun _ => none)))))), (q_3, .inl (cA_4, 4, .inr (.inr (.inr (.inr (fun _ => none))))))] := hD
  refine lv_aload_n hx hb dX5_init_20 rfl (lv_at hl 0 rfl) ?_
  refine va_new (ci := 1) (fs := [.null, .null, .null, .null, .null, .null, .int 0, .int 0, .int 0]) (C := RX1) (T := TX1) (N := 9) hx hb hts (by decide +kernel) tyX1 tyX1_ok hown (hts (.classLink RX5 21 RX1) (by decide +kernel)) (hts (.instantiable RX1 9) (by decide +kernel)) (hts (.initialized RX1) (by decide +kernel)) hK hP hD hS hA rfl (fun j hj => by rcases (show j = 0 ∨ j = 1 ∨ j = 2 ∨ j = 3 ∨ j = 4 ∨ j = 5 ∨ j = 6 ∨ j = 7 ∨ j = 8 by omega) with rfl | rfl | rfl | rfl | rfl | rfl | rfl | rfl | rfl <;> rfl) (Nat.le_of_ble_eq_true rfl) (Nat.le_of_ble_eq_true rfl) dX5_init_21 (fun q_5 H hP hD hS => ?_)
  refine W.widen (k := 3) (n := 17) (Nat.le_of_ble_eq_true rfl) (Nat.le_of_ble_eq_true rfl) ?_
  have hP : va_P (dC, dI) fxCl [(h0, .inr (3, [.ref q_1, .ref q_3, .null, .null, .null, .int 0, .int 0, .int 0])), (q_1, .inl (cA_2, 4, .inr (.inr (.inr (.inr (fun _ => none)))))), (q_3, .inl (cA_4, 4, .inr (.inr (.inr (.inr (fun _ => none)))))), (q_5, .inr (1, [.null, .null, .null, .null, .null, .null, .int 0, .int 0, .int 0]))] H := hP
  have hD : va_D A [(h0, .inr (3, [.ref q_1, .ref q_3, .null, .null, .null, .int 0, .int 0, .int 0])), (q_1, .inl (cA_2, 4, .inr (.inr (.inr (.inr (fun _ => none)))))), (q_3, .inl (cA_4, 4, .inr (.inr (.inr (.inr (fun _ => none)))))), (q_5, .inr (1, [.null, .null, .null, .null, .null, .null, .int 0, .int 0, .int 0]))] := hD
  refine lv_dup hx hb dX5_init_24 rfl ?_
  have hPc := hP.sub (ws' := [(q_5, .inr (1, [.null, .null, .null, .null, .null, .null, .int 0, .int 0, .int 0]))]) [3] rfl
  have hDc := hD.sub (ws' := [(q_5, .inr (1, [.null, .null, .null, .null, .null, .null, .int 0, .int 0, .int 0]))]) [3] (by decide) rfl
  have hKc := hK.sub (tys' := []) [] rfl
  have hFc := va_free (wc := [(q_5, .inr (1, [.null, .null, .null, .null, .null, .null, .int 0, .int 0, .int 0]))]) hD hS hA [3] rfl
  refine va_callv (va_runIN (As := []) (rest := [.ref q_5, .ref h0]) ⟨hx, hb, hml, hown, hts⟩ (c_X1_init l dC dI q_5 H.size) ⟨va_cnB 0 hts gX5_init_X1_init_n23 rfl rfl rfl (hnw.1) (hts (.initialized RX1) (by decide +kernel)) (by decide +kernel) ⟨Nat.le_of_ble_eq_true rfl, Nat.le_of_ble_eq_true rfl⟩, rfl, hts (.instanceMethod yX1_init) (by decide +kernel)⟩ (fx_preS hPc hKc hDc hnw) rfl rfl hl.1 rfl (lv_room (Nat.le_of_ble_eq_true rfl)) dX5_init_25 ⟨(Nat.le_of_ble_eq_true rfl), (Nat.le_of_ble_eq_true rfl)⟩) hS (fun q _ h => hFc q h) hFc (fun u t H1 locs ht hvm hw hB hz1 hk1 hS => ?_)
  obtain ⟨u_6, u_7, u_8, u_9, u_10, u_11, hP1, hK1, hD1⟩ := hB
  rw [ht] at hP1
  have hK1 := va_K.moved hvm.symm hK1
  obtain ⟨hP, hD⟩ := va_join (wr := [(h0, .inr (3, [.ref q_1, .ref q_3, .null, .null, .null, .int 0, .int 0, .int 0])), (q_1, .inl (cA_2, 4, .inr (.inr (.inr (.inr (fun _ => none)))))), (q_3, .inl (cA_4, 4, .inr (.inr (.inr (.inr (fun _ => none))))))]) (w1 := [(q_5, .inr (1, [.ref u_6, .ref u_7, .ref u_8, .ref u_9, .ref u_10, .ref u_11, .int 0, .int 0, .int 0]))]) hP hD [3] [0, 1, 2] rfl rfl (by decide) (by decide) hk1 hFc hP1 hD1
  have hK := (hK.sub (tys' := [(cA_2, .object RX4), (cA_4, .object RX2)]) [0, 1] rfl).app hK1
  generalize H1 = H at hP hS ⊢
  have hP : va_P (dC, dI) fxCl [(h0, .inr (3, [.ref q_1, .ref q_3, .null, .null, .null, .int 0, .int 0, .int 0])), (q_1, .inl (cA_2, 4, .inr (.inr (.inr (.inr (fun _ => none)))))), (q_3, .inl (cA_4, 4, .inr (.inr (.inr (.inr (fun _ => none)))))), (q_5, .inr (1, [.ref u_6, .ref u_7, .ref u_8, .ref u_9, .ref u_10, .ref u_11, .int 0, .int 0, .int 0]))] H := hP
  have hD : va_D A [(h0, .inr (3, [.ref q_1, .ref q_3, .null, .null, .null, .int 0, .int 0, .int 0])), (q_1, .inl (cA_2, 4, .inr (.inr (.inr (.inr (fun _ => none)))))), (q_3, .inl (cA_4, 4, .inr (.inr (.inr (.inr (fun _ => none)))))), (q_5, .inr (1, [.ref u_6, .ref u_7, .ref u_8, .ref u_9, .ref u_10, .ref u_11, .int 0, .int 0, .int 0]))] := hD
  have hK : va_K (dC, dI) fxCl [(cA_2, .object RX4), (cA_4, .object RX2)] s := hK
  refine W.widen (k := 9) (n := 985) (Nat.le_of_ble_eq_true rfl) (Nat.le_of_ble_eq_true rfl) ?_
  refine va_putF (D := (dC, dI)) (ci := 3) (v := .ref q_5) (ty := .object "Urnwright$Game") (C := RX5) (T := TX5) (N := 8) hx hb hts (by decide +kernel) tyX5 tyX5_ok nmX5 hown hK hP hD hS 0 rfl rfl 2 (by decide) (hts (.fieldLink RX5 24 "Urnwright" "game" "LUrnwright$Game;") (by decide +kernel)) (fun _ h9 => h9) rfl hin rfl (by decide +kernel) rfl rfl (Nat.le_of_ble_eq_true rfl) dX5_init_28 (fun H locs hP hD hS => ?_)
  have hP : va_P (dC, dI) fxCl [(h0, .inr (3, [.ref q_1, .ref q_3, .ref q_5, .null, .null, .int 0, .int 0, .int 0])), (q_1, .inl (cA_2, 4, .inr (.inr (.inr (.inr (fun _ => none)))))), (q_3, .inl (cA_4, 4, .inr (.inr (.inr (.inr (fun _ => none)))))), (q_5, .inr (1, [.ref u_6, .ref u_7, .ref u_8, .ref u_9, .ref u_10, .ref u_11, .int 0, .int 0, .int 0]))] H := hP
  have hD : va_D A [(h0, .inr (3, [.ref q_1, .ref q_3, .ref q_5, .null, .null, .int 0, .int 0, .int 0])), (q_1, .inl (cA_2, 4, .inr (.inr (.inr (.inr (fun _ => none)))))), (q_3, .inl (cA_4, 4, .inr (.inr (.inr (.inr (fun _ => none)))))), (q_5, .inr (1, [.ref u_6, .ref u_7, .ref u_8, .ref u_9, .ref u_10, .ref u_11, .int 0, .int 0, .int 0]))] := hD
  refine lv_aload_n hx hb dX5_init_31 rfl (lv_at hl 0 rfl) ?_
  refine va_new (ci := 2) (fs := [.null, .null]) (C := RX3) (T := TX3) (N := 2) hx hb hts (by decide +kernel) tyX3 tyX3_ok hown (hts (.classLink RX5 28 RX3) (by decide +kernel)) (hts (.instantiable RX3 2) (by decide +kernel)) (hts (.initialized RX3) (by decide +kernel)) hK hP hD hS hA rfl (fun j hj => by rcases (show j = 0 ∨ j = 1 by omega) with rfl | rfl <;> rfl) (Nat.le_of_ble_eq_true rfl) (Nat.le_of_ble_eq_true rfl) dX5_init_32 (fun q_12 H hP hD hS => ?_)
  refine W.widen (k := 10) (n := 987) (Nat.le_of_ble_eq_true rfl) (Nat.le_of_ble_eq_true rfl) ?_
  have hP : va_P (dC, dI) fxCl [(h0, .inr (3, [.ref q_1, .ref q_3, .ref q_5, .null, .null, .int 0, .int 0, .int 0])), (q_1, .inl (cA_2, 4, .inr (.inr (.inr (.inr (fun _ => none)))))), (q_3, .inl (cA_4, 4, .inr (.inr (.inr (.inr (fun _ => none)))))), (q_5, .inr (1, [.ref u_6, .ref u_7, .ref u_8, .ref u_9, .ref u_10, .ref u_11, .int 0, .int 0, .int 0])), (q_12, .inr (2, [.null, .null]))] H := hP
  have hD : va_D A [(h0, .inr (3, [.ref q_1, .ref q_3, .ref q_5, .null, .null, .int 0, .int 0, .int 0])), (q_1, .inl (cA_2, 4, .inr (.inr (.inr (.inr (fun _ => none)))))), (q_3, .inl (cA_4, 4, .inr (.inr (.inr (.inr (fun _ => none)))))), (q_5, .inr (1, [.ref u_6, .ref u_7, .ref u_8, .ref u_9, .ref u_10, .ref u_11, .int 0, .int 0, .int 0])), (q_12, .inr (2, [.null, .null]))] := hD
  refine lv_dup hx hb dX5_init_35 rfl ?_
  have hPc := hP.sub (ws' := [(q_12, .inr (2, [.null, .null]))]) [4] rfl
  have hDc := hD.sub (ws' := [(q_12, .inr (2, [.null, .null]))]) [4] (by decide) rfl
  have hKc := hK.sub (tys' := []) [] rfl
  have hFc := va_free (wc := [(q_12, .inr (2, [.null, .null]))]) hD hS hA [4] rfl
  refine va_callv (va_runIN (As := []) (rest := [.ref q_12, .ref h0]) ⟨hx, hb, hml, hown, hts⟩ (c_X3_init l dC dI q_12 H.size) ⟨va_cnB 0 hts gX5_init_X3_init_n30 rfl rfl rfl (hnw.2.1) (hts (.initialized RX3) (by decide +kernel)) (by decide +kernel) ⟨Nat.le_of_ble_eq_true rfl, Nat.le_of_ble_eq_true rfl⟩, rfl, hts (.instanceMethod yX3_init) (by decide +kernel)⟩ (fx_preS hPc hKc hDc hnw) rfl rfl hl.1 rfl (lv_room (Nat.le_of_ble_eq_true rfl)) dX5_init_36 ⟨(Nat.le_of_ble_eq_true rfl), (Nat.le_of_ble_eq_true rfl)⟩) hS (fun q _ h => hFc q h) hFc (fun u t H1 locs ht hvm hw hB hz1 hk1 hS => ?_)
  obtain ⟨u_13, u_14, hP1, hK1, hD1⟩ := hB
  rw [ht] at hP1
  have hK1 := va_K.moved hvm.symm hK1
  obtain ⟨hP, hD⟩ := va_join (wr := [(h0, .inr (3, [.ref q_1, .ref q_3, .ref q_5, .null, .null, .int 0, .int 0, .int 0])), (q_1, .inl (cA_2, 4, .inr (.inr (.inr (.inr (fun _ => none)))))), (q_3, .inl (cA_4, 4, .inr (.inr (.inr (.inr (fun _ => none)))))), (q_5, .inr (1, [.ref u_6, .ref u_7, .ref u_8, .ref u_9, .ref u_10, .ref u_11, .int 0, .int 0, .int 0]))]) (w1 := [(q_12, .inr (2, [.ref u_13, .ref u_14]))]) hP hD [4] [0, 1, 2, 3] rfl rfl (by decide) (by decide) hk1 hFc hP1 hD1
  have hK := (hK.sub (tys' := [(cA_2, .object RX4), (cA_4, .object RX2)]) [0, 1] rfl).app hK1
  generalize H1 = H at hP hS ⊢
  have hP : va_P (dC, dI) fxCl [(h0, .inr (3, [.ref q_1, .ref q_3, .ref q_5, .null, .null, .int 0, .int 0, .int 0])), (q_1, .inl (cA_2, 4, .inr (.inr (.inr (.inr (fun _ => none)))))), (q_3, .inl (cA_4, 4, .inr (.inr (.inr (.inr (fun _ => none)))))), (q_5, .inr (1, [.ref u_6, .ref u_7, .ref u_8, .ref u_9, .ref u_10, .ref u_11, .int 0, .int 0, .int 0])), (q_12, .inr (2, [.ref u_13, .ref u_14]))] H := hP
  have hD : va_D A [(h0, .inr (3, [.ref q_1, .ref q_3, .ref q_5, .null, .null, .int 0, .int 0, .int 0])), (q_1, .inl (cA_2, 4, .inr (.inr (.inr (.inr (fun _ => none)))))), (q_3, .inl (cA_4, 4, .inr (.inr (.inr (.inr (fun _ => none)))))), (q_5, .inr (1, [.ref u_6, .ref u_7, .ref u_8, .ref u_9, .ref u_10, .ref u_11, .int 0, .int 0, .int 0])), (q_12, .inr (2, [.ref u_13, .ref u_14]))] := hD
  have hK : va_K (dC, dI) fxCl [(cA_2, .object RX4), (cA_4, .object RX2)] s := hK
  refine W.widen (k := 12) (n := 997) (Nat.le_of_ble_eq_true rfl) (Nat.le_of_ble_eq_true rfl) ?_
  refine va_putF (D := (dC, dI)) (ci := 3) (v := .ref q_12) (ty := .object "Urnwright$Sides") (C := RX5) (T := TX5) (N := 8) hx hb hts (by decide +kernel) tyX5 tyX5_ok nmX5 hown hK hP hD hS 0 rfl rfl 3 (by decide) (hts (.fieldLink RX5 31 "Urnwright" "sides" "LUrnwright$Sides;") (by decide +kernel)) (fun _ h9 => h9) rfl hin rfl (by decide +kernel) rfl rfl (Nat.le_of_ble_eq_true rfl) dX5_init_39 (fun H locs hP hD hS => ?_)
  have hP : va_P (dC, dI) fxCl [(h0, .inr (3, [.ref q_1, .ref q_3, .ref q_5, .ref q_12, .null, .int 0, .int 0, .int 0])), (q_1, .inl (cA_2, 4, .inr (.inr (.inr (.inr (fun _ => none)))))), (q_3, .inl (cA_4, 4, .inr (.inr (.inr (.inr (fun _ => none)))))), (q_5, .inr (1, [.ref u_6, .ref u_7, .ref u_8, .ref u_9, .ref u_10, .ref u_11, .int 0, .int 0, .int 0])), (q_12, .inr (2, [.ref u_13, .ref u_14]))] H := hP
  have hD : va_D A [(h0, .inr (3, [.ref q_1, .ref q_3, .ref q_5, .ref q_12, .null, .int 0, .int 0, .int 0])), (q_1, .inl (cA_2, 4, .inr (.inr (.inr (.inr (fun _ => none)))))), (q_3, .inl (cA_4, 4, .inr (.inr (.inr (.inr (fun _ => none)))))), (q_5, .inr (1, [.ref u_6, .ref u_7, .ref u_8, .ref u_9, .ref u_10, .ref u_11, .int 0, .int 0, .int 0])), (q_12, .inr (2, [.ref u_13, .ref u_14]))] := hD
  refine lv_aload_n hx hb dX5_init_42 rfl (lv_at hl 0 rfl) ?_
  refine va_new (ci := 0) (fs := [.null]) (C := RX0) (T := TX0) (N := 1) hx hb hts (by decide +kernel) tyX0 tyX0_ok hown (hts (.classLink RX5 35 RX0) (by decide +kernel)) (hts (.instantiable RX0 1) (by decide +kernel)) (hts (.initialized RX0) (by decide +kernel)) hK hP hD hS hA rfl (fun j hj => by rcases (show j = 0 by omega) with rfl <;> rfl) (Nat.le_of_ble_eq_true rfl) (Nat.le_of_ble_eq_true rfl) dX5_init_43 (fun q_15 H hP hD hS => ?_)
  refine W.widen (k := 13) (n := 998) (Nat.le_of_ble_eq_true rfl) (Nat.le_of_ble_eq_true rfl) ?_
  have hP : va_P (dC, dI) fxCl [(h0, .inr (3, [.ref q_1, .ref q_3, .ref q_5, .ref q_12, .null, .int 0, .int 0, .int 0])), (q_1, .inl (cA_2, 4, .inr (.inr (.inr (.inr (fun _ => none)))))), (q_3, .inl (cA_4, 4, .inr (.inr (.inr (.inr (fun _ => none)))))), (q_5, .inr (1, [.ref u_6, .ref u_7, .ref u_8, .ref u_9, .ref u_10, .ref u_11, .int 0, .int 0, .int 0])), (q_12, .inr (2, [.ref u_13, .ref u_14])), (q_15, .inr (0, [.null]))] H := hP
  have hD : va_D A [(h0, .inr (3, [.ref q_1, .ref q_3, .ref q_5, .ref q_12, .null, .int 0, .int 0, .int 0])), (q_1, .inl (cA_2, 4, .inr (.inr (.inr (.inr (fun _ => none)))))), (q_3, .inl (cA_4, 4, .inr (.inr (.inr (.inr (fun _ => none)))))), (q_5, .inr (1, [.ref u_6, .ref u_7, .ref u_8, .ref u_9, .ref u_10, .ref u_11, .int 0, .int 0, .int 0])), (q_12, .inr (2, [.ref u_13, .ref u_14])), (q_15, .inr (0, [.null]))] := hD
  refine lv_dup hx hb dX5_init_46 rfl ?_
  have hPc := hP.sub (ws' := [(q_15, .inr (0, [.null]))]) [5] rfl
  have hDc := hD.sub (ws' := [(q_15, .inr (0, [.null]))]) [5] (by decide) rfl
  have hKc := hK.sub (tys' := []) [] rfl
  have hFc := va_free (wc := [(q_15, .inr (0, [.null]))]) hD hS hA [5] rfl
  refine va_callv (va_runIN (As := []) (rest := [.ref q_15, .ref h0]) ⟨hx, hb, hml, hown, hts⟩ (c_X0_init l dC dI q_15 H.size) ⟨va_cnB 0 hts gX5_init_X0_init_n37 rfl rfl rfl (hnw.2.2.1) (hts (.initialized RX0) (by decide +kernel)) (by decide +kernel) ⟨Nat.le_of_ble_eq_true rfl, Nat.le_of_ble_eq_true rfl⟩, rfl, hts (.instanceMethod yX0_init) (by decide +kernel)⟩ (fx_preS hPc hKc hDc hnw) rfl rfl hl.1 rfl (lv_room (Nat.le_of_ble_eq_true rfl)) dX5_init_47 ⟨(Nat.le_of_ble_eq_true rfl), (Nat.le_of_ble_eq_true rfl)⟩) hS (fun q _ h => hFc q h) hFc (fun u t H1 locs ht hvm hw hB hz1 hk1 hS => ?_)
  obtain ⟨q_16, cA_17, f_18, hP1, hK1, hD1⟩ := hB
  rw [ht] at hP1
  have hK1 := va_K.moved hvm.symm hK1
  obtain ⟨hP, hD⟩ := va_join (wr := [(h0, .inr (3, [.ref q_1, .ref q_3, .ref q_5, .ref q_12, .null, .int 0, .int 0, .int 0])), (q_1, .inl (cA_2, 4, .inr (.inr (.inr (.inr (fun _ => none)))))), (q_3, .inl (cA_4, 4, .inr (.inr (.inr (.inr (fun _ => none)))))), (q_5, .inr (1, [.ref u_6, .ref u_7, .ref u_8, .ref u_9, .ref u_10, .ref u_11, .int 0, .int 0, .int 0])), (q_12, .inr (2, [.ref u_13, .ref u_14]))]) (w1 := [(q_15, .inr (0, [.ref q_16])), (q_16, .inl (cA_17, 6, .inr (.inl f_18)))]) hP hD [5] [0, 1, 2, 3, 4] rfl rfl (by decide) (by decide) hk1 hFc hP1 hD1
  have hK := (hK.sub (tys' := [(cA_2, .object RX4), (cA_4, .object RX2)]) [0, 1] rfl).app hK1
  generalize H1 = H at hP hS ⊢
  have hP : va_P (dC, dI) fxCl [(h0, .inr (3, [.ref q_1, .ref q_3, .ref q_5, .ref q_12, .null, .int 0, .int 0, .int 0])), (q_1, .inl (cA_2, 4, .inr (.inr (.inr (.inr (fun _ => none)))))), (q_3, .inl (cA_4, 4, .inr (.inr (.inr (.inr (fun _ => none)))))), (q_5, .inr (1, [.ref u_6, .ref u_7, .ref u_8, .ref u_9, .ref u_10, .ref u_11, .int 0, .int 0, .int 0])), (q_12, .inr (2, [.ref u_13, .ref u_14])), (q_15, .inr (0, [.ref q_16])), (q_16, .inl (cA_17, 6, .inr (.inl f_18)))] H := hP
  have hD : va_D A [(h0, .inr (3, [.ref q_1, .ref q_3, .ref q_5, .ref q_12, .null, .int 0, .int 0, .int 0])), (q_1, .inl (cA_2, 4, .inr (.inr (.inr (.inr (fun _ => none)))))), (q_3, .inl (cA_4, 4, .inr (.inr (.inr (.inr (fun _ => none)))))), (q_5, .inr (1, [.ref u_6, .ref u_7, .ref u_8, .ref u_9, .ref u_10, .ref u_11, .int 0, .int 0, .int 0])), (q_12, .inr (2, [.ref u_13, .ref u_14])), (q_15, .inr (0, [.ref q_16])), (q_16, .inl (cA_17, 6, .inr (.inl f_18)))] := hD
  have hK : va_K (dC, dI) fxCl [(cA_2, .object RX4), (cA_4, .object RX2), (cA_17, .long)] s := hK
  refine W.widen (k := 14) (n := 1004) (Nat.le_of_ble_eq_true rfl) (Nat.le_of_ble_eq_true rfl) ?_
  refine va_putF (D := (dC, dI)) (ci := 3) (v := .ref q_15) (ty := .object "Urnwright$Deck") (C := RX5) (T := TX5) (N := 8) hx hb hts (by decide +kernel) tyX5 tyX5_ok nmX5 hown hK hP hD hS 0 rfl rfl 4 (by decide) (hts (.fieldLink RX5 38 "Urnwright" "deck" "LUrnwright$Deck;") (by decide +kernel)) (fun _ h9 => h9) rfl hin rfl (by decide +kernel) rfl rfl (Nat.le_of_ble_eq_true rfl) dX5_init_50 (fun H locs hP hD hS => ?_)
  have hP : va_P (dC, dI) fxCl [(h0, .inr (3, [.ref q_1, .ref q_3, .ref q_5, .ref q_12, .ref q_15, .int 0, .int 0, .int 0])), (q_1, .inl (cA_2, 4, .inr (.inr (.inr (.inr (fun _ => none)))))), (q_3, .inl (cA_4, 4, .inr (.inr (.inr (.inr (fun _ => none)))))), (q_5, .inr (1, [.ref u_6, .ref u_7, .ref u_8, .ref u_9, .ref u_10, .ref u_11, .int 0, .int 0, .int 0])), (q_12, .inr (2, [.ref u_13, .ref u_14])), (q_15, .inr (0, [.ref q_16])), (q_16, .inl (cA_17, 6, .inr (.inl f_18)))] H := hP
  have hD : va_D A [(h0, .inr (3, [.ref q_1, .ref q_3, .ref q_5, .ref q_12, .ref q_15, .int 0, .int 0, .int 0])), (q_1, .inl (cA_2, 4, .inr (.inr (.inr (.inr (fun _ => none)))))), (q_3, .inl (cA_4, 4, .inr (.inr (.inr (.inr (fun _ => none)))))), (q_5, .inr (1, [.ref u_6, .ref u_7, .ref u_8, .ref u_9, .ref u_10, .ref u_11, .int 0, .int 0, .int 0])), (q_12, .inr (2, [.ref u_13, .ref u_14])), (q_15, .inr (0, [.ref q_16])), (q_16, .inl (cA_17, 6, .inr (.inl f_18)))] := hD
  have hP9 := hP.sub (ws' := [(h0, .inr (3, [.ref q_1, .ref q_3, .ref q_5, .ref q_12, .ref q_15, .int 0, .int 0, .int 0])), (q_15, .inr (0, [.ref q_16])), (q_16, .inl (cA_17, 6, .inr (.inl f_18)))]) [0, 5, 6] rfl
  have hD9 := hD.sub (ws' := [(h0, .inr (3, [.ref q_1, .ref q_3, .ref q_5, .ref q_12, .ref q_15, .int 0, .int 0, .int 0])), (q_15, .inr (0, [.ref q_16])), (q_16, .inl (cA_17, 6, .inr (.inl f_18)))]) [0, 5, 6] (by decide) rfl
  have hK9 := hK.sub (tys' := [(cA_17, .long)]) [2] rfl
  refine W.widen (k := 14) (n := 1004) (Nat.le_of_ble_eq_true rfl) (Nat.le_of_ble_eq_true rfl) ?_
  exact W.vret hx hb hr (fun t ht hW => ⟨⟨(), rfl, trivial, q_1, q_3, q_5, q_12, q_15, q_16, cA_17, f_18, by rw [ht]; exact hP9, va_K.moved hW.alike hK9, hD9⟩, hS.F ht⟩) hS.2.2 dX5_init_53
set_option maxHeartbeats 4000000 in
set_option maxRecDepth 100000 in
/-- far(5, 7, z) of the class -/
theorem c_X5_far (l : Launch) (dC : Nat → ClassId) (dI : Nat → Nat → Nat) (h0 qd q u1 u2 u3 u4 : Nat) (k1 k2 k3 z : Int32) (cA : ClassId) (f : Nat → Int64) (sz : Nat) : Met l yX5_far wsX5_far ({ frames := 4, cells := 0, slots := 0, locals := 120 } : Room) (va_Pc [.ref h0, .int 5, .int 7, .int z] (fx_st dC dI [(h0, .inr (3, [.ref u1, .ref u2, .ref u3, .ref u4, .ref qd, .int k1, .int k2, .int k3])), (qd, .inr (0, [.ref q])), (q, .inl (cA, 6, .inr (.inl f)))] [(cA, .long)] sz)) (va_Ql (fun (_ : Int64) (_ : Unit) => True) (fun _ t => ∃ g : Nat → Int64, fx_en dC dI (va_A [(h0, .inr (3, [.ref u1, .ref u2, .ref u3, .ref u4, .ref qd, .int k1, .int k2, .int k3])), (qd, .inr (0, [.ref q])), (q, .inl (cA, 6, .inr (.inl f)))] sz) [(h0, .inr (3, [.ref u1, .ref u2, .ref u3, .ref u4, .ref qd, .int k1, .int k2, .int k3])), (qd, .inr (0, [.ref q])), (q, .inl (cA, 6, .inr (.inl g)))] [(cA, .long)] t) (va_A [(h0, .inr (3, [.ref u1, .ref u2, .ref u3, .ref u4, .ref qd, .int k1, .int k2, .int k3])), (qd, .inr (0, [.ref q])), (q, .inl (cA, 6, .inr (.inl f)))] sz)) 0 0 (va_A [(h0, .inr (3, [.ref u1, .ref u2, .ref u3, .ref u4, .ref qd, .int k1, .int k2, .int k3])), (qd, .inr (0, [.ref q])), (q, .inl (cA, 6, .inr (.inl f)))] sz) := by
  refine Met.ofW (cc := cX5_far) (maxL := 8) (ret := (some .long)) (by decide) rfl ?_
  intro p e s m args below meth c s₁ B hml hv
  obtain ⟨rfl, hsz, hP, hK, hD0, hnw⟩ := hv
  have hx := B.exec
  have hb := B.bytes
  have hr := B.returns
  have hts := atoms_spec (ws := wsX5_far) B.pre
  have hown : s.vm.findClass RX5 = some m.cls := findClass_of_methodNamed B.named
  have hlocks := B.notSynchronized
  subst hsz
  have hD := hD0.self (sz := s.heap.size)
  generalize hAe : va_A [(h0, .inr (3, [.ref u1, .ref u2, .ref u3, .ref u4, .ref qd, .int k1, .int k2, .int k3])), (qd, .inr (0, [.ref q])), (q, .inl (cA, 6, .inr (.inl f)))] s.heap.size = A at hD ⊢
  have hA : ∀ q : Nat, s.heap.size ≤ q → A q := fun q h => by rw [← hAe]; exact Or.inr h
  obtain ⟨H, hHe⟩ : ∃ H, H = s.heap := ⟨_, rfl⟩
  have hS : va_S A s.heap H [] := by rw [hHe]; exact va_S.rf
  have hP : va_P (dC, dI) fxCl [(h0, .inr (3, [.ref u1, .ref u2, .ref u3, .ref u4, .ref qd, .int k1, .int k2, .int k3])), (qd, .inr (0, [.ref q])), (q, .inl (cA, 6, .inr (.inl f)))] H := by rw [hHe]; exact hP
  refine fx_h hHe ?_
  have hl := lv_entry ([.ref h0, .int 5, .int 7, .int z]) (n := 8) (Nat.le_of_ble_eq_true rfl)
  rw [lg_entry_eq]
  generalize (lg_sl ([.ref h0, .int 5, .int 7, .int z]) ++ List.replicate (8 - (lg_sl ([.ref h0, .int 5, .int 7, .int z])).length) Slot.unset).toArray = ls at hl ⊢
  have hl : lv_has ls 8 [(0, .ref h0), (1, .int 5), (2, .int 7), (3, .int z)] := hl
  refine lv_iload_n hx hb dX5_far_0 rfl (lv_at hl 1 rfl) ?_
  refine lv_iconst (v := 1) hx hb dX5_far_1 (by decide) ?_
  refine lv_iconst (v := 5) hx hb dX5_far_2 (by decide) ?_
  refine vp_callSi (W.runS (As := [.int 5, .int 1, .int 5]) (rest := []) ⟨hx, hb, hml, hown, hts⟩ (c_X5_isWithin l 5 1 5) (va_cwS 3 hts gX5_far_X5_isWithin rfl rfl rfl (by decide +kernel) ⟨Nat.le_of_ble_eq_true rfl, Nat.le_of_ble_eq_true rfl⟩) preEq rfl rfl hl.1 rfl (lv_room (Nat.le_of_ble_eq_true rfl)) dX5_far_3 ⟨Nat.le_of_ble_eq_true rfl, Nat.le_of_ble_eq_true rfl⟩) (fun r_1 hr_1 => ?_)
  obtain rfl : r_1 = (1 : Int32) := hr_1 (by decide) (by decide)
  refine lv_if_eq (tgt := 19) hx hb dX5_far_6 (by decide) (fun c => absurd c (by decide)) (fun _ => ?_)
  refine lv_iload_n hx hb dX5_far_9 rfl (lv_at hl 2 rfl) ?_
  refine lv_iconst (v := 0) hx hb dX5_far_10 (by decide) ?_
  refine lv_bipush (v := 7) hx hb dX5_far_11 (by decide) ?_
  refine vp_callSi (W.runS (As := [.int 7, .int 0, .int 7]) (rest := []) ⟨hx, hb, hml, hown, hts⟩ (c_X5_isWithin l 7 0 7) (va_cwS 3 hts gX5_far_X5_isWithin rfl rfl rfl (by decide +kernel) ⟨Nat.le_of_ble_eq_true rfl, Nat.le_of_ble_eq_true rfl⟩) preEq rfl rfl hl.1 rfl (lv_room (Nat.le_of_ble_eq_true rfl)) dX5_far_13 ⟨Nat.le_of_ble_eq_true rfl, Nat.le_of_ble_eq_true rfl⟩) (fun r_2 hr_2 => ?_)
  obtain rfl : r_2 = (1 : Int32) := hr_2 (by decide) (by decide)
  refine lv_if_ne (tgt := 29) hx hb dX5_far_16 (by decide) (fun _ => ?_) (fun c => absurd c (by decide))
  refine lv_iload_n hx hb dX5_far_29 rfl (lv_at hl 1 rfl) ?_
  refine vp_callSl (W.runS (As := [.int 5]) (rest := []) ⟨hx, hb, hml, hown, hts⟩ (c_X5_factorial l ) (va_cwS 1 hts gX5_far_X5_factorial rfl rfl rfl (by decide +kernel) ⟨Nat.le_of_ble_eq_true rfl, Nat.le_of_ble_eq_true rfl⟩) preEq rfl rfl hl.1 rfl (lv_room (Nat.le_of_ble_eq_true rfl)) dX5_far_30 ⟨Nat.le_of_ble_eq_true rfl, Nat.le_of_ble_eq_true rfl⟩) (fun r_3 hr_3 => ?_)
  obtain rfl : r_3 = (120 : Int64) := hr_3
  refine lv_lstore (lv' := [(4, .long 120), (0, .ref h0), (1, .int 5), (2, .int 7), (3, .int z)]) hx hb dX5_far_33 hl (by decide) rfl (fun ls hl => ?_)
  refine lv_iload_n hx hb dX5_far_35 rfl (lv_at hl 2 rfl) ?_
  refine lv_iload_n hx hb dX5_far_36 rfl (lv_at hl 3 rfl) ?_
  refine vp_callSl (W.runS (As := [.int 5, .int 7]) (rest := []) ⟨hx, hb, hml, hown, hts⟩ (c_X5_power l ) (va_cwS 2 hts gX5_far_X5_power rfl rfl rfl (by decide +kernel) ⟨Nat.le_of_ble_eq_true rfl, Nat.le_of_ble_eq_true rfl⟩) preEq rfl rfl hl.1 rfl (lv_room (Nat.le_of_ble_eq_true rfl)) dX5_far_37 ⟨Nat.le_of_ble_eq_true rfl, Nat.le_of_ble_eq_true rfl⟩) (fun r_4 hr_4 => ?_)
  obtain rfl : r_4 = (78125 : Int64) := hr_4
  refine lv_lstore (lv' := [(6, .long 78125), (4, .long 120), (0, .ref h0), (1, .int 5), (2, .int 7), (3, .int z)]) hx hb dX5_far_40 hl (by decide) rfl (fun ls hl => ?_)
  refine lv_aload_n hx hb dX5_far_42 rfl (lv_at hl 2 rfl) ?_
  refine va_get (D := (dC, dI)) (ci := 3) (v := .ref qd) (C := RX5) (T := TX5) (N := 8) hx hb hts (by decide +kernel) hown hK hP 0 rfl rfl 4 (by decide) (hts (.fieldLink RX5 38 "Urnwright" "deck" "LUrnwright$Deck;") (by decide +kernel)) (fun _ h9 => h9) rfl dX5_far_43 ?_
  refine lv_iload_n hx hb dX5_far_46 rfl (lv_at hl 3 rfl) ?_
  refine lv_iload_n hx hb dX5_far_47 rfl (lv_at hl 4 rfl) ?_
  have hPc := hP.sub (ws' := [(qd, .inr (0, [.ref q])), (q, .inl (cA, 6, .inr (.inl f)))]) [1, 2] rfl
  have hDc := hD.sub (ws' := [(qd, .inr (0, [.ref q])), (q, .inl (cA, 6, .inr (.inl f)))]) [1, 2] (by decide) rfl
  have hKc := hK.sub (tys' := [(cA, .long)]) [0] rfl
  have hFc := va_free (wc := [(qd, .inr (0, [.ref q])), (q, .inl (cA, 6, .inr (.inl f)))]) hD hS hA [1, 2] rfl
  refine va_callv (va_runVN (As := [.int 5, .int 7]) (rest := []) ⟨hx, hb, hml, hown, hts⟩ (c_X0_shuffle l dC dI qd q cA f H.size) ⟨va_cnB 2 hts gX5_far_X0_shuffle_n251 rfl rfl rfl (hnw.2.2.2.1) (hts (.initialized RX0) (by decide +kernel)) (by decide +kernel) ⟨Nat.le_of_ble_eq_true rfl, Nat.le_of_ble_eq_true rfl⟩, hts (.instanceMethod yX0_shuffle) (by decide +kernel), hts (.selects RX0 yX0_shuffle yX0_shuffle) (by decide +kernel)⟩ (fx_preV hPc hKc hDc hnw rfl rfl) rfl rfl hl.1 rfl (lv_room (Nat.le_of_ble_eq_true rfl)) dX5_far_48 ⟨(Nat.le_of_ble_eq_true rfl), (Nat.le_of_ble_eq_true rfl)⟩) hS (fun q _ h => hFc q h) hFc (fun u t H1 locs ht hvm hw hB hz1 hk1 hS => ?_)
  obtain ⟨f_5, hP1, hK1, hD1⟩ := hB
  rw [ht] at hP1
  have hK1 := va_K.moved hvm.symm hK1
  obtain ⟨hP, hD⟩ := va_join (wr := [(h0, .inr (3, [.ref u1, .ref u2, .ref u3, .ref u4, .ref qd, .int k1, .int k2, .int k3]))]) (w1 := [(qd, .inr (0, [.ref q])), (q, .inl (cA, 6, .inr (.inl f_5)))]) hP hD [1, 2] [0] rfl rfl (by decide) (by decide) hk1 hFc hP1 hD1
  have hK := (hK.sub (tys' := []) [] rfl).app hK1
  generalize H1 = H at hP hS ⊢
  have hP : va_P (dC, dI) fxCl [(h0, .inr (3, [.ref u1, .ref u2, .ref u3, .ref u4, .ref qd, .int k1, .int k2, .int k3])), (qd, .inr (0, [.ref q])), (q, .inl (cA, 6, .inr (.inl f_5)))] H := hP
  have hD : va_D A [(h0, .inr (3, [.ref u1, .ref u2, .ref u3, .ref u4, .ref qd, .int k1, .int k2, .int k3])), (qd, .inr (0, [.ref q])), (q, .inl (cA, 6, .inr (.inl f_5)))] := hD
  have hK : va_K (dC, dI) fxCl [(cA, .long)] s := hK
  refine lv_aload_n hx hb dX5_far_51 rfl (lv_at hl 2 rfl) ?_
  refine va_get (D := (dC, dI)) (ci := 3) (v := .ref qd) (C := RX5) (T := TX5) (N := 8) hx hb hts (by decide +kernel) hown hK hP 0 rfl rfl 4 (by decide) (hts (.fieldLink RX5 38 "Urnwright" "deck" "LUrnwright$Deck;") (by decide +kernel)) (fun _ h9 => h9) rfl dX5_far_52 ?_
  refine lv_iload_n hx hb dX5_far_55 rfl (lv_at hl 3 rfl) ?_
  refine lv_lload hx hb dX5_far_56 (lv_at hl 1 rfl) ?_
  refine lv_lload hx hb dX5_far_58 (lv_at hl 0 rfl) ?_
  have hPc := hP.sub (ws' := [(qd, .inr (0, [.ref q])), (q, .inl (cA, 6, .inr (.inl f_5)))]) [1, 2] rfl
  have hDc := hD.sub (ws' := [(qd, .inr (0, [.ref q])), (q, .inl (cA, 6, .inr (.inl f_5)))]) [1, 2] (by decide) rfl
  have hKc := hK.sub (tys' := [(cA, .long)]) [0] rfl
  refine vp_callSl ((va_runVN (As := [.int 5, .long 120, .long 78125]) (rest := []) ⟨hx, hb, hml, hown, hts⟩ (c_X0_sumOfDifferences l dC dI qd q cA f_5 120 78125 H.size) ⟨va_cnB 3 hts gX5_far_X0_sumOfDifferences_n255 rfl rfl rfl (hnw.2.2.2.2.1) (hts (.initialized RX0) (by decide +kernel)) (by decide +kernel) ⟨Nat.le_of_ble_eq_true rfl, Nat.le_of_ble_eq_true rfl⟩, hts (.instanceMethod yX0_sumOfDifferences) (by decide +kernel), hts (.selects RX0 yX0_sumOfDifferences yX0_sumOfDifferences) (by decide +kernel)⟩ (fx_preV hPc hKc hDc hnw rfl rfl) rfl rfl hl.1 rfl (lv_room (Nat.le_of_ble_eq_true rfl)) dX5_far_60 ⟨(Nat.le_of_ble_eq_true rfl), (Nat.le_of_ble_eq_true rfl)⟩).run) (fun r_6 hr_6 => ?_)
  refine lv_ldc2 (v := 2) hx hb hown (hts (.constantLong RX5 229 (2)) (by decide +kernel)) dX5_far_63 ?_
  refine lv_lload hx hb dX5_far_66 (lv_at hl 1 rfl) ?_
  refine lv_lmul hx hb dX5_far_68 ?_
  refine lv_topl (fun x_7 ex_7 => ?_)
  obtain rfl : x_7 = (240 : Int64) := ex_7.trans (by decide)
  refine lv_lload hx hb dX5_far_69 (lv_at hl 0 rfl) ?_
  refine lv_lmul hx hb dX5_far_71 ?_
  refine lv_topl (fun x_8 ex_8 => ?_)
  obtain rfl : x_8 = (18750000 : Int64) := ex_8.trans (by decide)
  refine lv_iload_n hx hb dX5_far_72 rfl (lv_at hl 5 rfl) ?_
  refine vp_callSl (W.runS (As := [.long r_6, .long 18750000, .int z]) (rest := []) ⟨hx, hb, hml, hown, hts⟩ (c_X5_part l r_6 18750000 z) (va_cwS 3 hts gX5_far_X5_part rfl rfl rfl (by decide +kernel) ⟨Nat.le_of_ble_eq_true rfl, Nat.le_of_ble_eq_true rfl⟩) preEq rfl rfl hl.1 rfl (lv_room (Nat.le_of_ble_eq_true rfl)) dX5_far_73 ⟨Nat.le_of_ble_eq_true rfl, Nat.le_of_ble_eq_true rfl⟩) (fun r_9 hr_9 => ?_)
  have hP9 := hP.sub (ws' := [(h0, .inr (3, [.ref u1, .ref u2, .ref u3, .ref u4, .ref qd, .int k1, .int k2, .int k3])), (qd, .inr (0, [.ref q])), (q, .inl (cA, 6, .inr (.inl f_5)))]) [0, 1, 2] rfl
  have hD9 := hD.sub (ws' := [(h0, .inr (3, [.ref u1, .ref u2, .ref u3, .ref u4, .ref qd, .int k1, .int k2, .int k3])), (qd, .inr (0, [.ref q])), (q, .inl (cA, 6, .inr (.inl f_5)))]) [0, 1, 2] (by decide) rfl
  have hK9 := hK.sub (tys' := [(cA, .long)]) [0] rfl
  exact W.lret (v := r_9) hx hb hr (fun t ht hW => ⟨⟨r_9, (), rfl, trivial, f_5, by rw [ht]; exact hP9, va_K.moved hW.alike hK9, hD9⟩, hS.F ht⟩) hS.2.2 dX5_far_76
