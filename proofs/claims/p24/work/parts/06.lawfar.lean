set_option maxHeartbeats 4000000 in
set_option maxRecDepth 100000 in
/-- Out() -/
theorem c_X6_init (l : Launch) (dC : Nat → ClassId) (dI : Nat → Nat → Nat) (h0 : Nat) (sz : Nat) : Met l yX6_init wsX6_init ({ frames := 1, cells := 0, slots := 0, locals := 40 } : Room) (va_Pc [.ref h0] (fx_st dC dI [(h0, .inr (4, [.long 0, .double 0, .null]))] [] sz)) (va_Qv (fun _ : Unit => True) (fun _ t => fx_en dC dI (va_A [(h0, .inr (4, [.long 0, .double 0, .null]))] sz) [(h0, .inr (4, [.long 0, .double 0, .null]))] [] t) (va_A [(h0, .inr (4, [.long 0, .double 0, .null]))] sz)) 0 0 (va_A [(h0, .inr (4, [.long 0, .double 0, .null]))] sz) := by
  refine Met.ofW (cc := cX6_init) (maxL := 1) (ret := none) (by decide) rfl ?_
  intro p e s m args below meth c s₁ B hml hv
  obtain ⟨rfl, hsz, hP, hK, hD0, hnw⟩ := hv
  have hx := B.exec
  have hb := B.bytes
  have hr := B.returns
  have hts := atoms_spec (ws := wsX6_init) B.pre
  have hown : s.vm.findClass RX6 = some m.cls := findClass_of_methodNamed B.named
  have hlocks := B.notSynchronized
  have hin : meth.name = "<init>" := (name_of_methodNamed B.named B.method).1
  subst hsz
  have hD := hD0.self (sz := s.heap.size)
  generalize hAe : va_A [(h0, .inr (4, [.long 0, .double 0, .null]))] s.heap.size = A at hD ⊢
  have hA : ∀ q : Nat, s.heap.size ≤ q → A q := fun q h => by rw [← hAe]; exact Or.inr h
  obtain ⟨H, hHe⟩ : ∃ H, H = s.heap := ⟨_, rfl⟩
  have hS : va_S A s.heap H [] := by rw [hHe]; exact va_S.rf
  have hP : va_P (dC, dI) fxCl [(h0, .inr (4, [.long 0, .double 0, .null]))] H := by rw [hHe]; exact hP
  refine fx_h hHe ?_
  have hl := lv_entry ([.ref h0]) (n := 1) (Nat.le_of_ble_eq_true rfl)
  rw [lg_entry_eq]
  generalize (lg_sl ([.ref h0]) ++ List.replicate (1 - (lg_sl ([.ref h0])).length) Slot.unset).toArray = ls at hl ⊢
  have hl : lv_has ls 1 [(0, .ref h0)] := hl
  refine lv_aload_n hx hb dX6_init_0 rfl (lv_at hl 0 rfl) ?_
  refine W.objInit hx hb hown (hts (.methodLink RX6 1 objectInit) (by decide +kernel)) (hts (.instanceMethod objectInit) (by decide +kernel)) (hts (.code objectInit ⟨#[0xb1]⟩ 1 none) (by decide +kernel)) rfl (by rw [hml]; exact hl.1) rfl dX6_init_1 (Nat.le_of_ble_eq_true rfl) (Nat.le_of_ble_eq_true rfl) ?_
  refine W.eq (g2 := F0 m 4 ls []) rfl ?_
  have hP9 := hP.sub (ws' := [(h0, .inr (4, [.long 0, .double 0, .null]))]) [0] rfl
  have hD9 := hD.sub (ws' := [(h0, .inr (4, [.long 0, .double 0, .null]))]) [0] (by decide) rfl
  have hK9 := hK.sub (tys' := []) [] rfl
  exact W.vret hx hb hr (fun t ht hW => ⟨⟨(), rfl, trivial, by rw [ht]; exact hP9, va_K.moved hW.alike hK9, hD9⟩, hS.F ht⟩) hS.2.2 dX6_init_4
set_option maxHeartbeats 4000000 in
set_option maxRecDepth 100000 in
/-- the law's far: it returns 0 -/
theorem c_L_far (l : Launch) (dC : Nat → ClassId) (dI : Nat → Nat → Nat) (x qd q o u1 u2 u3 u4 : Nat) (z : Int32) (n : Int64) (cA : ClassId) (f : Nat → Int64) (sz : Nat) : Met l yL_far wsL_far ({ frames := 5, cells := 0, slots := 0, locals := 160 } : Room) (va_Pc [.ref x, .int 5, .int 7, .int z, .ref o] (fx_st dC dI [(x, .inr (3, [.ref u1, .ref u2, .ref u3, .ref u4, .ref qd, .int 0, .int 0, .int 0])), (qd, .inr (0, [.ref q])), (q, .inl (cA, 6, .inr (.inl f))), (o, .inr (4, [.long n, .double 0, .null]))] [(cA, .long)] sz)) (va_Qi (fun (r : Int32) (_ : Unit) => r = 0) (fun _ t => ∃ (k : Int64) (g : Nat → Int64), fx_en dC dI (va_A [(x, .inr (3, [.ref u1, .ref u2, .ref u3, .ref u4, .ref qd, .int 0, .int 0, .int 0])), (qd, .inr (0, [.ref q])), (q, .inl (cA, 6, .inr (.inl f))), (o, .inr (4, [.long n, .double 0, .null]))] sz) [(x, .inr (3, [.ref u1, .ref u2, .ref u3, .ref u4, .ref qd, .int 0, .int 0, .int 0])), (qd, .inr (0, [.ref q])), (q, .inl (cA, 6, .inr (.inl g))), (o, .inr (4, [.long k, .double 0, .null]))] [(cA, .long)] t) (va_A [(x, .inr (3, [.ref u1, .ref u2, .ref u3, .ref u4, .ref qd, .int 0, .int 0, .int 0])), (qd, .inr (0, [.ref q])), (q, .inl (cA, 6, .inr (.inl f))), (o, .inr (4, [.long n, .double 0, .null]))] sz)) 0 0 (va_A [(x, .inr (3, [.ref u1, .ref u2, .ref u3, .ref u4, .ref qd, .int 0, .int 0, .int 0])), (qd, .inr (0, [.ref q])), (q, .inl (cA, 6, .inr (.inl f))), (o, .inr (4, [.long n, .double 0, .null]))] sz) := by
  refine va_MetW (cc := cL_far) (maxL := 6) (ret := (some .int)) (by decide) rfl ?_
  intro p e s m args below meth c s₁ B hml hv
  obtain ⟨rfl, hsz, hP, hK, hD0, hnw⟩ := hv
  have hx := B.exec
  have hb := B.bytes
  have hr := B.returns
  have hts := atoms_spec (ws := wsL_far) B.pre
  have hown : s.vm.findClass RL = some m.cls := findClass_of_methodNamed B.named
  have hlocks := B.notSynchronized
  subst hsz
  have hD := hD0.self (sz := s.heap.size)
  generalize hAe : va_A [(x, .inr (3, [.ref u1, .ref u2, .ref u3, .ref u4, .ref qd, .int 0, .int 0, .int 0])), (qd, .inr (0, [.ref q])), (q, .inl (cA, 6, .inr (.inl f))), (o, .inr (4, [.long n, .double 0, .null]))] s.heap.size = A at hD ⊢
  have hA : ∀ q : Nat, s.heap.size ≤ q → A q := fun q h => by rw [← hAe]; exact Or.inr h
  obtain ⟨H, hHe⟩ : ∃ H, H = s.heap := ⟨_, rfl⟩
  have hS : va_S A s.heap H [] := by rw [hHe]; exact va_S.rf
  have hP : va_P (dC, dI) fxCl [(x, .inr (3, [.ref u1, .ref u2, .ref u3, .ref u4, .ref qd, .int 0, .int 0, .int 0])), (qd, .inr (0, [.ref q])), (q, .inl (cA, 6, .inr (.inl f))), (o, .inr (4, [.long n, .double 0, .null]))] H := by rw [hHe]; exact hP
  refine fx_h hHe ?_
  have hl := lv_entry ([.ref x, .int 5, .int 7, .int z, .ref o]) (n := 6) (Nat.le_of_ble_eq_true rfl)
  rw [lg_entry_eq]
  generalize (lg_sl ([.ref x, .int 5, .int 7, .int z, .ref o]) ++ List.replicate (6 - (lg_sl ([.ref x, .int 5, .int 7, .int z, .ref o])).length) Slot.unset).toArray = ls at hl ⊢
  have hl : lv_has ls 6 [(0, .ref x), (1, .int 5), (2, .int 7), (3, .int z), (4, .ref o)] := hl
  refine lv_aload hx hb dL_far_0 (lv_at hl 4 rfl) ?_
  refine lv_aload_n hx hb dL_far_2 rfl (lv_at hl 0 rfl) ?_
  refine lv_iload_n hx hb dL_far_3 rfl (lv_at hl 1 rfl) ?_
  refine lv_iload_n hx hb dL_far_4 rfl (lv_at hl 2 rfl) ?_
  refine lv_iload_n hx hb dL_far_5 rfl (lv_at hl 3 rfl) ?_
  have hPc := hP.sub (ws' := [(x, .inr (3, [.ref u1, .ref u2, .ref u3, .ref u4, .ref qd, .int 0, .int 0, .int 0])), (qd, .inr (0, [.ref q])), (q, .inl (cA, 6, .inr (.inl f)))]) [0, 1, 2] rfl
  have hDc := hD.sub (ws' := [(x, .inr (3, [.ref u1, .ref u2, .ref u3, .ref u4, .ref qd, .int 0, .int 0, .int 0])), (qd, .inr (0, [.ref q])), (q, .inl (cA, 6, .inr (.inl f)))]) [0, 1, 2] (by decide) rfl
  have hKc := hK.sub (tys' := [(cA, .long)]) [0] rfl
  have hFc := va_free (wc := [(x, .inr (3, [.ref u1, .ref u2, .ref u3, .ref u4, .ref qd, .int 0, .int 0, .int 0])), (qd, .inr (0, [.ref q])), (q, .inl (cA, 6, .inr (.inl f)))]) hD hS hA [0, 1, 2] rfl
  refine va_calll (va_runV (As := [.int 5, .int 7, .int z]) (rest := [.ref o]) ⟨hx, hb, hml, hown, hts⟩ (c_X5_far l dC dI x qd q u1 u2 u3 u4 0 0 0 z cA f H.size) (cwV 3 hts gL_far_X5_far rfl rfl rfl (by decide +kernel) ⟨Nat.le_of_ble_eq_true rfl, Nat.le_of_ble_eq_true rfl⟩) (fx_preV hPc hKc hDc hnw rfl rfl) rfl rfl hl.1 rfl (lv_room (Nat.le_of_ble_eq_true rfl)) dL_far_6 ⟨(Nat.le_of_ble_eq_true rfl), (Nat.le_of_ble_eq_true rfl)⟩) hS (fun q _ h => hFc q h) hFc (fun r_2 u t H1 locs ht hvm hw hB hz1 hk1 hS => ?_)
  obtain ⟨f_1, hP1, hK1, hD1⟩ := hB
  rw [ht] at hP1
  have hK1 := va_K.moved hvm.symm hK1
  obtain ⟨hP, hD⟩ := va_join (wr := [(o, .inr (4, [.long n, .double 0, .null]))]) (w1 := [(x, .inr (3, [.ref u1, .ref u2, .ref u3, .ref u4, .ref qd, .int 0, .int 0, .int 0])), (qd, .inr (0, [.ref q])), (q, .inl (cA, 6, .inr (.inl f_1)))]) hP hD [0, 1, 2] [3] rfl rfl (by decide) (by decide) hk1 hFc hP1 hD1
  have hK := (hK.sub (tys' := []) [] rfl).app hK1
  generalize H1 = H at hP hS ⊢
  have hP : va_P (dC, dI) fxCl [(o, .inr (4, [.long n, .double 0, .null])), (x, .inr (3, [.ref u1, .ref u2, .ref u3, .ref u4, .ref qd, .int 0, .int 0, .int 0])), (qd, .inr (0, [.ref q])), (q, .inl (cA, 6, .inr (.inl f_1)))] H := hP
  have hD : va_D A [(o, .inr (4, [.long n, .double 0, .null])), (x, .inr (3, [.ref u1, .ref u2, .ref u3, .ref u4, .ref qd, .int 0, .int 0, .int 0])), (qd, .inr (0, [.ref q])), (q, .inl (cA, 6, .inr (.inl f_1)))] := hD
  have hK : va_K (dC, dI) fxCl [(cA, .long)] s := hK
  refine va_putN (D := (dC, dI)) (ci := 4) (v := .long r_2) (ty := .long) (C := RX6) (T := TX6) (N := 3) hx hb hts (by decide +kernel) tyX6 tyX6_ok nmX6 hown hK hP hD hS 0 rfl rfl 0 (by decide) (va_Nw.use rfl (hnw.2.2.2.2.2.2.2.2.2.2.1)) (fun _ h9 => h9) rfl (by decide +kernel) rfl rfl (Nat.le_of_ble_eq_true rfl) dL_far_9 (fun H locs hP hD hS => ?_)
  have hP : va_P (dC, dI) fxCl [(o, .inr (4, [.long r_2, .double 0, .null])), (x, .inr (3, [.ref u1, .ref u2, .ref u3, .ref u4, .ref qd, .int 0, .int 0, .int 0])), (qd, .inr (0, [.ref q])), (q, .inl (cA, 6, .inr (.inl f_1)))] H := hP
  have hD : va_D A [(o, .inr (4, [.long r_2, .double 0, .null])), (x, .inr (3, [.ref u1, .ref u2, .ref u3, .ref u4, .ref qd, .int 0, .int 0, .int 0])), (qd, .inr (0, [.ref q])), (q, .inl (cA, 6, .inr (.inl f_1)))] := hD
  refine lv_goto (tgt := 19) hx hb dL_far_12 (by decide) ?_
  refine lv_iconst (v := 0) hx hb dL_far_19 (by decide) ?_
  have hP9 := hP.sub (ws' := [(x, .inr (3, [.ref u1, .ref u2, .ref u3, .ref u4, .ref qd, .int 0, .int 0, .int 0])), (qd, .inr (0, [.ref q])), (q, .inl (cA, 6, .inr (.inl f_1))), (o, .inr (4, [.long r_2, .double 0, .null]))]) [1, 2, 3, 0] rfl
  have hD9 := hD.sub (ws' := [(x, .inr (3, [.ref u1, .ref u2, .ref u3, .ref u4, .ref qd, .int 0, .int 0, .int 0])), (qd, .inr (0, [.ref q])), (q, .inl (cA, 6, .inr (.inl f_1))), (o, .inr (4, [.long r_2, .double 0, .null]))]) [1, 2, 3, 0] (by decide) rfl
  have hK9 := hK.sub (tys' := [(cA, .long)]) [0] rfl
  exact W.iret (v := 0) hx hb hr (fun t ht hW => ⟨⟨0, (), rfl, rfl, r_2, f_1, by rw [ht]; exact hP9, va_K.moved hW.alike hK9, hD9⟩, hS.F ht⟩) hS.2.2 dL_far_20
