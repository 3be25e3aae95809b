/-- a start that knows ArrayList's static, too -/
def fx_stZ (v : Value) (dC : Nat → ClassId) (dI : Nat → Nat → Nat) (ws : va_W) (tys : List (ClassId × FieldType)) (sz : Nat) (U : State) : Prop := fx_st dC dI ws tys sz U ∧ va_Z "java/util/ArrayList" "DEFAULTCAPACITY_EMPTY_ELEMENTDATA" "[Ljava/lang/Object;" v (va_A ws sz) U U.heap
theorem fx_preZ {v : Value} {dC : Nat → ClassId} {dI : Nat → Nat → Nat} {wc : va_W} {tys : List (ClassId × FieldType)} {s : State} {H H0 : Heap} {locs : List Loc} {A : Nat → Prop} {As : List Value} (hP : va_P (dC, dI) fxCl wc H) (hK : va_K (dC, dI) fxCl tys s) (hD : va_D A wc) (hnw : fx_nw s) (hZ : va_Z "java/util/ArrayList" "DEFAULTCAPACITY_EMPTY_ELEMENTDATA" "[Ljava/lang/Object;" v A s H0) (hS : va_S A H0 H locs) (hF : ∀ q, va_A wc H.size q → A q) : PreS s H (va_Pc As (fx_stZ v dC dI wc tys H.size)) As :=
  ⟨fun a U g mk q => by
    obtain ⟨q0, q1, q2⟩ := q
    exact ⟨q0, (fx_blind (As := As) a U g mk ⟨q0, q1⟩).2, va_Z.moved (u := U) (U := U.calling g mk a) (Vm.Alike.refl U.vm) q2⟩,
   fun U hU hW => ⟨rfl, ((fx_preS (As := As) hP hK hD hnw).2 U hU hW).2, by
    rw [hU]
    exact va_Z.moved hW.alike ((hZ.kept (fun a h1 h2 => hS.2.1 a h1 h2)).narrow hF)⟩⟩
/-- cells of 3125 slots, apart, from sz on -/
def fx_big (sz : Nat) (H : Heap) (L : List Nat) : Prop := L.Nodup ∧ ∀ q ∈ L, sz ≤ q ∧ ∃ cell : Cell, H[q]? = some cell ∧ cell.slots.size = 3125
theorem fx_bigof {dC : Nat → ClassId} {dI : Nat → Nat → Nat} {A : Nat → Prop} {h0 sz : Nat} {e0 e1 : va_E} {rest : va_W} {H : Heap} (hAe : va_A [(h0, e0)] sz = A) (hD : va_D A ((h0, e1) :: rest)) (hP : va_P (dC, dI) fxCl ((h0, e1) :: rest) H) (hr : ∀ x ∈ rest, ∃ (c : ClassId) (f : Nat → Int64), x.2 = .inl (c, 3125, .inr (.inl f))) : fx_big sz H (rest.map (·.1)) := by
  constructor
  · rw [List.nodup_iff_pairwise_ne, List.pairwise_iff_getElem]
    intro i j hi hj hij he
    simp only [List.length_map] at hi hj
    simp only [List.getElem_map] at he
    have h := hD.1 (i + 1) (j + 1) (rest[i]) (rest[j]) (by simp [hi]) (by simp [hj]) he
    omega
  · intro q hq
    obtain ⟨x, hx, rfl⟩ := List.mem_map.mp hq
    obtain ⟨i, hi, rfl⟩ := List.getElem_of_mem hx
    have hi1 : ((h0, e1) :: rest)[i + 1]? = some rest[i] := by simp [hi]
    refine ⟨?_, ?_⟩
    · have hA := hD.2 (i + 1) _ hi1
      rw [← hAe] at hA
      rcases hA with ⟨k, e, hk⟩ | hA
      · cases k with
        | zero =>
          simp at hk
          have h := hD.1 0 (i + 1) (h0, e1) rest[i] rfl hi1 hk.1
          omega
        | succ k => simp at hk
      · exact hA
    · obtain ⟨c, f, he⟩ := hr _ hx
      have h := hP (i + 1) _ hi1
      have h2 : H[(rest[i]).1]? = some (vp_cell c (3125, .inr (.inl f))) := by
        have h3 := h
        unfold va_at at h3
        rw [he] at h3
        exact h3
      exact ⟨_, h2, by rw [vp_cell_l, arrV_size]⟩
theorem fx_ten {k t : Nat} (h : t = 5 ^ k) (hk : k < 5) : t = 1 ∨ t = 5 ∨ t = 25 ∨ t = 125 ∨ t = 625 := by
  rcases (show k = 0 ∨ k = 1 ∨ k = 2 ∨ k = 3 ∨ k = 4 by omega) with e | e | e | e | e <;> rw [e] at h <;> simp at h <;> simp [h]
def fx_I1 (a b : Int64) : Prop := (a = 1 ∧ b = 9375000) ∨ (a = 9375000 ∧ b = 1) ∨ (a = 1 ∧ b = 0)
theorem fx_I1s (x y : Int64) (h : fx_I1 x y) (hy : ¬ y = 0) : fx_I1 y (x - x / y * y) := by
  rcases h with ⟨rfl, rfl⟩ | ⟨rfl, rfl⟩ | ⟨rfl, rfl⟩
  · exact Or.inr (Or.inl ⟨rfl, by decide⟩)
  · exact Or.inr (Or.inr ⟨rfl, by decide⟩)
  · exact absurd rfl hy
theorem fx_I1e (x : Int64) (h : fx_I1 x 0) : x = 1 := by
  rcases h with ⟨rfl, h⟩ | ⟨rfl, h⟩ | ⟨rfl, h⟩
  · rfl
  · exact absurd h (by decide)
  · rfl
set_option maxHeartbeats 4000000 in
set_option maxRecDepth 100000 in
/-- AbstractCollection() on an ArrayList -/
theorem c_Jxa1e45_init_da8c8 (l : Launch) (dC : Nat → ClassId) (dI : Nat → Nat → Nat) (h0 : Nat) (sz : Nat) : Met l yJxa1e45_init_da8c8 wsJxa1e45_init_da8c8 ({ frames := 1, cells := 0, slots := 0, locals := 40 } : Room) (va_Pc [.ref h0] (fx_st dC dI [(h0, .inr (7, [.int 0, .null, .int 0]))] [] sz)) (va_Qv (fun _ : Unit => True) (fun _ t => fx_en dC dI (va_A [(h0, .inr (7, [.int 0, .null, .int 0]))] sz) [(h0, .inr (7, [.int 0, .null, .int 0]))] [] t) (va_A [(h0, .inr (7, [.int 0, .null, .int 0]))] sz)) 0 0 (va_A [(h0, .inr (7, [.int 0, .null, .int 0]))] sz) := by
  refine Met.ofW (cc := cJxa1e45_init_da8c8) (maxL := 1) (ret := none) (by decide) rfl ?_
  intro p e s m args below meth c s₁ B hml hv
  obtain ⟨rfl, hsz, hP, hK, hD0, hnw⟩ := hv
  have hx := B.exec
  have hb := B.bytes
  have hr := B.returns
  have hts := atoms_spec (ws := wsJxa1e45_init_da8c8) B.pre
  have hown : s.vm.findClass RJxa1e45 = some m.cls := findClass_of_methodNamed B.named
  have hlocks := B.notSynchronized
  have hin : meth.name = "<init>" := (name_of_methodNamed B.named B.method).1
  subst hsz
  have hD := hD0.self (sz := s.heap.size)
  generalize hAe : va_A [(h0, .inr (7, [.int 0, .null, .int 0]))] s.heap.size = A at hD ⊢
  have hA : ∀ q : Nat, s.heap.size ≤ q → A q := fun q h => by rw [← hAe]; exact Or.inr h
  obtain ⟨H, hHe⟩ : ∃ H, H = s.heap := ⟨_, rfl⟩
  have hS : va_S A s.heap H [] := by rw [hHe]; exact va_S.rf
  have hP : va_P (dC, dI) fxCl [(h0, .inr (7, [.int 0, .null, .int 0]))] H := by rw [hHe]; exact hP
  refine fx_h hHe ?_
  have hl := lv_entry ([.ref h0]) (n := 1) (Nat.le_of_ble_eq_true rfl)
  rw [lg_entry_eq]
  generalize (lg_sl ([.ref h0]) ++ List.replicate (1 - (lg_sl ([.ref h0])).length) Slot.unset).toArray = ls at hl ⊢
  have hl : lv_has ls 1 [(0, .ref h0)] := hl
  refine lv_aload_n hx hb dJxa1e45_init_da8c8_0 rfl (lv_at hl 0 rfl) ?_
  refine W.objInit hx hb hown (hts (.methodLink RJxa1e45 1 objectInit) (by decide +kernel)) (hts (.instanceMethod objectInit) (by decide +kernel)) (hts (.code objectInit ⟨#[0xb1]⟩ 1 none) (by decide +kernel)) rfl (by rw [hml]; exact hl.1) rfl dJxa1e45_init_da8c8_1 (Nat.le_of_ble_eq_true rfl) (Nat.le_of_ble_eq_true rfl) ?_
  refine W.eq (g2 := F0 m 4 ls []) rfl ?_
  have hP9 := hP.sub (ws' := [(h0, .inr (7, [.int 0, .null, .int 0]))]) [0] rfl
  have hD9 := hD.sub (ws' := [(h0, .inr (7, [.int 0, .null, .int 0]))]) [0] (by decide) rfl
  have hK9 := hK.sub (tys' := []) [] rfl
  exact W.vret hx hb hr (fun t ht hW => ⟨⟨(), rfl, trivial, by rw [ht]; exact hP9, va_K.moved hW.alike hK9, hD9⟩, hS.F ht⟩) hS.2.2 dJxa1e45_init_da8c8_4
set_option maxHeartbeats 4000000 in
set_option maxRecDepth 100000 in
/-- AbstractList() on an ArrayList -/
theorem c_Jxc12de_init_da8c8 (l : Launch) (dC : Nat → ClassId) (dI : Nat → Nat → Nat) (h0 : Nat) (sz : Nat) : Met l yJxc12de_init_da8c8 wsJxc12de_init_da8c8 ({ frames := 2, cells := 0, slots := 0, locals := 80 } : Room) (va_Pc [.ref h0] (fx_st dC dI [(h0, .inr (7, [.int 0, .null, .int 0]))] [] sz)) (va_Qv (fun _ : Unit => True) (fun _ t => fx_en dC dI (va_A [(h0, .inr (7, [.int 0, .null, .int 0]))] sz) [(h0, .inr (7, [.int 0, .null, .int 0]))] [] t) (va_A [(h0, .inr (7, [.int 0, .null, .int 0]))] sz)) 0 0 (va_A [(h0, .inr (7, [.int 0, .null, .int 0]))] sz) := by
  refine Met.ofW (cc := cJxc12de_init_da8c8) (maxL := 1) (ret := none) (by decide) rfl ?_
  intro p e s m args below meth c s₁ B hml hv
  obtain ⟨rfl, hsz, hP, hK, hD0, hnw⟩ := hv
  have hx := B.exec
  have hb := B.bytes
  have hr := B.returns
  have hts := atoms_spec (ws := wsJxc12de_init_da8c8) B.pre
  have hown : s.vm.findClass RJxc12de = some m.cls := findClass_of_methodNamed B.named
  have hlocks := B.notSynchronized
  have hin : meth.name = "<init>" := (name_of_methodNamed B.named B.method).1
  subst hsz
  have hD := hD0.self (sz := s.heap.size)
  generalize hAe : va_A [(h0, .inr (7, [.int 0, .null, .int 0]))] s.heap.size = A at hD ⊢
  have hA : ∀ q : Nat, s.heap.size ≤ q → A q := fun q h => by rw [← hAe]; exact Or.inr h
  obtain ⟨H, hHe⟩ : ∃ H, H = s.heap := ⟨_, rfl⟩
  have hS : va_S A s.heap H [] := by rw [hHe]; exact va_S.rf
  have hP : va_P (dC, dI) fxCl [(h0, .inr (7, [.int 0, .null, .int 0]))] H := by rw [hHe]; exact hP
  refine fx_h hHe ?_
  have hl := lv_entry ([.ref h0]) (n := 1) (Nat.le_of_ble_eq_true rfl)
  rw [lg_entry_eq]
  generalize (lg_sl ([.ref h0]) ++ List.replicate (1 - (lg_sl ([.ref h0])).length) Slot.unset).toArray = ls at hl ⊢
  have hl : lv_has ls 1 [(0, .ref h0)] := hl
  refine lv_aload_n hx hb dJxc12de_init_da8c8_0 rfl (lv_at hl 0 rfl) ?_
  have hPc := hP.sub (ws' := [(h0, .inr (7, [.int 0, .null, .int 0]))]) [0] rfl
  have hDc := hD.sub (ws' := [(h0, .inr (7, [.int 0, .null, .int 0]))]) [0] (by decide) rfl
  have hKc := hK.sub (tys' := []) [] rfl
  have hFc := va_free (wc := [(h0, .inr (7, [.int 0, .null, .int 0]))]) hD hS hA [0] rfl
  refine va_callv (va_runI (As := []) (rest := []) ⟨hx, hb, hml, hown, hts⟩ (c_Jxa1e45_init_da8c8 l dC dI h0 H.size) (cwI 0 hts gJxc12de_init_da8c8_Jxa1e45_init_da8c8 rfl rfl rfl (hts (.initialized RJxa1e45) (by decide +kernel)) (hts (.methodLink RJxc12de 1 yJxa1e45_init_da8c8) (by decide +kernel)) (hts (.instanceMethod yJxa1e45_init_da8c8) (by decide +kernel)) rfl (by decide +kernel) ⟨Nat.le_of_ble_eq_true rfl, Nat.le_of_ble_eq_true rfl⟩) (fx_preS hPc hKc hDc hnw) rfl rfl hl.1 rfl (lv_room (Nat.le_of_ble_eq_true rfl)) dJxc12de_init_da8c8_1 ⟨(Nat.le_of_ble_eq_true rfl), (Nat.le_of_ble_eq_true rfl)⟩) hS (fun q _ h => hFc q h) hFc (fun u t H1 locs ht hvm hw hB hz1 hk1 hS => ?_)
  obtain ⟨hP1, hK1, hD1⟩ := hB
  rw [ht] at hP1
  have hK1 := va_K.moved hvm.symm hK1
  obtain ⟨hP, hD⟩ := va_join (wr := []) (w1 := [(h0, .inr (7, [.int 0, .null, .int 0]))]) hP hD [0] [] rfl rfl (by decide) (by decide) hk1 hFc hP1 hD1
  have hK := (hK.sub (tys' := []) [] rfl).app hK1
  generalize H1 = H at hP hS ⊢
  have hP : va_P (dC, dI) fxCl [(h0, .inr (7, [.int 0, .null, .int 0]))] H := hP
  have hD : va_D A [(h0, .inr (7, [.int 0, .null, .int 0]))] := hD
  have hK : va_K (dC, dI) fxCl [] s := hK
  refine lv_aload_n hx hb dJxc12de_init_da8c8_4 rfl (lv_at hl 0 rfl) ?_
  refine lv_iconst (v := 0) hx hb dJxc12de_init_da8c8_5 (by decide) ?_
  refine va_put (D := (dC, dI)) (ci := 7) (v := .int 0) (ty := .int) (C := RJx4a65c) (T := TJx4a65c) (N := 3) hx hb hts (by decide +kernel) tyJx4a65c tyJx4a65c_ok nmJx4a65c hown hK hP hD hS 0 rfl rfl 0 (by decide) (hts (.fieldLink RJxc12de 7 "java/util/AbstractList" "modCount" "I") (by decide +kernel)) (fun _ h9 => h9) rfl (by decide +kernel) rfl rfl (Nat.le_of_ble_eq_true rfl) dJxc12de_init_da8c8_6 (fun H locs hP hD hS => ?_)
  have hP : va_P (dC, dI) fxCl [(h0, .inr (7, [.int 0, .null, .int 0]))] H := hP
  have hD : va_D A [(h0, .inr (7, [.int 0, .null, .int 0]))] := hD
  have hP9 := hP.sub (ws' := [(h0, .inr (7, [.int 0, .null, .int 0]))]) [0] rfl
  have hD9 := hD.sub (ws' := [(h0, .inr (7, [.int 0, .null, .int 0]))]) [0] (by decide) rfl
  have hK9 := hK.sub (tys' := []) [] rfl
  exact W.vret hx hb hr (fun t ht hW => ⟨⟨(), rfl, trivial, by rw [ht]; exact hP9, va_K.moved hW.alike hK9, hD9⟩, hS.F ht⟩) hS.2.2 dJxc12de_init_da8c8_9
set_option maxHeartbeats 4000000 in
set_option maxRecDepth 100000 in
/-- ArrayList() -/
theorem c_Jx4a65c_init_da8c8_n (l : Launch) (dC : Nat → ClassId) (dI : Nat → Nat → Nat) (h0 : Nat) (sz : Nat) : Met l yJx4a65c_init_da8c8 wsJx4a65c_init_da8c8 ({ frames := 3, cells := 0, slots := 0, locals := 120 } : Room) (va_Pc [.ref h0] (fx_stZ (.null) dC dI [(h0, .inr (7, [.int 0, .null, .int 0]))] [] sz)) (va_Qv (fun _ : Unit => True) (fun _ t => fx_en dC dI (va_A [(h0, .inr (7, [.int 0, .null, .int 0]))] sz) [(h0, .inr (7, [.int 0, .null, .int 0]))] [] t) (va_A [(h0, .inr (7, [.int 0, .null, .int 0]))] sz)) 0 0 (va_A [(h0, .inr (7, [.int 0, .null, .int 0]))] sz) := by
  refine Met.ofW (cc := cJx4a65c_init_da8c8) (maxL := 1) (ret := none) (by decide) rfl ?_
  intro p e s m args below meth c s₁ B hml hv
  obtain ⟨rfl, ⟨hsz, hP, hK, hD0, hnw⟩, hZ⟩ := hv
  have hx := B.exec
  have hb := B.bytes
  have hr := B.returns
  have hts := atoms_spec (ws := wsJx4a65c_init_da8c8) B.pre
  have hown : s.vm.findClass RJx4a65c = some m.cls := findClass_of_methodNamed B.named
  have hlocks := B.notSynchronized
  have hin : meth.name = "<init>" := (name_of_methodNamed B.named B.method).1
  subst hsz
  have hD := hD0.self (sz := s.heap.size)
  generalize hAe : va_A [(h0, .inr (7, [.int 0, .null, .int 0]))] s.heap.size = A at hD hZ ⊢
  have hA : ∀ q : Nat, s.heap.size ≤ q → A q := fun q h => by rw [← hAe]; exact Or.inr h
  obtain ⟨H, hHe⟩ : ∃ H, H = s.heap := ⟨_, rfl⟩
  have hS : va_S A s.heap H [] := by rw [hHe]; exact va_S.rf
  have hP : va_P (dC, dI) fxCl [(h0, .inr (7, [.int 0, .null, .int 0]))] H := by rw [hHe]; exact hP
  refine fx_h hHe ?_
  have hl := lv_entry ([.ref h0]) (n := 1) (Nat.le_of_ble_eq_true rfl)
  rw [lg_entry_eq]
  generalize (lg_sl ([.ref h0]) ++ List.replicate (1 - (lg_sl ([.ref h0])).length) Slot.unset).toArray = ls at hl ⊢
  have hl : lv_has ls 1 [(0, .ref h0)] := hl
  refine lv_aload_n hx hb dJx4a65c_init_da8c8_0 rfl (lv_at hl 0 rfl) ?_
  have hPc := hP.sub (ws' := [(h0, .inr (7, [.int 0, .null, .int 0]))]) [0] rfl
  have hDc := hD.sub (ws' := [(h0, .inr (7, [.int 0, .null, .int 0]))]) [0] (by decide) rfl
  have hKc := hK.sub (tys' := []) [] rfl
  have hFc := va_free (wc := [(h0, .inr (7, [.int 0, .null, .int 0]))]) hD hS hA [0] rfl
  refine va_callv (va_runI (As := []) (rest := []) ⟨hx, hb, hml, hown, hts⟩ (c_Jxc12de_init_da8c8 l dC dI h0 H.size) (cwI 0 hts gJx4a65c_init_da8c8_Jxc12de_init_da8c8 rfl rfl rfl (hts (.initialized RJxc12de) (by decide +kernel)) (hts (.methodLink RJx4a65c 1 yJxc12de_init_da8c8) (by decide +kernel)) (hts (.instanceMethod yJxc12de_init_da8c8) (by decide +kernel)) rfl (by decide +kernel) ⟨Nat.le_of_ble_eq_true rfl, Nat.le_of_ble_eq_true rfl⟩) (fx_preS hPc hKc hDc hnw) rfl rfl hl.1 rfl (lv_room (Nat.le_of_ble_eq_true rfl)) dJx4a65c_init_da8c8_1 ⟨(Nat.le_of_ble_eq_true rfl), (Nat.le_of_ble_eq_true rfl)⟩) hS (fun q _ h => hFc q h) hFc (fun u t H1 locs ht hvm hw hB hz1 hk1 hS => ?_)
  obtain ⟨hP1, hK1, hD1⟩ := hB
  rw [ht] at hP1
  have hK1 := va_K.moved hvm.symm hK1
  obtain ⟨hP, hD⟩ := va_join (wr := []) (w1 := [(h0, .inr (7, [.int 0, .null, .int 0]))]) hP hD [0] [] rfl rfl (by decide) (by decide) hk1 hFc hP1 hD1
  have hK := (hK.sub (tys' := []) [] rfl).app hK1
  generalize H1 = H at hP hS ⊢
  have hP : va_P (dC, dI) fxCl [(h0, .inr (7, [.int 0, .null, .int 0]))] H := hP
  have hD : va_D A [(h0, .inr (7, [.int 0, .null, .int 0]))] := hD
  have hK : va_K (dC, dI) fxCl [] s := hK
  refine lv_aload_n hx hb dJx4a65c_init_da8c8_4 rfl (lv_at hl 0 rfl) ?_
  refine va_gets hx hb hZ hS hown (hts (.fieldLink RJx4a65c 39 "java/util/ArrayList" "DEFAULTCAPACITY_EMPTY_ELEMENTDATA" "[Ljava/lang/Object;") (by decide +kernel)) (fun _ h9 => h9) dJx4a65c_init_da8c8_5 ?_
  refine va_put (D := (dC, dI)) (ci := 7) (v := .null) (ty := .array (.object "java/lang/Object")) (C := RJx4a65c) (T := TJx4a65c) (N := 3) hx hb hts (by decide +kernel) tyJx4a65c tyJx4a65c_ok nmJx4a65c hown hK hP hD hS 0 rfl rfl 1 (by decide) (hts (.fieldLink RJx4a65c 9 "java/util/ArrayList" "elementData" "[Ljava/lang/Object;") (by decide +kernel)) (fun _ h9 => h9) rfl (by decide +kernel) rfl rfl (Nat.le_of_ble_eq_true rfl) dJx4a65c_init_da8c8_8 (fun H locs hP hD hS => ?_)
  have hP : va_P (dC, dI) fxCl [(h0, .inr (7, [.int 0, .null, .int 0]))] H := hP
  have hD : va_D A [(h0, .inr (7, [.int 0, .null, .int 0]))] := hD
  have hP9 := hP.sub (ws' := [(h0, .inr (7, [.int 0, .null, .int 0]))]) [0] rfl
  have hD9 := hD.sub (ws' := [(h0, .inr (7, [.int 0, .null, .int 0]))]) [0] (by decide) rfl
  have hK9 := hK.sub (tys' := []) [] rfl
  exact W.vret hx hb hr (fun t ht hW => ⟨⟨(), rfl, trivial, by rw [ht]; exact hP9, va_K.moved hW.alike hK9, hD9⟩, hS.F ht⟩) hS.2.2 dJx4a65c_init_da8c8_11
set_option maxHeartbeats 4000000 in
set_option maxRecDepth 100000 in
/-- ArrayList() -/
theorem c_Jx4a65c_init_da8c8_r (l : Launch) (dC : Nat → ClassId) (dI : Nat → Nat → Nat) (h0 tz : Nat) (sz : Nat) : Met l yJx4a65c_init_da8c8 wsJx4a65c_init_da8c8 ({ frames := 3, cells := 0, slots := 0, locals := 120 } : Room) (va_Pc [.ref h0] (fx_stZ (.ref tz) dC dI [(h0, .inr (7, [.int 0, .null, .int 0]))] [] sz)) (va_Qv (fun _ : Unit => True) (fun _ t => fx_en dC dI (va_A [(h0, .inr (7, [.int 0, .null, .int 0]))] sz) [(h0, .inr (7, [.int 0, .ref tz, .int 0]))] [] t) (va_A [(h0, .inr (7, [.int 0, .null, .int 0]))] sz)) 0 0 (va_A [(h0, .inr (7, [.int 0, .null, .int 0]))] sz) := by
  refine Met.ofW (cc := cJx4a65c_init_da8c8) (maxL := 1) (ret := none) (by decide) rfl ?_
  intro p e s m args below meth c s₁ B hml hv
  obtain ⟨rfl, ⟨hsz, hP, hK, hD0, hnw⟩, hZ⟩ := hv
  have hx := B.exec
  have hb := B.bytes
  have hr := B.returns
  have hts := atoms_spec (ws := wsJx4a65c_init_da8c8) B.pre
  have hown : s.vm.findClass RJx4a65c = some m.cls := findClass_of_methodNamed B.named
  have hlocks := B.notSynchronized
  have hin : meth.name = "<init>" := (name_of_methodNamed B.named B.method).1
  subst hsz
  have hD := hD0.self (sz := s.heap.size)
  generalize hAe : va_A [(h0, .inr (7, [.int 0, .null, .int 0]))] s.heap.size = A at hD hZ ⊢
  have hA : ∀ q : Nat, s.heap.size ≤ q → A q := fun q h => by rw [← hAe]; exact Or.inr h
  obtain ⟨H, hHe⟩ : ∃ H, H = s.heap := ⟨_, rfl⟩
  have hS : va_S A s.heap H [] := by rw [hHe]; exact va_S.rf
  have hP : va_P (dC, dI) fxCl [(h0, .inr (7, [.int 0, .null, .int 0]))] H := by rw [hHe]; exact hP
  refine fx_h hHe ?_
  have hl := lv_entry ([.ref h0]) (n := 1) (Nat.le_of_ble_eq_true rfl)
  rw [lg_entry_eq]
  generalize (lg_sl ([.ref h0]) ++ List.replicate (1 - (lg_sl ([.ref h0])).length) Slot.unset).toArray = ls at hl ⊢
  have hl : lv_has ls 1 [(0, .ref h0)] := hl
  refine lv_aload_n hx hb dJx4a65c_init_da8c8_0 rfl (lv_at hl 0 rfl) ?_
  have hPc := hP.sub (ws' := [(h0, .inr (7, [.int 0, .null, .int 0]))]) [0] rfl
  have hDc := hD.sub (ws' := [(h0, .inr (7, [.int 0, .null, .int 0]))]) [0] (by decide) rfl
  have hKc := hK.sub (tys' := []) [] rfl
  have hFc := va_free (wc := [(h0, .inr (7, [.int 0, .null, .int 0]))]) hD hS hA [0] rfl
  refine va_callv (va_runI (As := []) (rest := []) ⟨hx, hb, hml, hown, hts⟩ (c_Jxc12de_init_da8c8 l dC dI h0 H.size) (cwI 0 hts gJx4a65c_init_da8c8_Jxc12de_init_da8c8 rfl rfl rfl (hts (.initialized RJxc12de) (by decide +kernel)) (hts (.methodLink RJx4a65c 1 yJxc12de_init_da8c8) (by decide +kernel)) (hts (.instanceMethod yJxc12de_init_da8c8) (by decide +kernel)) rfl (by decide +kernel) ⟨Nat.le_of_ble_eq_true rfl, Nat.le_of_ble_eq_true rfl⟩) (fx_preS hPc hKc hDc hnw) rfl rfl hl.1 rfl (lv_room (Nat.le_of_ble_eq_true rfl)) dJx4a65c_init_da8c8_1 ⟨(Nat.le_of_ble_eq_true rfl), (Nat.le_of_ble_eq_true rfl)⟩) hS (fun q _ h => hFc q h) hFc (fun u t H1 locs ht hvm hw hB hz1 hk1 hS => ?_)
  obtain ⟨hP1, hK1, hD1⟩ := hB
  rw [ht] at hP1
  have hK1 := va_K.moved hvm.symm hK1
  obtain ⟨hP, hD⟩ := va_join (wr := []) (w1 := [(h0, .inr (7, [.int 0, .null, .int 0]))]) hP hD [0] [] rfl rfl (by decide) (by decide) hk1 hFc hP1 hD1
  have hK := (hK.sub (tys' := []) [] rfl).app hK1
  generalize H1 = H at hP hS ⊢
  have hP : va_P (dC, dI) fxCl [(h0, .inr (7, [.int 0, .null, .int 0]))] H := hP
  have hD : va_D A [(h0, .inr (7, [.int 0, .null, .int 0]))] := hD
  have hK : va_K (dC, dI) fxCl [] s := hK
  refine lv_aload_n hx hb dJx4a65c_init_da8c8_4 rfl (lv_at hl 0 rfl) ?_
  refine va_gets hx hb hZ hS hown (hts (.fieldLink RJx4a65c 39 "java/util/ArrayList" "DEFAULTCAPACITY_EMPTY_ELEMENTDATA" "[Ljava/lang/Object;") (by decide +kernel)) (fun _ h9 => h9) dJx4a65c_init_da8c8_5 ?_
  refine va_put (D := (dC, dI)) (ci := 7) (v := .ref tz) (ty := .array (.object "java/lang/Object")) (C := RJx4a65c) (T := TJx4a65c) (N := 3) hx hb hts (by decide +kernel) tyJx4a65c tyJx4a65c_ok nmJx4a65c hown hK hP hD hS 0 rfl rfl 1 (by decide) (hts (.fieldLink RJx4a65c 9 "java/util/ArrayList" "elementData" "[Ljava/lang/Object;") (by decide +kernel)) (fun _ h9 => h9) rfl (by decide +kernel) rfl rfl (Nat.le_of_ble_eq_true rfl) dJx4a65c_init_da8c8_8 (fun H locs hP hD hS => ?_)
  have hP : va_P (dC, dI) fxCl [(h0, .inr (7, [.int 0, .ref tz, .int 0]))] H := hP
  have hD : va_D A [(h0, .inr (7, [.int 0, .ref tz, .int 0]))] := hD
  have hP9 := hP.sub (ws' := [(h0, .inr (7, [.int 0, .ref tz, .int 0]))]) [0] rfl
  have hD9 := hD.sub (ws' := [(h0, .inr (7, [.int 0, .ref tz, .int 0]))]) [0] (by decide) rfl
  have hK9 := hK.sub (tys' := []) [] rfl
  exact W.vret hx hb hr (fun t ht hW => ⟨⟨(), rfl, trivial, by rw [ht]; exact hP9, va_K.moved hW.alike hK9, hD9⟩, hS.F ht⟩) hS.2.2 dJx4a65c_init_da8c8_11
set_option maxHeartbeats 4000000 in
set_option maxRecDepth 100000 in
/-- UrnwrightModel() -/
theorem c_X10_init_n (l : Launch) (dC : Nat → ClassId) (dI : Nat → Nat → Nat) (h0 : Nat) (sz : Nat) : Met l yX10_init wsX10_init ({ frames := 4, cells := 2, slots := 6, locals := 160 } : Room) (va_Pc [.ref h0] (fx_stZ (.null) dC dI [(h0, .inr (6, [.int 0, .int 0, .null, .null]))] [] sz)) (va_Qv (fun _ : Unit => True) (fun _ t => ∃ (u1 u2 : Nat), fx_en dC dI (va_A [(h0, .inr (6, [.int 0, .int 0, .null, .null]))] sz) [(h0, .inr (6, [.int 0, .int 0, .ref u1, .ref u2]))] [] t) (va_A [(h0, .inr (6, [.int 0, .int 0, .null, .null]))] sz)) 2 6 (va_A [(h0, .inr (6, [.int 0, .int 0, .null, .null]))] sz) := by
  refine Met.ofW (cc := cX10_init) (maxL := 1) (ret := none) (by decide) rfl ?_
  intro p e s m args below meth c s₁ B hml hv
  obtain ⟨rfl, ⟨hsz, hP, hK, hD0, hnw⟩, hZ⟩ := hv
  have hx := B.exec
  have hb := B.bytes
  have hr := B.returns
  have hts := atoms_spec (ws := wsX10_init) B.pre
  have hown : s.vm.findClass RX10 = some m.cls := findClass_of_methodNamed B.named
  have hlocks := B.notSynchronized
  have hin : meth.name = "<init>" := (name_of_methodNamed B.named B.method).1
  subst hsz
  have hD := hD0.self (sz := s.heap.size)
  generalize hAe : va_A [(h0, .inr (6, [.int 0, .int 0, .null, .null]))] s.heap.size = A at hD hZ ⊢
  have hA : ∀ q : Nat, s.heap.size ≤ q → A q := fun q h => by rw [← hAe]; exact Or.inr h
  obtain ⟨H, hHe⟩ : ∃ H, H = s.heap := ⟨_, rfl⟩
  have hS : va_S A s.heap H [] := by rw [hHe]; exact va_S.rf
  have hP : va_P (dC, dI) fxCl [(h0, .inr (6, [.int 0, .int 0, .null, .null]))] H := by rw [hHe]; exact hP
  refine fx_h hHe ?_
  have hl := lv_entry ([.ref h0]) (n := 1) (Nat.le_of_ble_eq_true rfl)
  rw [lg_entry_eq]
  generalize (lg_sl ([.ref h0]) ++ List.replicate (1 - (lg_sl ([.ref h0])).length) Slot.unset).toArray = ls at hl ⊢
  have hl : lv_has ls 1 [(0, .ref h0)] := hl
  refine lv_aload_n hx hb dX10_init_0 rfl (lv_at hl 0 rfl) ?_
  refine W.objInit hx hb hown (hts (.methodLink RX10 1 objectInit) (by decide +kernel)) (hts (.instanceMethod objectInit) (by decide +kernel)) (hts (.code objectInit ⟨#[0xb1]⟩ 1 none) (by decide +kernel)) rfl (by rw [hml]; exact hl.1) rfl dX10_init_1 (Nat.le_of_ble_eq_true rfl) (Nat.le_of_ble_eq_true rfl) ?_
  refine W.eq (g2 := F0 m 4 ls []) rfl ?_
  refine lv_aload_n hx hb dX10_init_4 rfl (lv_at hl 0 rfl) ?_
  refine va_new (ci := 7) (fs := [.int 0, .null, .int 0]) (C := RJx4a65c) (T := TJx4a65c) (N := 3) hx hb hts (by decide +kernel) tyJx4a65c tyJx4a65c_ok hown (hts (.classLink RX10 7 RJx4a65c) (by decide +kernel)) (hts (.instantiable RJx4a65c 3) (by decide +kernel)) (hts (.initialized RJx4a65c) (by decide +kernel)) hK hP hD hS hA rfl (fun j hj => by rcases (show j = 0 ∨ j = 1 ∨ j = 2 by omega) with rfl | rfl | rfl <;> rfl) (Nat.le_of_ble_eq_true rfl) (Nat.le_of_ble_eq_true rfl) dX10_init_5 (fun q_1 H hP hD hS => ?_)
  refine W.widen (k := 1) (n := 3) (Nat.le_of_ble_eq_true rfl) (Nat.le_of_ble_eq_true rfl) ?_
  have hP : va_P (dC, dI) fxCl [(h0, .inr (6, [.int 0, .int 0, .null, .null])), (q_1, .inr (7, [.int 0, .null, .int 0]))] H := hP
  have hD : va_D A [(h0, .inr (6, [.int 0, .int 0, .null, .null])), (q_1, .inr (7, [.int 0, .null, .int 0]))] := hD
  refine lv_dup hx hb dX10_init_8 rfl ?_
  have hPc := hP.sub (ws' := [(q_1, .inr (7, [.int 0, .null, .int 0]))]) [1] rfl
  have hDc := hD.sub (ws' := [(q_1, .inr (7, [.int 0, .null, .int 0]))]) [1] (by decide) rfl
  have hKc := hK.sub (tys' := []) [] rfl
  have hFc := va_free (wc := [(q_1, .inr (7, [.int 0, .null, .int 0]))]) hD hS hA [1] rfl
  refine va_callv (va_runI (As := []) (rest := [.ref q_1, .ref h0]) ⟨hx, hb, hml, hown, hts⟩ (c_Jx4a65c_init_da8c8_n l dC dI q_1 H.size) (cwI 0 hts gX10_init_Jx4a65c_init_da8c8 rfl rfl rfl (hts (.initialized RJx4a65c) (by decide +kernel)) (hts (.methodLink RX10 9 yJx4a65c_init_da8c8) (by decide +kernel)) (hts (.instanceMethod yJx4a65c_init_da8c8) (by decide +kernel)) rfl (by decide +kernel) ⟨Nat.le_of_ble_eq_true rfl, Nat.le_of_ble_eq_true rfl⟩) (fx_preZ hPc hKc hDc hnw hZ hS hFc) rfl rfl hl.1 rfl (lv_room (Nat.le_of_ble_eq_true rfl)) dX10_init_9 ⟨(Nat.le_of_ble_eq_true rfl), (Nat.le_of_ble_eq_true rfl)⟩) hS (fun q _ h => hFc q h) hFc (fun u t H1 locs ht hvm hw hB hz1 hk1 hS => ?_)
  obtain ⟨hP1, hK1, hD1⟩ := hB
  rw [ht] at hP1
  have hK1 := va_K.moved hvm.symm hK1
  obtain ⟨hP, hD⟩ := va_join (wr := [(h0, .inr (6, [.int 0, .int 0, .null, .null]))]) (w1 := [(q_1, .inr (7, [.int 0, .null, .int 0]))]) hP hD [1] [0] rfl rfl (by decide) (by decide) hk1 hFc hP1 hD1
  have hK := (hK.sub (tys' := []) [] rfl).app hK1
  generalize H1 = H at hP hS ⊢
  have hP : va_P (dC, dI) fxCl [(h0, .inr (6, [.int 0, .int 0, .null, .null])), (q_1, .inr (7, [.int 0, .null, .int 0]))] H := hP
  have hD : va_D A [(h0, .inr (6, [.int 0, .int 0, .null, .null])), (q_1, .inr (7, [.int 0, .null, .int 0]))] := hD
  have hK : va_K (dC, dI) fxCl [] s := hK
  refine va_putF (D := (dC, dI)) (ci := 6) (v := .ref q_1) (ty := .object "java/util/List") (C := RX10) (T := TX10) (N := 4) hx hb hts (by decide +kernel) tyX10 tyX10_ok nmX10 hown hK hP hD hS 0 rfl rfl 2 (by decide) (hts (.fieldLink RX10 10 "UrnwrightModel" "urns" "Ljava/util/List;") (by decide +kernel)) (fun _ h9 => h9) rfl hin rfl (by decide +kernel) rfl rfl (Nat.le_of_ble_eq_true rfl) dX10_init_12 (fun H locs hP hD hS => ?_)
  have hP : va_P (dC, dI) fxCl [(h0, .inr (6, [.int 0, .int 0, .ref q_1, .null])), (q_1, .inr (7, [.int 0, .null, .int 0]))] H := hP
  have hD : va_D A [(h0, .inr (6, [.int 0, .int 0, .ref q_1, .null])), (q_1, .inr (7, [.int 0, .null, .int 0]))] := hD
  refine lv_aload_n hx hb dX10_init_15 rfl (lv_at hl 0 rfl) ?_
  refine va_new (ci := 7) (fs := [.int 0, .null, .int 0]) (C := RJx4a65c) (T := TJx4a65c) (N := 3) hx hb hts (by decide +kernel) tyJx4a65c tyJx4a65c_ok hown (hts (.classLink RX10 7 RJx4a65c) (by decide +kernel)) (hts (.instantiable RJx4a65c 3) (by decide +kernel)) (hts (.initialized RJx4a65c) (by decide +kernel)) hK hP hD hS hA rfl (fun j hj => by rcases (show j = 0 ∨ j = 1 ∨ j = 2 by omega) with rfl | rfl | rfl <;> rfl) (Nat.le_of_ble_eq_true rfl) (Nat.le_of_ble_eq_true rfl) dX10_init_16 (fun q_2 H hP hD hS => ?_)
  refine W.widen (k := 2) (n := 6) (Nat.le_of_ble_eq_true rfl) (Nat.le_of_ble_eq_true rfl) ?_
  have hP : va_P (dC, dI) fxCl [(h0, .inr (6, [.int 0, .int 0, .ref q_1, .null])), (q_1, .inr (7, [.int 0, .null, .int 0])), (q_2, .inr (7, [.int 0, .null, .int 0]))] H := hP
  have hD : va_D A [(h0, .inr (6, [.int 0, .int 0, .ref q_1, .null])), (q_1, .inr (7, [.int 0, .null, .int 0])), (q_2, .inr (7, [.int 0, .null, .int 0]))] := hD
  refine lv_dup hx hb dX10_init_19 rfl ?_
  have hPc := hP.sub (ws' := [(q_2, .inr (7, [.int 0, .null, .int 0]))]) [2] rfl
  have hDc := hD.sub (ws' := [(q_2, .inr (7, [.int 0, .null, .int 0]))]) [2] (by decide) rfl
  have hKc := hK.sub (tys' := []) [] rfl
  have hFc := va_free (wc := [(q_2, .inr (7, [.int 0, .null, .int 0]))]) hD hS hA [2] rfl
  refine va_callv (va_runI (As := []) (rest := [.ref q_2, .ref h0]) ⟨hx, hb, hml, hown, hts⟩ (c_Jx4a65c_init_da8c8_n l dC dI q_2 H.size) (cwI 0 hts gX10_init_Jx4a65c_init_da8c8 rfl rfl rfl (hts (.initialized RJx4a65c) (by decide +kernel)) (hts (.methodLink RX10 9 yJx4a65c_init_da8c8) (by decide +kernel)) (hts (.instanceMethod yJx4a65c_init_da8c8) (by decide +kernel)) rfl (by decide +kernel) ⟨Nat.le_of_ble_eq_true rfl, Nat.le_of_ble_eq_true rfl⟩) (fx_preZ hPc hKc hDc hnw hZ hS hFc) rfl rfl hl.1 rfl (lv_room (Nat.le_of_ble_eq_true rfl)) dX10_init_20 ⟨(Nat.le_of_ble_eq_true rfl), (Nat.le_of_ble_eq_true rfl)⟩) hS (fun q _ h => hFc q h) hFc (fun u t H1 locs ht hvm hw hB hz1 hk1 hS => ?_)
  obtain ⟨hP1, hK1, hD1⟩ := hB
  rw [ht] at hP1
  have hK1 := va_K.moved hvm.symm hK1
  obtain ⟨hP, hD⟩ := va_join (wr := [(h0, .inr (6, [.int 0, .int 0, .ref q_1, .null])), (q_1, .inr (7, [.int 0, .null, .int 0]))]) (w1 := [(q_2, .inr (7, [.int 0, .null, .int 0]))]) hP hD [2] [0, 1] rfl rfl (by decide) (by decide) hk1 hFc hP1 hD1
  have hK := (hK.sub (tys' := []) [] rfl).app hK1
  generalize H1 = H at hP hS ⊢
  have hP : va_P (dC, dI) fxCl [(h0, .inr (6, [.int 0, .int 0, .ref q_1, .null])), (q_1, .inr (7, [.int 0, .null, .int 0])), (q_2, .inr (7, [.int 0, .null, .int 0]))] H := hP
  have hD : va_D A [(h0, .inr (6, [.int 0, .int 0, .ref q_1, .null])), (q_1, .inr (7, [.int 0, .null, .int 0])), (q_2, .inr (7, [.int 0, .null, .int 0]))] := hD
  have hK : va_K (dC, dI) fxCl [] s := hK
  refine va_putF (D := (dC, dI)) (ci := 6) (v := .ref q_2) (ty := .object "java/util/List") (C := RX10) (T := TX10) (N := 4) hx hb hts (by decide +kernel) tyX10 tyX10_ok nmX10 hown hK hP hD hS 0 rfl rfl 3 (by decide) (hts (.fieldLink RX10 16 "UrnwrightModel" "rows" "Ljava/util/List;") (by decide +kernel)) (fun _ h9 => h9) rfl hin rfl (by decide +kernel) rfl rfl (Nat.le_of_ble_eq_true rfl) dX10_init_23 (fun H locs hP hD hS => ?_)
  have hP : va_P (dC, dI) fxCl [(h0, .inr (6, [.int 0, .int 0, .ref q_1, .ref q_2])), (q_1, .inr (7, [.int 0, .null, .int 0])), (q_2, .inr (7, [.int 0, .null, .int 0]))] H := hP
  have hD : va_D A [(h0, .inr (6, [.int 0, .int 0, .ref q_1, .ref q_2])), (q_1, .inr (7, [.int 0, .null, .int 0])), (q_2, .inr (7, [.int 0, .null, .int 0]))] := hD
  have hP9 := hP.sub (ws' := [(h0, .inr (6, [.int 0, .int 0, .ref q_1, .ref q_2]))]) [0] rfl
  have hD9 := hD.sub (ws' := [(h0, .inr (6, [.int 0, .int 0, .ref q_1, .ref q_2]))]) [0] (by decide) rfl
  have hK9 := hK.sub (tys' := []) [] rfl
  refine W.widen (k := 2) (n := 6) (Nat.le_of_ble_eq_true rfl) (Nat.le_of_ble_eq_true rfl) ?_
  exact W.vret hx hb hr (fun t ht hW => ⟨⟨(), rfl, trivial, q_1, q_2, by rw [ht]; exact hP9, va_K.moved hW.alike hK9, hD9⟩, hS.F ht⟩) hS.2.2 dX10_init_26
set_option maxHeartbeats 4000000 in
set_option maxRecDepth 100000 in
/-- UrnwrightModel() -/
theorem c_X10_init_r (l : Launch) (dC : Nat → ClassId) (dI : Nat → Nat → Nat) (h0 tz : Nat) (sz : Nat) : Met l yX10_init wsX10_init ({ frames := 4, cells := 2, slots := 6, locals := 160 } : Room) (va_Pc [.ref h0] (fx_stZ (.ref tz) dC dI [(h0, .inr (6, [.int 0, .int 0, .null, .null]))] [] sz)) (va_Qv (fun _ : Unit => True) (fun _ t => ∃ (u1 u2 : Nat), fx_en dC dI (va_A [(h0, .inr (6, [.int 0, .int 0, .null, .null]))] sz) [(h0, .inr (6, [.int 0, .int 0, .ref u1, .ref u2]))] [] t) (va_A [(h0, .inr (6, [.int 0, .int 0, .null, .null]))] sz)) 2 6 (va_A [(h0, .inr (6, [.int 0, .int 0, .null, .null]))] sz) := by
  refine Met.ofW (cc := cX10_init) (maxL := 1) (ret := none) (by decide) rfl ?_
  intro p e s m args below meth c s₁ B hml hv
  obtain ⟨rfl, ⟨hsz, hP, hK, hD0, hnw⟩, hZ⟩ := hv
  have hx := B.exec
  have hb := B.bytes
  have hr := B.returns
  have hts := atoms_spec (ws := wsX10_init) B.pre
  have hown : s.vm.findClass RX10 = some m.cls := findClass_of_methodNamed B.named
  have hlocks := B.notSynchronized
  have hin : meth.name = "<init>" := (name_of_methodNamed B.named B.method).1
  subst hsz
  have hD := hD0.self (sz := s.heap.size)
  generalize hAe : va_A [(h0, .inr (6, [.int 0, .int 0, .null, .null]))] s.heap.size = A at hD hZ ⊢
  have hA : ∀ q : Nat, s.heap.size ≤ q → A q := fun q h => by rw [← hAe]; exact Or.inr h
  obtain ⟨H, hHe⟩ : ∃ H, H = s.heap := ⟨_, rfl⟩
  have hS : va_S A s.heap H [] := by rw [hHe]; exact va_S.rf
  have hP : va_P (dC, dI) fxCl [(h0, .inr (6, [.int 0, .int 0, .null, .null]))] H := by rw [hHe]; exact hP
  refine fx_h hHe ?_
  have hl := lv_entry ([.ref h0]) (n := 1) (Nat.le_of_ble_eq_true rfl)
  rw [lg_entry_eq]
  generalize (lg_sl ([.ref h0]) ++ List.replicate (1 - (lg_sl ([.ref h0])).length) Slot.unset).toArray = ls at hl ⊢
  have hl : lv_has ls 1 [(0, .ref h0)] := hl
  refine lv_aload_n hx hb dX10_init_0 rfl (lv_at hl 0 rfl) ?_
  refine W.objInit hx hb hown (hts (.methodLink RX10 1 objectInit) (by decide +kernel)) (hts (.instanceMethod objectInit) (by decide +kernel)) (hts (.code objectInit ⟨#[0xb1]⟩ 1 none) (by decide +kernel)) rfl (by rw [hml]; exact hl.1) rfl dX10_init_1 (Nat.le_of_ble_eq_true rfl) (Nat.le_of_ble_eq_true rfl) ?_
  refine W.eq (g2 := F0 m 4 ls []) rfl ?_
  refine lv_aload_n hx hb dX10_init_4 rfl (lv_at hl 0 rfl) ?_
  refine va_new (ci := 7) (fs := [.int 0, .null, .int 0]) (C := RJx4a65c) (T := TJx4a65c) (N := 3) hx hb hts (by decide +kernel) tyJx4a65c tyJx4a65c_ok hown (hts (.classLink RX10 7 RJx4a65c) (by decide +kernel)) (hts (.instantiable RJx4a65c 3) (by decide +kernel)) (hts (.initialized RJx4a65c) (by decide +kernel)) hK hP hD hS hA rfl (fun j hj => by rcases (show j = 0 ∨ j = 1 ∨ j = 2 by omega) with rfl | rfl | rfl <;> rfl) (Nat.le_of_ble_eq_true rfl) (Nat.le_of_ble_eq_true rfl) dX10_init_5 (fun q_1 H hP hD hS => ?_)
  refine W.widen (k := 1) (n := 3) (Nat.le_of_ble_eq_true rfl) (Nat.le_of_ble_eq_true rfl) ?_
  have hP : va_P (dC, dI) fxCl [(h0, .inr (6, [.int 0, .int 0, .null, .null])), (q_1, .inr (7, [.int 0, .null, .int 0]))] H := hP
  have hD : va_D A [(h0, .inr (6, [.int 0, .int 0, .null, .null])), (q_1, .inr (7, [.int 0, .null, .int 0]))] := hD
  refine lv_dup hx hb dX10_init_8 rfl ?_
  have hPc := hP.sub (ws' := [(q_1, .inr (7, [.int 0, .null, .int 0]))]) [1] rfl
  have hDc := hD.sub (ws' := [(q_1, .inr (7, [.int 0, .null, .int 0]))]) [1] (by decide) rfl
  have hKc := hK.sub (tys' := []) [] rfl
  have hFc := va_free (wc := [(q_1, .inr (7, [.int 0, .null, .int 0]))]) hD hS hA [1] rfl
  refine va_callv (va_runI (As := []) (rest := [.ref q_1, .ref h0]) ⟨hx, hb, hml, hown, hts⟩ (c_Jx4a65c_init_da8c8_r l dC dI q_1 tz H.size) (cwI 0 hts gX10_init_Jx4a65c_init_da8c8 rfl rfl rfl (hts (.initialized RJx4a65c) (by decide +kernel)) (hts (.methodLink RX10 9 yJx4a65c_init_da8c8) (by decide +kernel)) (hts (.instanceMethod yJx4a65c_init_da8c8) (by decide +kernel)) rfl (by decide +kernel) ⟨Nat.le_of_ble_eq_true rfl, Nat.le_of_ble_eq_true rfl⟩) (fx_preZ hPc hKc hDc hnw hZ hS hFc) rfl rfl hl.1 rfl (lv_room (Nat.le_of_ble_eq_true rfl)) dX10_init_9 ⟨(Nat.le_of_ble_eq_true rfl), (Nat.le_of_ble_eq_true rfl)⟩) hS (fun q _ h => hFc q h) hFc (fun u t H1 locs ht hvm hw hB hz1 hk1 hS => ?_)
  obtain ⟨hP1, hK1, hD1⟩ := hB
  rw [ht] at hP1
  have hK1 := va_K.moved hvm.symm hK1
  obtain ⟨hP, hD⟩ := va_join (wr := [(h0, .inr (6, [.int 0, .int 0, .null, .null]))]) (w1 := [(q_1, .inr (7, [.int 0, .ref tz, .int 0]))]) hP hD [1] [0] rfl rfl (by decide) (by decide) hk1 hFc hP1 hD1
  have hK := (hK.sub (tys' := []) [] rfl).app hK1
  generalize H1 = H at hP hS ⊢
  have hP : va_P (dC, dI) fxCl [(h0, .inr (6, [.int 0, .int 0, .null, .null])), (q_1, .inr (7, [.int 0, .ref tz, .int 0]))] H := hP
  have hD : va_D A [(h0, .inr (6, [.int 0, .int 0, .null, .null])), (q_1, .inr (7, [.int 0, .ref tz, .int 0]))] := hD
  have hK : va_K (dC, dI) fxCl [] s := hK
  refine va_putF (D := (dC, dI)) (ci := 6) (v := .ref q_1) (ty := .object "java/util/List") (C := RX10) (T := TX10) (N := 4) hx hb hts (by decide +kernel) tyX10 tyX10_ok nmX10 hown hK hP hD hS 0 rfl rfl 2 (by decide) (hts (.fieldLink RX10 10 "UrnwrightModel" "urns" "Ljava/util/List;") (by decide +kernel)) (fun _ h9 => h9) rfl hin rfl (by decide +kernel) rfl rfl (Nat.le_of_ble_eq_true rfl) dX10_init_12 (fun H locs hP hD hS => ?_)
  have hP : va_P (dC, dI) fxCl [(h0, .inr (6, [.int 0, .int 0, .ref q_1, .null])), (q_1, .inr (7, [.int 0, .ref tz, .int 0]))] H := hP
  have hD : va_D A [(h0, .inr (6, [.int 0, .int 0, .ref q_1, .null])), (q_1, .inr (7, [.int 0, .ref tz, .int 0]))] := hD
  refine lv_aload_n hx hb dX10_init_15 rfl (lv_at hl 0 rfl) ?_
  refine va_new (ci := 7) (fs := [.int 0, .null, .int 0]) (C := RJx4a65c) (T := TJx4a65c) (N := 3) hx hb hts (by decide +kernel) tyJx4a65c tyJx4a65c_ok hown (hts (.classLink RX10 7 RJx4a65c) (by decide +kernel)) (hts (.instantiable RJx4a65c 3) (by decide +kernel)) (hts (.initialized RJx4a65c) (by decide +kernel)) hK hP hD hS hA rfl (fun j hj => by rcases (show j = 0 ∨ j = 1 ∨ j = 2 by omega) with rfl | rfl | rfl <;> rfl) (Nat.le_of_ble_eq_true rfl) (Nat.le_of_ble_eq_true rfl) dX10_init_16 (fun q_2 H hP hD hS => ?_)
  refine W.widen (k := 2) (n := 6) (Nat.le_of_ble_eq_true rfl) (Nat.le_of_ble_eq_true rfl) ?_
  have hP : va_P (dC, dI) fxCl [(h0, .inr (6, [.int 0, .int 0, .ref q_1, .null])), (q_1, .inr (7, [.int 0, .ref tz, .int 0])), (q_2, .inr (7, [.int 0, .null, .int 0]))] H := hP
  have hD : va_D A [(h0, .inr (6, [.int 0, .int 0, .ref q_1, .null])), (q_1, .inr (7, [.int 0, .ref tz, .int 0])), (q_2, .inr (7, [.int 0, .null, .int 0]))] := hD
  refine lv_dup hx hb dX10_init_19 rfl ?_
  have hPc := hP.sub (ws' := [(q_2, .inr (7, [.int 0, .null, .int 0]))]) [2] rfl
  have hDc := hD.sub (ws' := [(q_2, .inr (7, [.int 0, .null, .int 0]))]) [2] (by decide) rfl
  have hKc := hK.sub (tys' := []) [] rfl
  have hFc := va_free (wc := [(q_2, .inr (7, [.int 0, .null, .int 0]))]) hD hS hA [2] rfl
  refine va_callv (va_runI (As := []) (rest := [.ref q_2, .ref h0]) ⟨hx, hb, hml, hown, hts⟩ (c_Jx4a65c_init_da8c8_r l dC dI q_2 tz H.size) (cwI 0 hts gX10_init_Jx4a65c_init_da8c8 rfl rfl rfl (hts (.initialized RJx4a65c) (by decide +kernel)) (hts (.methodLink RX10 9 yJx4a65c_init_da8c8) (by decide +kernel)) (hts (.instanceMethod yJx4a65c_init_da8c8) (by decide +kernel)) rfl (by decide +kernel) ⟨Nat.le_of_ble_eq_true rfl, Nat.le_of_ble_eq_true rfl⟩) (fx_preZ hPc hKc hDc hnw hZ hS hFc) rfl rfl hl.1 rfl (lv_room (Nat.le_of_ble_eq_true rfl)) dX10_init_20 ⟨(Nat.le_of_ble_eq_true rfl), (Nat.le_of_ble_eq_true rfl)⟩) hS (fun q _ h => hFc q h) hFc (fun u t H1 locs ht hvm hw hB hz1 hk1 hS => ?_)
  obtain ⟨hP1, hK1, hD1⟩ := hB
  rw [ht] at hP1
  have hK1 := va_K.moved hvm.symm hK1
  obtain ⟨hP, hD⟩ := va_join (wr := [(h0, .inr (6, [.int 0, .int 0, .ref q_1, .null])), (q_1, .inr (7, [.int 0, .ref tz, .int 0]))]) (w1 := [(q_2, .inr (7, [.int 0, .ref tz, .int 0]))]) hP hD [2] [0, 1] rfl rfl (by decide) (by decide) hk1 hFc hP1 hD1
  have hK := (hK.sub (tys' := []) [] rfl).app hK1
  generalize H1 = H at hP hS ⊢
  have hP : va_P (dC, dI) fxCl [(h0, .inr (6, [.int 0, .int 0, .ref q_1, .null])), (q_1, .inr (7, [.int 0, .ref tz, .int 0])), (q_2, .inr (7, [.int 0, .ref tz, .int 0]))] H := hP
  have hD : va_D A [(h0, .inr (6, [.int 0, .int 0, .ref q_1, .null])), (q_1, .inr (7, [.int 0, .ref tz, .int 0])), (q_2, .inr (7, [.int 0, .ref tz, .int 0]))] := hD
  have hK : va_K (dC, dI) fxCl [] s := hK
  refine va_putF (D := (dC, dI)) (ci := 6) (v := .ref q_2) (ty := .object "java/util/List") (C := RX10) (T := TX10) (N := 4) hx hb hts (by decide +kernel) tyX10 tyX10_ok nmX10 hown hK hP hD hS 0 rfl rfl 3 (by decide) (hts (.fieldLink RX10 16 "UrnwrightModel" "rows" "Ljava/util/List;") (by decide +kernel)) (fun _ h9 => h9) rfl hin rfl (by decide +kernel) rfl rfl (Nat.le_of_ble_eq_true rfl) dX10_init_23 (fun H locs hP hD hS => ?_)
  have hP : va_P (dC, dI) fxCl [(h0, .inr (6, [.int 0, .int 0, .ref q_1, .ref q_2])), (q_1, .inr (7, [.int 0, .ref tz, .int 0])), (q_2, .inr (7, [.int 0, .ref tz, .int 0]))] H := hP
  have hD : va_D A [(h0, .inr (6, [.int 0, .int 0, .ref q_1, .ref q_2])), (q_1, .inr (7, [.int 0, .ref tz, .int 0])), (q_2, .inr (7, [.int 0, .ref tz, .int 0]))] := hD
  have hP9 := hP.sub (ws' := [(h0, .inr (6, [.int 0, .int 0, .ref q_1, .ref q_2]))]) [0] rfl
  have hD9 := hD.sub (ws' := [(h0, .inr (6, [.int 0, .int 0, .ref q_1, .ref q_2]))]) [0] (by decide) rfl
  have hK9 := hK.sub (tys' := []) [] rfl
  refine W.widen (k := 2) (n := 6) (Nat.le_of_ble_eq_true rfl) (Nat.le_of_ble_eq_true rfl) ?_
  exact W.vret hx hb hr (fun t ht hW => ⟨⟨(), rfl, trivial, q_1, q_2, by rw [ht]; exact hP9, va_K.moved hW.alike hK9, hD9⟩, hS.F ht⟩) hS.2.2 dX10_init_26
set_option maxHeartbeats 4000000 in
set_option maxRecDepth 100000 in
/-- Sum() -/
theorem c_X8_init (l : Launch) (dC : Nat → ClassId) (dI : Nat → Nat → Nat) (h0 : Nat) (sz : Nat) : Met l yX8_init wsX8_init ({ frames := 1, cells := 0, slots := 0, locals := 40 } : Room) (va_Pc [.ref h0] (fx_st dC dI [(h0, .inr (5, [.long 0, .long 0]))] [] sz)) (va_Qv (fun _ : Unit => True) (fun _ t => fx_en dC dI (va_A [(h0, .inr (5, [.long 0, .long 0]))] sz) [(h0, .inr (5, [.long 0, .long 1]))] [] t) (va_A [(h0, .inr (5, [.long 0, .long 0]))] sz)) 0 0 (va_A [(h0, .inr (5, [.long 0, .long 0]))] sz) := by
  refine Met.ofW (cc := cX8_init) (maxL := 1) (ret := none) (by decide) rfl ?_
  intro p e s m args below meth c s₁ B hml hv
  obtain ⟨rfl, hsz, hP, hK, hD0, hnw⟩ := hv
  have hx := B.exec
  have hb := B.bytes
  have hr := B.returns
  have hts := atoms_spec (ws := wsX8_init) B.pre
  have hown : s.vm.findClass RX8 = some m.cls := findClass_of_methodNamed B.named
  have hlocks := B.notSynchronized
  have hin : meth.name = "<init>" := (name_of_methodNamed B.named B.method).1
  subst hsz
  have hD := hD0.self (sz := s.heap.size)
  generalize hAe : va_A [(h0, .inr (5, [.long 0, .long 0]))] s.heap.size = A at hD ⊢
  have hA : ∀ q : Nat, s.heap.size ≤ q → A q := fun q h => by rw [← hAe]; exact Or.inr h
  obtain ⟨H, hHe⟩ : ∃ H, H = s.heap := ⟨_, rfl⟩
  have hS : va_S A s.heap H [] := by rw [hHe]; exact va_S.rf
  have hP : va_P (dC, dI) fxCl [(h0, .inr (5, [.long 0, .long 0]))] H := by rw [hHe]; exact hP
  refine fx_h hHe ?_
  have hl := lv_entry ([.ref h0]) (n := 1) (Nat.le_of_ble_eq_true rfl)
  rw [lg_entry_eq]
  generalize (lg_sl ([.ref h0]) ++ List.replicate (1 - (lg_sl ([.ref h0])).length) Slot.unset).toArray = ls at hl ⊢
  have hl : lv_has ls 1 [(0, .ref h0)] := hl
  refine lv_aload_n hx hb dX8_init_0 rfl (lv_at hl 0 rfl) ?_
  refine W.objInit hx hb hown (hts (.methodLink RX8 1 objectInit) (by decide +kernel)) (hts (.instanceMethod objectInit) (by decide +kernel)) (hts (.code objectInit ⟨#[0xb1]⟩ 1 none) (by decide +kernel)) rfl (by rw [hml]; exact hl.1) rfl dX8_init_1 (Nat.le_of_ble_eq_true rfl) (Nat.le_of_ble_eq_true rfl) ?_
  refine W.eq (g2 := F0 m 4 ls []) rfl ?_
  refine lv_aload_n hx hb dX8_init_4 rfl (lv_at hl 0 rfl) ?_
  refine lv_lconst (v := 0) hx hb dX8_init_5 (by decide) ?_
  refine va_put (D := (dC, dI)) (ci := 5) (v := .long 0) (ty := .long) (C := RX8) (T := TX8) (N := 2) hx hb hts (by decide +kernel) tyX8 tyX8_ok nmX8 hown hK hP hD hS 0 rfl rfl 0 (by decide) (hts (.fieldLink RX8 7 "UrnwrightModel$Sum" "up" "J") (by decide +kernel)) (fun _ h9 => h9) rfl (by decide +kernel) rfl rfl (Nat.le_of_ble_eq_true rfl) dX8_init_6 (fun H locs hP hD hS => ?_)
  have hP : va_P (dC, dI) fxCl [(h0, .inr (5, [.long 0, .long 0]))] H := hP
  have hD : va_D A [(h0, .inr (5, [.long 0, .long 0]))] := hD
  refine lv_aload_n hx hb dX8_init_9 rfl (lv_at hl 0 rfl) ?_
  refine lv_lconst (v := 1) hx hb dX8_init_10 (by decide) ?_
  refine va_put (D := (dC, dI)) (ci := 5) (v := .long 1) (ty := .long) (C := RX8) (T := TX8) (N := 2) hx hb hts (by decide +kernel) tyX8 tyX8_ok nmX8 hown hK hP hD hS 0 rfl rfl 1 (by decide) (hts (.fieldLink RX8 13 "UrnwrightModel$Sum" "down" "J") (by decide +kernel)) (fun _ h9 => h9) rfl (by decide +kernel) rfl rfl (Nat.le_of_ble_eq_true rfl) dX8_init_11 (fun H locs hP hD hS => ?_)
  have hP : va_P (dC, dI) fxCl [(h0, .inr (5, [.long 0, .long 1]))] H := hP
  have hD : va_D A [(h0, .inr (5, [.long 0, .long 1]))] := hD
  have hP9 := hP.sub (ws' := [(h0, .inr (5, [.long 0, .long 1]))]) [0] rfl
  have hD9 := hD.sub (ws' := [(h0, .inr (5, [.long 0, .long 1]))]) [0] (by decide) rfl
  have hK9 := hK.sub (tys' := []) [] rfl
  exact W.vret hx hb hr (fun t ht hW => ⟨⟨(), rfl, trivial, by rw [ht]; exact hP9, va_K.moved hW.alike hK9, hD9⟩, hS.F ht⟩) hS.2.2 dX8_init_14
set_option maxHeartbeats 4000000 in
set_option maxRecDepth 100000 in
/-- add(1, a, 9375000) to a fresh sum -/
theorem c_X8_add (l : Launch) (dC : Nat → ClassId) (dI : Nat → Nat → Nat) (h0 : Nat) (a : Int64) (sz : Nat) : Met l yX8_add wsX8_add ({ frames := 2, cells := 0, slots := 0, locals := 80 } : Room) (va_Pc [.ref h0, .long 1, .long a, .long 9375000] (fx_st dC dI [(h0, .inr (5, [.long 0, .long 1]))] [] sz)) (va_Qr (fun _ : Unit => True) (fun _ ra t => h0 = ra ∧ ∃ (x y : Int64), fx_en dC dI (va_A [(h0, .inr (5, [.long 0, .long 1]))] sz) [(h0, .inr (5, [.long x, .long y]))] [] t) (va_A [(h0, .inr (5, [.long 0, .long 1]))] sz)) 0 0 (va_A [(h0, .inr (5, [.long 0, .long 1]))] sz) := by
  refine Met.ofW (cc := cX8_add) (maxL := 15) (ret := (some (.object "UrnwrightModel$Sum"))) (by decide) rfl ?_
  intro p e s m args below meth c s₁ B hml hv
  obtain ⟨rfl, hsz, hP, hK, hD0, hnw⟩ := hv
  have hx := B.exec
  have hb := B.bytes
  have hr := B.returns
  have hts := atoms_spec (ws := wsX8_add) B.pre
  have hown : s.vm.findClass RX8 = some m.cls := findClass_of_methodNamed B.named
  have hlocks := B.notSynchronized
  subst hsz
  have hD := hD0.self (sz := s.heap.size)
  generalize hAe : va_A [(h0, .inr (5, [.long 0, .long 1]))] s.heap.size = A at hD ⊢
  have hA : ∀ q : Nat, s.heap.size ≤ q → A q := fun q h => by rw [← hAe]; exact Or.inr h
  obtain ⟨H, hHe⟩ : ∃ H, H = s.heap := ⟨_, rfl⟩
  have hS : va_S A s.heap H [] := by rw [hHe]; exact va_S.rf
  have hP : va_P (dC, dI) fxCl [(h0, .inr (5, [.long 0, .long 1]))] H := by rw [hHe]; exact hP
  refine fx_h hHe ?_
  have hl := lv_entry ([.ref h0, .long 1, .long a, .long 9375000]) (n := 15) (Nat.le_of_ble_eq_true rfl)
  rw [lg_entry_eq]
  generalize (lg_sl ([.ref h0, .long 1, .long a, .long 9375000]) ++ List.replicate (15 - (lg_sl ([.ref h0, .long 1, .long a, .long 9375000])).length) Slot.unset).toArray = ls at hl ⊢
  have hl : lv_has ls 15 [(0, .ref h0), (1, .long 1), (3, .long a), (5, .long 9375000)] := hl
  refine lv_aload_n hx hb dX8_add_0 rfl (lv_at hl 0 rfl) ?_
  refine va_get (D := (dC, dI)) (ci := 5) (v := .long 1) (C := RX8) (T := TX8) (N := 2) hx hb hts (by decide +kernel) hown hK hP 0 rfl rfl 1 (by decide) (hts (.fieldLink RX8 13 "UrnwrightModel$Sum" "down" "J") (by decide +kernel)) (fun _ h9 => h9) rfl dX8_add_1 ?_
  refine lv_lload hx hb dX8_add_4 (lv_at hl 3 rfl) ?_
  refine vp_callSl ((va_runSN (As := [.long 1, .long 9375000]) (rest := []) ⟨hx, hb, hml, hown, hts⟩ (c_X10_common l 1 9375000 fx_I1 (fun r => r = 1) (Or.inl ⟨rfl, rfl⟩) fx_I1s fx_I1e) ⟨va_cnB 2 hts gX8_add_X10_common_n16 rfl rfl rfl (hnw.2.2.2.2.2.2.2.2.1) (hts (.initialized RX10) (by decide +kernel)) (by decide +kernel) ⟨Nat.le_of_ble_eq_true rfl, Nat.le_of_ble_eq_true rfl⟩, hts (.static yX10_common) (by decide +kernel), trivial⟩ preEq rfl rfl hl.1 rfl (lv_room (Nat.le_of_ble_eq_true rfl)) dX8_add_6 ⟨Nat.le_of_ble_eq_true rfl, Nat.le_of_ble_eq_true rfl⟩).run) (fun r_1 hr_1 => ?_)
  obtain rfl : r_1 = (1 : Int64) := hr_1
  refine lv_lstore (lv' := [(7, .long 1), (0, .ref h0), (1, .long 1), (3, .long a), (5, .long 9375000)]) hx hb dX8_add_9 hl (by decide) rfl (fun ls hl => ?_)
  refine lv_aload_n hx hb dX8_add_11 rfl (lv_at hl 1 rfl) ?_
  refine va_get (D := (dC, dI)) (ci := 5) (v := .long 0) (C := RX8) (T := TX8) (N := 2) hx hb hts (by decide +kernel) hown hK hP 0 rfl rfl 0 (by decide) (hts (.fieldLink RX8 7 "UrnwrightModel$Sum" "up" "J") (by decide +kernel)) (fun _ h9 => h9) rfl dX8_add_12 ?_
  refine lv_lload hx hb dX8_add_15 (lv_at hl 4 rfl) ?_
  refine lv_lload hx hb dX8_add_17 (lv_at hl 0 rfl) ?_
  refine lv_ldiv hx hb dX8_add_19 (by decide) ?_
  refine lv_topl (fun x_2 ex_2 => ?_)
  obtain rfl : x_2 = (9375000 : Int64) := ex_2.trans (by decide)
  refine lv_lmul hx hb dX8_add_20 ?_
  refine lv_topl (fun x_3 ex_3 => ?_)
  obtain rfl : x_3 = (0 : Int64) := ex_3.trans (by decide)
  refine lv_lload_n hx hb dX8_add_21 rfl (lv_at hl 2 rfl) ?_
  refine lv_lload_n hx hb dX8_add_22 rfl (lv_at hl 3 rfl) ?_
  refine lv_lmul hx hb dX8_add_23 ?_
  refine lv_topl (fun x_4 ex_4 => ?_)
  refine lv_aload_n hx hb dX8_add_24 rfl (lv_at hl 1 rfl) ?_
  refine va_get (D := (dC, dI)) (ci := 5) (v := .long 1) (C := RX8) (T := TX8) (N := 2) hx hb hts (by decide +kernel) hown hK hP 0 rfl rfl 1 (by decide) (hts (.fieldLink RX8 13 "UrnwrightModel$Sum" "down" "J") (by decide +kernel)) (fun _ h9 => h9) rfl dX8_add_25 ?_
  refine lv_lload hx hb dX8_add_28 (lv_at hl 0 rfl) ?_
  refine lv_ldiv hx hb dX8_add_30 (by decide) ?_
  refine lv_topl (fun x_5 ex_5 => ?_)
  obtain rfl : x_5 = (1 : Int64) := ex_5.trans (by decide)
  refine lv_lmul hx hb dX8_add_31 ?_
  refine lv_topl (fun x_6 ex_6 => ?_)
  refine lv_ladd hx hb dX8_add_32 ?_
  refine lv_topl (fun x_7 ex_7 => ?_)
  refine lv_lstore (lv' := [(9, .long x_7), (7, .long 1), (0, .ref h0), (1, .long 1), (3, .long a), (5, .long 9375000)]) hx hb dX8_add_33 hl (by decide) rfl (fun ls hl => ?_)
  refine lv_aload_n hx hb dX8_add_35 rfl (lv_at hl 2 rfl) ?_
  refine va_get (D := (dC, dI)) (ci := 5) (v := .long 1) (C := RX8) (T := TX8) (N := 2) hx hb hts (by decide +kernel) hown hK hP 0 rfl rfl 1 (by decide) (hts (.fieldLink RX8 13 "UrnwrightModel$Sum" "down" "J") (by decide +kernel)) (fun _ h9 => h9) rfl dX8_add_36 ?_
  refine lv_lload hx hb dX8_add_39 (lv_at hl 1 rfl) ?_
  refine lv_ldiv hx hb dX8_add_41 (by decide) ?_
  refine lv_topl (fun x_8 ex_8 => ?_)
  obtain rfl : x_8 = (1 : Int64) := ex_8.trans (by decide)
  refine lv_lload hx hb dX8_add_42 (lv_at hl 5 rfl) ?_
  refine lv_lmul hx hb dX8_add_44 ?_
  refine lv_topl (fun x_9 ex_9 => ?_)
  obtain rfl : x_9 = (9375000 : Int64) := ex_9.trans (by decide)
  refine lv_lstore (lv' := [(11, .long 9375000), (9, .long x_7), (7, .long 1), (0, .ref h0), (1, .long 1), (3, .long a), (5, .long 9375000)]) hx hb dX8_add_45 hl (by decide) rfl (fun ls hl => ?_)
  refine lv_lload hx hb dX8_add_47 (lv_at hl 1 rfl) ?_
  refine va_mabs_long hx hb (hml.trans hl.1.symm) hown (hts (.methodLink RX8 22 Lib.MathLoose.abs_long.x) (by decide +kernel)) (hts (.static Lib.MathLoose.abs_long.x) (by decide +kernel)) (hts (.initialized "java/lang/Math") (by decide +kernel)) (hts (.code Lib.MathLoose.abs_long.x Lib.MathLoose.abs_long.code 2 (some .long)) (by decide +kernel)) (Nat.le_of_ble_eq_true rfl) (Nat.le_of_ble_eq_true rfl) (Nat.le_of_ble_eq_true rfl) (Nat.le_of_ble_eq_true rfl) dX8_add_49 ?_
  refine lv_topl (fun x_10 ex_10 => ?_)
  refine lv_lload hx hb dX8_add_52 (lv_at hl 0 rfl) ?_
  refine vp_callSl ((va_runSN (As := [.long x_10, .long 9375000]) (rest := []) ⟨hx, hb, hml, hown, hts⟩ (c_X10_common l x_10 9375000 (fun a b => ¬ a = 0 ∨ ¬ b = 0) (fun r => ¬ r = 0) (Or.inr (by decide)) (fun _ _ _ h => Or.inl h) (fun _ h => h.elim id (fun q => absurd rfl q))) ⟨va_cnB 2 hts gX8_add_X10_common_n16 rfl rfl rfl (hnw.2.2.2.2.2.2.2.2.1) (hts (.initialized RX10) (by decide +kernel)) (by decide +kernel) ⟨Nat.le_of_ble_eq_true rfl, Nat.le_of_ble_eq_true rfl⟩, hts (.static yX10_common) (by decide +kernel), trivial⟩ preEq rfl rfl hl.1 rfl (lv_room (Nat.le_of_ble_eq_true rfl)) dX8_add_54 ⟨Nat.le_of_ble_eq_true rfl, Nat.le_of_ble_eq_true rfl⟩).run) (fun r_11 hr_11 => ?_)
  refine lv_lstore (lv' := [(13, .long r_11), (11, .long 9375000), (9, .long x_7), (7, .long 1), (0, .ref h0), (1, .long 1), (3, .long a), (5, .long 9375000)]) hx hb dX8_add_57 hl (by decide) rfl (fun ls hl => ?_)
  refine lv_aload_n hx hb dX8_add_59 rfl (lv_at hl 4 rfl) ?_
  refine lv_lload hx hb dX8_add_60 (lv_at hl 2 rfl) ?_
  refine lv_lload hx hb dX8_add_62 (lv_at hl 0 rfl) ?_
  refine lv_ldiv hx hb dX8_add_64 hr_11 ?_
  refine lv_topl (fun x_12 ex_12 => ?_)
  refine va_put (D := (dC, dI)) (ci := 5) (v := .long x_12) (ty := .long) (C := RX8) (T := TX8) (N := 2) hx hb hts (by decide +kernel) tyX8 tyX8_ok nmX8 hown hK hP hD hS 0 rfl rfl 0 (by decide) (hts (.fieldLink RX8 7 "UrnwrightModel$Sum" "up" "J") (by decide +kernel)) (fun _ h9 => h9) rfl (by decide +kernel) rfl rfl (Nat.le_of_ble_eq_true rfl) dX8_add_65 (fun H locs hP hD hS => ?_)
  have hP : va_P (dC, dI) fxCl [(h0, .inr (5, [.long x_12, .long 1]))] H := hP
  have hD : va_D A [(h0, .inr (5, [.long x_12, .long 1]))] := hD
  refine lv_aload_n hx hb dX8_add_68 rfl (lv_at hl 4 rfl) ?_
  refine lv_lload hx hb dX8_add_69 (lv_at hl 1 rfl) ?_
  refine lv_lload hx hb dX8_add_71 (lv_at hl 0 rfl) ?_
  refine lv_ldiv hx hb dX8_add_73 hr_11 ?_
  refine lv_topl (fun x_13 ex_13 => ?_)
  refine va_put (D := (dC, dI)) (ci := 5) (v := .long x_13) (ty := .long) (C := RX8) (T := TX8) (N := 2) hx hb hts (by decide +kernel) tyX8 tyX8_ok nmX8 hown hK hP hD hS 0 rfl rfl 1 (by decide) (hts (.fieldLink RX8 13 "UrnwrightModel$Sum" "down" "J") (by decide +kernel)) (fun _ h9 => h9) rfl (by decide +kernel) rfl rfl (Nat.le_of_ble_eq_true rfl) dX8_add_74 (fun H locs hP hD hS => ?_)
  have hP : va_P (dC, dI) fxCl [(h0, .inr (5, [.long x_12, .long x_13]))] H := hP
  have hD : va_D A [(h0, .inr (5, [.long x_12, .long x_13]))] := hD
  refine lv_aload_n hx hb dX8_add_77 rfl (lv_at hl 4 rfl) ?_
  have hP9 := hP.sub (ws' := [(h0, .inr (5, [.long x_12, .long x_13]))]) [0] rfl
  have hD9 := hD.sub (ws' := [(h0, .inr (5, [.long x_12, .long x_13]))]) [0] (by decide) rfl
  have hK9 := hK.sub (tys' := []) [] rfl
  exact W.aret (v := .ref h0) hx hb hr (by first | exact Or.inl ⟨_, rfl⟩ | exact Or.inr ⟨_, rfl⟩) (Or.inr ⟨_, rfl⟩) (fun t ht hW => ⟨⟨(), h0, rfl, trivial, rfl, x_12, x_13, by rw [ht]; exact hP9, va_K.moved hW.alike hK9, hD9⟩, hS.F ht⟩) hS.2.2 dX8_add_78
set_option maxHeartbeats 4000000 in
set_option maxRecDepth 100000 in
/-- part(z) -/
theorem c_X8_part (l : Launch) (dC : Nat → ClassId) (dI : Nat → Nat → Nat) (h0 : Nat) (z : Int32) (x y : Int64) (sz : Nat) : Met l yX8_part wsX8_part ({ frames := 0, cells := 0, slots := 0, locals := 0 } : Room) (va_Pc [.ref h0, .int z] (fx_st dC dI [(h0, .inr (5, [.long x, .long y]))] [] sz)) (vp_Sl (fun _ => True)) 0 0 (fun _ => False) := by
  refine Met.ofW (cc := cX8_part) (maxL := 2) (ret := (some .long)) (by decide) rfl ?_
  intro p e s m args below meth c s₁ B hml hv
  obtain ⟨rfl, hsz, hP, hK, hD0, hnw⟩ := hv
  have hx := B.exec
  have hb := B.bytes
  have hr := B.returns
  have hts := atoms_spec (ws := wsX8_part) B.pre
  have hown : s.vm.findClass RX8 = some m.cls := findClass_of_methodNamed B.named
  have hlocks := B.notSynchronized
  subst hsz
  have hD := hD0
  generalize hHe : s.heap = H at hP ⊢
  have hK : va_K (dC, dI) fxCl [] s := hK
  have hl := lv_entry ([.ref h0, .int z]) (n := 2) (Nat.le_of_ble_eq_true rfl)
  rw [lg_entry_eq]
  generalize (lg_sl ([.ref h0, .int z]) ++ List.replicate (2 - (lg_sl ([.ref h0, .int z])).length) Slot.unset).toArray = ls at hl ⊢
  have hl : lv_has ls 2 [(0, .ref h0), (1, .int z)] := hl
  refine lv_iload_n hx hb dX8_part_0 rfl (lv_at hl 1 rfl) ?_
  refine lv_if_eq (tgt := 11) hx hb dX8_part_1 (by decide) (fun c_1 => ?_) (fun c_1 => ?_)
  · skip
    refine lv_aload_n hx hb dX8_part_11 rfl (lv_at hl 0 rfl) ?_
    refine va_get (D := (dC, dI)) (ci := 5) (v := .long x) (C := RX8) (T := TX8) (N := 2) hx hb hts (by decide +kernel) hown hK hP 0 rfl rfl 0 (by decide) (hts (.fieldLink RX8 7 "UrnwrightModel$Sum" "up" "J") (by decide +kernel)) (fun _ h9 => h9) rfl dX8_part_12 ?_
    exact W.lret (v := x) hx hb hr (fun t ht hW => ⟨x, rfl, trivial, ht.trans hHe.symm⟩) (fun _ h => by cases h) dX8_part_15
  · skip
    refine lv_aload_n hx hb dX8_part_4 rfl (lv_at hl 0 rfl) ?_
    refine va_get (D := (dC, dI)) (ci := 5) (v := .long y) (C := RX8) (T := TX8) (N := 2) hx hb hts (by decide +kernel) hown hK hP 0 rfl rfl 1 (by decide) (hts (.fieldLink RX8 13 "UrnwrightModel$Sum" "down" "J") (by decide +kernel)) (fun _ h9 => h9) rfl dX8_part_5 ?_
    refine lv_goto (tgt := 15) hx hb dX8_part_8 (by decide) ?_
    exact W.lret (v := y) hx hb hr (fun t ht hW => ⟨y, rfl, trivial, ht.trans hHe.symm⟩) (fun _ h => by cases h) dX8_part_15
set_option maxHeartbeats 4000000 in
set_option maxRecDepth 100000 in
/-- shuffled(ways, 5) -/
theorem c_X10_shuffled (l : Launch) (dC : Nat → ClassId) (dI : Nat → Nat → Nat) (q : Nat) (cA : ClassId) (f : Nat → Int64) (sz : Nat) : Met l yX10_shuffled wsX10_shuffled ({ frames := 0, cells := 1, slots := 3125, locals := 0 } : Room) (va_Pc [.ref q, .int 5] (fx_st dC dI [(q, .inl (cA, 3125, .inr (.inl f)))] [(cA, .long)] sz)) (va_Qr (fun _ : Unit => True) (fun _ q2 t => ∃ (cB : ClassId) (g : Nat → Int64), fx_en dC dI (va_A [(q, .inl (cA, 3125, .inr (.inl f)))] sz) [(q, .inl (cA, 3125, .inr (.inl f))), (q2, .inl (cB, 3125, .inr (.inl g)))] [(cA, .long), (cB, .long)] t) (va_A [(q, .inl (cA, 3125, .inr (.inl f)))] sz)) 1 3125 (va_A [(q, .inl (cA, 3125, .inr (.inl f)))] sz) := by
  refine Met.ofW (cc := cX10_shuffled) (maxL := 10) (ret := (some (.array .long))) (by decide) rfl ?_
  intro p e s m args below meth c s₁ B hml hv
  obtain ⟨rfl, hsz, hP, hK, hD0, hnw⟩ := hv
  have hx := B.exec
  have hb := B.bytes
  have hr := B.returns
  have hts := atoms_spec (ws := wsX10_shuffled) B.pre
  have hown : s.vm.findClass RX10 = some m.cls := findClass_of_methodNamed B.named
  have hlocks := B.notSynchronized
  subst hsz
  have hD := hD0.self (sz := s.heap.size)
  generalize hAe : va_A [(q, .inl (cA, 3125, .inr (.inl f)))] s.heap.size = A at hD ⊢
  have hA : ∀ q : Nat, s.heap.size ≤ q → A q := fun q h => by rw [← hAe]; exact Or.inr h
  obtain ⟨H, hHe⟩ : ∃ H, H = s.heap := ⟨_, rfl⟩
  have hS : va_S A s.heap H [] := by rw [hHe]; exact va_S.rf
  have hP : va_P (dC, dI) fxCl [(q, .inl (cA, 3125, .inr (.inl f)))] H := by rw [hHe]; exact hP
  refine fx_h hHe ?_
  have hl := lv_entry ([.ref q, .int 5]) (n := 10) (Nat.le_of_ble_eq_true rfl)
  rw [lg_entry_eq]
  generalize (lg_sl ([.ref q, .int 5]) ++ List.replicate (10 - (lg_sl ([.ref q, .int 5])).length) Slot.unset).toArray = ls at hl ⊢
  have hl : lv_has ls 10 [(0, .ref q), (1, .int 5)] := hl
  refine lv_aload_n hx hb dX10_shuffled_0 rfl (lv_at hl 0 rfl) ?_
  refine va_alen (v := 3125) hx hb hK hP 0 0 rfl rfl rfl dX10_shuffled_1 ?_
  refine va_newa (atype := .long) (ty := .long) (N' := 3125) (a0 := (3125, .inr (.inl fun _ => 0))) hx hb (hts (.arrayClass .long) (by decide +kernel)) rfl hK hP hD hS hA (fun _ => rfl) (by decide) (by decide) (Nat.le_of_ble_eq_true rfl) (Nat.le_of_ble_eq_true rfl) (Nat.le_of_ble_eq_true rfl) dX10_shuffled_2 (fun q_1 cA_2 H hK hP hD hS => ?_)
  refine W.widen (k := 1) (n := 3125) (Nat.le_of_ble_eq_true rfl) (Nat.le_of_ble_eq_true rfl) ?_
  have hP : va_P (dC, dI) fxCl [(q, .inl (cA, 3125, .inr (.inl f))), (q_1, .inl (cA_2, 3125, .inr (.inl (fun _ => 0))))] H := hP
  have hD : va_D A [(q, .inl (cA, 3125, .inr (.inl f))), (q_1, .inl (cA_2, 3125, .inr (.inl (fun _ => 0))))] := hD
  have hK : va_K (dC, dI) fxCl [(cA, .long), (cA_2, .long)] s := hK
  refine lv_astore_n (lv' := [(2, .ref q_1), (0, .ref q), (1, .int 5)]) hx hb dX10_shuffled_4 rfl hl (by decide) rfl (fun ls hl => ?_)
  refine lv_iconst (v := 0) hx hb dX10_shuffled_5 (by decide) ?_
  refine lv_istore_n (lv' := [(3, .int 0), (2, .ref q_1), (0, .ref q), (1, .int 5)]) hx hb dX10_shuffled_6 rfl hl (by decide) rfl (fun ls hl => ?_)
  have loop_7 : ∀ (n_loop_7 : Nat) (j : Nat) (g : Nat → Int64) (H : Heap) (locs : List Loc) (ls : Array Slot), 4000 - j < n_loop_7 → j ≤ 3125 → va_P (dC, dI) fxCl [(q, .inl (cA, 3125, .inr (.inl f))), (q_1, .inl (cA_2, 3125, .inr (.inl g)))] H → va_D A [(q, .inl (cA, 3125, .inr (.inl f))), (q_1, .inl (cA_2, 3125, .inr (.inl g)))] → va_S A s.heap H locs → lv_has ls 10 [(3, .int (nI j)), (2, .ref q_1), (0, .ref q), (1, .int 5)] → W p l e (headSpec wsX10_shuffled ({ frames := 0, cells := 1, slots := 3125, locals := 0 } : Room)).room s m ([.ref q, .int 5] : List Value).toArray below meth c H locs 1 3125 (MQ below (va_Qr (fun _ : Unit => True) (fun _ q2 t => ∃ (cB : ClassId) (g : Nat → Int64), fx_en dC dI (A) [(q, .inl (cA, 3125, .inr (.inl f))), (q2, .inl (cB, 3125, .inr (.inl g)))] [(cA, .long), (cB, .long)] t) (A)) ([.ref q, .int 5] : List Value).toArray s 1 3125 A) (F0 m 7 ls []) := by
    intro n_loop_7
    induction n_loop_7 with
    | zero => intro j g H locs ls hn; exact absurd hn (Nat.not_lt_zero _)
    | succ n_loop_7 ih_loop_7 =>
      intro j g H locs ls hn_loop_7 hinv_loop_7 hP hD hS hl
      refine lv_iload_n hx hb dX10_shuffled_7 rfl (lv_at hl 0 rfl) ?_
      refine lv_aload_n hx hb dX10_shuffled_8 rfl (lv_at hl 2 rfl) ?_
      refine va_alen (v := 3125) hx hb hK hP 0 0 rfl rfl rfl dX10_shuffled_9 ?_
      refine lv_icmp_ge (tgt := 99) hx hb dX10_shuffled_10 (by decide) (fun c_7 => ?_) (fun c_7 => ?_)
      · skip
        refine lv_aload_n hx hb dX10_shuffled_99 rfl (lv_at hl 1 rfl) ?_
        have hP9 := hP.sub (ws' := [(q, .inl (cA, 3125, .inr (.inl f))), (q_1, .inl (cA_2, 3125, .inr (.inl g)))]) [0, 1] rfl
        have hD9 := hD.sub (ws' := [(q, .inl (cA, 3125, .inr (.inl f))), (q_1, .inl (cA_2, 3125, .inr (.inl g)))]) [0, 1] (by decide) rfl
        have hK9 := hK.sub (tys' := [(cA, .long), (cA_2, .long)]) [0, 1] rfl
        refine W.widen (k := 1) (n := 3125) (Nat.le_of_ble_eq_true rfl) (Nat.le_of_ble_eq_true rfl) ?_
        exact W.aret (v := .ref q_1) hx hb hr (by first | exact Or.inl ⟨_, rfl⟩ | exact Or.inr ⟨_, rfl⟩) (Or.inr ⟨_, rfl⟩) (fun t ht hW => ⟨⟨(), q_1, rfl, trivial, cA_2, g, by rw [ht]; exact hP9, va_K.moved hW.alike hK9, hD9⟩, hS.F ht⟩) hS.2.2 dX10_shuffled_100
      · skip
        have hj5 : j < 3125 := fx_ge (n := 3125) c_7 (by decide) (by omega)
        refine lv_aload_n hx hb dX10_shuffled_13 rfl (lv_at hl 2 rfl) ?_
        refine lv_iload_n hx hb dX10_shuffled_14 rfl (lv_at hl 0 rfl) ?_
        refine va_lald hx hb hK hP 0 0 rfl rfl (vp_in_nI (N := 3125) hj5 (by decide)) dX10_shuffled_15 ?_
        refine lv_topl (fun x_3 ex_3 => ?_)
        refine lv_lconst (v := 0) hx hb dX10_shuffled_16 (by decide) ?_
        refine W.lcmp hx hb dX10_shuffled_17 ?_
        refine lv_if_ne (tgt := 24) hx hb dX10_shuffled_18 (by decide) (fun c_4 => ?_) (fun c_4 => ?_)
        · skip
          refine lv_iload_n hx hb dX10_shuffled_24 rfl (lv_at hl 0 rfl) ?_
          refine lv_iload_n hx hb dX10_shuffled_25 rfl (lv_at hl 3 rfl) ?_
          refine lv_irem hx hb dX10_shuffled_26 (by decide) ?_
          refine lv_topi (fun x_5 ex_5 => ?_)
          obtain rfl : x_5 = nI (j % 5) := ex_5.trans (pk_rem (a := j) (d := 5) (by omega) (by omega) (by omega))
          refine lv_istore (lv' := [(4, .int (nI (j % 5))), (3, .int (nI j)), (2, .ref q_1), (0, .ref q), (1, .int 5)]) hx hb dX10_shuffled_27 hl (by decide) rfl (fun ls hl => ?_)
          refine lv_iload_n hx hb dX10_shuffled_29 rfl (lv_at hl 1 rfl) ?_
          refine lv_iload_n hx hb dX10_shuffled_30 rfl (lv_at hl 4 rfl) ?_
          refine lv_idiv hx hb dX10_shuffled_31 (by decide) ?_
          refine lv_topi (fun x_6 ex_6 => ?_)
          obtain rfl : x_6 = nI (j / 5) := ex_6.trans (pk_div (a := j) (d := 5) (by omega) (by omega) (by omega))
          refine lv_istore (lv' := [(5, .int (nI (j / 5))), (4, .int (nI (j % 5))), (3, .int (nI j)), (2, .ref q_1), (0, .ref q), (1, .int 5)]) hx hb dX10_shuffled_32 hl (by decide) rfl (fun ls hl => ?_)
          refine lv_iconst (v := 1) hx hb dX10_shuffled_34 (by decide) ?_
          refine lv_istore (lv' := [(6, .int 1), (5, .int (nI (j / 5))), (4, .int (nI (j % 5))), (3, .int (nI j)), (2, .ref q_1), (0, .ref q), (1, .int 5)]) hx hb dX10_shuffled_35 hl (by decide) rfl (fun ls hl => ?_)
          refine lv_iconst (v := 0) hx hb dX10_shuffled_37 (by decide) ?_
          refine lv_istore (lv' := [(7, .int 0), (6, .int 1), (5, .int (nI (j / 5))), (4, .int (nI (j % 5))), (3, .int (nI j)), (2, .ref q_1), (0, .ref q), (1, .int 5)]) hx hb dX10_shuffled_38 hl (by decide) rfl (fun ls hl => ?_)
          have loop_40 : ∀ (n_loop_40 : Nat) (k t : Nat) (g : Nat → Int64) (H : Heap) (locs : List Loc) (ls : Array Slot), 10 - k < n_loop_40 → (k ≤ 5 ∧ t = 5 ^ k) → va_P (dC, dI) fxCl [(q, .inl (cA, 3125, .inr (.inl f))), (q_1, .inl (cA_2, 3125, .inr (.inl g)))] H → va_D A [(q, .inl (cA, 3125, .inr (.inl f))), (q_1, .inl (cA_2, 3125, .inr (.inl g)))] → va_S A s.heap H locs → lv_has ls 10 [(7, .int (nI k)), (6, .int (nI t)), (4, .int (nI (j % 5))), (5, .int (nI (j / 5))), (3, .int (nI j)), (2, .ref q_1), (0, .ref q), (1, .int 5)] → W p l e (headSpec wsX10_shuffled ({ frames := 0, cells := 1, slots := 3125, locals := 0 } : Room)).room s m ([.ref q, .int 5] : List Value).toArray below meth c H locs 1 3125 (MQ below (va_Qr (fun _ : Unit => True) (fun _ q2 t => ∃ (cB : ClassId) (g : Nat → Int64), fx_en dC dI (A) [(q, .inl (cA, 3125, .inr (.inl f))), (q2, .inl (cB, 3125, .inr (.inl g)))] [(cA, .long), (cB, .long)] t) (A)) ([.ref q, .int 5] : List Value).toArray s 1 3125 A) (F0 m 40 ls []) := by
            intro n_loop_40
            induction n_loop_40 with
            | zero => intro k t g H locs ls hn; exact absurd hn (Nat.not_lt_zero _)
            | succ n_loop_40 ih_loop_40 =>
              intro k t g H locs ls hn_loop_40 hinv_loop_40 hP hD hS hl
              refine lv_iload hx hb dX10_shuffled_40 (lv_at hl 0 rfl) ?_
              refine lv_iload_n hx hb dX10_shuffled_42 rfl (lv_at hl 7 rfl) ?_
              refine lv_icmp_ge (tgt := 93) hx hb dX10_shuffled_43 (by decide) (fun c_40 => ?_) (fun c_40 => ?_)
              · skip
                refine lv_iinc (v := nI (j + 1)) (lv' := [(3, .int (nI (j + 1))), (7, .int (nI k)), (6, .int (nI t)), (4, .int (nI (j % 5))), (5, .int (nI (j / 5))), (2, .ref q_1), (0, .ref q), (1, .int 5)]) hx hb dX10_shuffled_93 hl (k := 4) rfl (nI_add j 1) (by decide) rfl (fun ls hl => ?_)
                refine lv_goto (tgt := 7) hx hb dX10_shuffled_96 (by decide) ?_
                exact ih_loop_7 (j + 1) g H locs ls (by omega) (by omega) (hP.sub [0, 1] rfl) (hD.sub [0, 1] (by decide) rfl) hS (lv_sub hl [0, 5, 6, 7] rfl)
              · skip
                have hk5 : k < 5 := fx_ge (n := 5) c_40 (by decide) (by omega)
                have h10 := fx_ten hinv_loop_40.2 hk5
                have htp : 0 < t ∧ t ≤ 625 := by omega
                have hB : (j / 5 / t * 5 + j % 5) * t + j / 5 % t < 3125 := by
                  rcases h10 with e | e | e | e | e <;> rw [e] <;> omega
                refine lv_iload hx hb dX10_shuffled_46 (lv_at hl 3 rfl) ?_
                refine lv_iload hx hb dX10_shuffled_48 (lv_at hl 1 rfl) ?_
                refine lv_irem hx hb dX10_shuffled_50 (nI_ne0 htp.1 (by omega)) ?_
                refine lv_topi (fun x_7 ex_7 => ?_)
                obtain rfl : x_7 = nI ((j / 5) % t) := ex_7.trans (pk_rem (a := j / 5) (d := t) (by omega) (by omega) (by omega))
                refine lv_istore (lv' := [(8, .int (nI ((j / 5) % t))), (7, .int (nI k)), (6, .int (nI t)), (4, .int (nI (j % 5))), (5, .int (nI (j / 5))), (3, .int (nI j)), (2, .ref q_1), (0, .ref q), (1, .int 5)]) hx hb dX10_shuffled_51 hl (by decide) rfl (fun ls hl => ?_)
                refine lv_iload hx hb dX10_shuffled_53 (lv_at hl 4 rfl) ?_
                refine lv_iload hx hb dX10_shuffled_55 (lv_at hl 2 rfl) ?_
                refine lv_idiv hx hb dX10_shuffled_57 (nI_ne0 htp.1 (by omega)) ?_
                refine lv_topi (fun x_8 ex_8 => ?_)
                obtain rfl : x_8 = nI ((j / 5) / t) := ex_8.trans (pk_div (a := j / 5) (d := t) (by omega) (by omega) (by omega))
                refine lv_istore (lv' := [(9, .int (nI ((j / 5) / t))), (8, .int (nI ((j / 5) % t))), (7, .int (nI k)), (6, .int (nI t)), (4, .int (nI (j % 5))), (5, .int (nI (j / 5))), (3, .int (nI j)), (2, .ref q_1), (0, .ref q), (1, .int 5)]) hx hb dX10_shuffled_58 hl (by decide) rfl (fun ls hl => ?_)
                refine lv_aload_n hx hb dX10_shuffled_60 rfl (lv_at hl 7 rfl) ?_
                refine lv_iload hx hb dX10_shuffled_61 (lv_at hl 0 rfl) ?_
                refine lv_iload_n hx hb dX10_shuffled_63 rfl (lv_at hl 9 rfl) ?_
                refine lv_imul hx hb dX10_shuffled_64 ?_
                refine lv_topi (fun x_9 ex_9 => ?_)
                obtain rfl : x_9 = nI (((j / 5) / t) * 5) := ex_9.trans (pk_mul ((j / 5) / t) 5)
                refine lv_iload hx hb dX10_shuffled_65 (lv_at hl 4 rfl) ?_
                refine lv_iadd hx hb dX10_shuffled_67 ?_
                refine lv_topi (fun x_10 ex_10 => ?_)
                obtain rfl : x_10 = nI ((((j / 5) / t) * 5) + (j % 5)) := ex_10.trans (nI_add (((j / 5) / t) * 5) (j % 5))
                refine lv_iload hx hb dX10_shuffled_68 (lv_at hl 3 rfl) ?_
                refine lv_imul hx hb dX10_shuffled_70 ?_
                refine lv_topi (fun x_11 ex_11 => ?_)
                obtain rfl : x_11 = nI (((((j / 5) / t) * 5) + (j % 5)) * t) := ex_11.trans (pk_mul ((((j / 5) / t) * 5) + (j % 5)) t)
                refine lv_iload hx hb dX10_shuffled_71 (lv_at hl 1 rfl) ?_
                refine lv_iadd hx hb dX10_shuffled_73 ?_
                refine lv_topi (fun x_12 ex_12 => ?_)
                obtain rfl : x_12 = nI ((((((j / 5) / t) * 5) + (j % 5)) * t) + ((j / 5) % t)) := ex_12.trans (nI_add (((((j / 5) / t) * 5) + (j % 5)) * t) ((j / 5) % t))
                refine lv_dup2_11 hx hb dX10_shuffled_74 rfl rfl ?_
                refine va_lald hx hb hK hP 1 1 rfl rfl (vp_in_nI (N := 3125) hB (by decide)) dX10_shuffled_75 ?_
                refine lv_topl (fun x_13 ex_13 => ?_)
                refine lv_aload_n hx hb dX10_shuffled_76 rfl (lv_at hl 8 rfl) ?_
                refine lv_iload_n hx hb dX10_shuffled_77 rfl (lv_at hl 6 rfl) ?_
                refine va_lald hx hb hK hP 0 0 rfl rfl (vp_in_nI (N := 3125) hj5 (by decide)) dX10_shuffled_78 ?_
                refine lv_topl (fun x_14 ex_14 => ?_)
                refine lv_ladd hx hb dX10_shuffled_79 ?_
                refine lv_topl (fun x_15 ex_15 => ?_)
                refine va_last hx hb hK hP hD hS 1 1 rfl rfl (vp_in_nI (N := 3125) hB (by decide)) dX10_shuffled_80 (fun H locs hP hD hS => ?_)
                obtain ⟨f_16, ef_16⟩ : ∃ g9 : Nat → Int64, g9 = vp_updL g (nI ((((((j / 5) / t) * 5) + (j % 5)) * t) + ((j / 5) % t))).toNatClampNeg x_15 := ⟨_, rfl⟩
                rw [← ef_16] at hP hD
                have hP : va_P (dC, dI) fxCl [(q, .inl (cA, 3125, .inr (.inl f))), (q_1, .inl (cA_2, 3125, .inr (.inl f_16)))] H := hP
                have hD : va_D A [(q, .inl (cA, 3125, .inr (.inl f))), (q_1, .inl (cA_2, 3125, .inr (.inl f_16)))] := hD
                refine lv_iload hx hb dX10_shuffled_81 (lv_at hl 3 rfl) ?_
                refine lv_iload_n hx hb dX10_shuffled_83 rfl (lv_at hl 9 rfl) ?_
                refine lv_imul hx hb dX10_shuffled_84 ?_
                refine lv_topi (fun x_17 ex_17 => ?_)
                obtain rfl : x_17 = nI (t * 5) := ex_17.trans (pk_mul t 5)
                refine lv_istore (lv' := [(6, .int (nI (t * 5))), (9, .int (nI ((j / 5) / t))), (8, .int (nI ((j / 5) % t))), (7, .int (nI k)), (4, .int (nI (j % 5))), (5, .int (nI (j / 5))), (3, .int (nI j)), (2, .ref q_1), (0, .ref q), (1, .int 5)]) hx hb dX10_shuffled_85 hl (by decide) rfl (fun ls hl => ?_)
                refine lv_iinc (v := nI (k + 1)) (lv' := [(7, .int (nI (k + 1))), (6, .int (nI (t * 5))), (9, .int (nI ((j / 5) / t))), (8, .int (nI ((j / 5) % t))), (4, .int (nI (j % 5))), (5, .int (nI (j / 5))), (3, .int (nI j)), (2, .ref q_1), (0, .ref q), (1, .int 5)]) hx hb dX10_shuffled_87 hl (k := 3) rfl (nI_add k 1) (by decide) rfl (fun ls hl => ?_)
                refine lv_goto (tgt := 40) hx hb dX10_shuffled_90 (by decide) ?_
                exact ih_loop_40 (k + 1) (t * 5) f_16 H locs ls (by omega) ⟨by omega, by rw [hinv_loop_40.2, Nat.pow_succ]⟩ (hP.sub [0, 1] rfl) (hD.sub [0, 1] (by decide) rfl) hS (lv_sub hl [0, 1, 4, 5, 6, 7, 8, 9] rfl)
          exact loop_40 11 0 1 g H locs ls (by omega) ⟨by omega, rfl⟩ (hP.sub [0, 1] rfl) (hD.sub [0, 1] (by decide) rfl) hS (lv_sub hl [0, 1, 3, 2, 4, 5, 6, 7] rfl)
        · skip
          refine lv_goto (tgt := 93) hx hb dX10_shuffled_21 (by decide) ?_
          refine lv_iinc (v := nI (j + 1)) (lv' := [(3, .int (nI (j + 1))), (2, .ref q_1), (0, .ref q), (1, .int 5)]) hx hb dX10_shuffled_93 hl (k := 0) rfl (nI_add j 1) (by decide) rfl (fun ls hl => ?_)
          refine lv_goto (tgt := 7) hx hb dX10_shuffled_96 (by decide) ?_
          exact ih_loop_7 (j + 1) g H locs ls (by omega) (by omega) (hP.sub [0, 1] rfl) (hD.sub [0, 1] (by decide) rfl) hS (lv_sub hl [0, 1, 2, 3] rfl)
  exact loop_7 4001 0 (fun _ => 0) H _ ls (by omega) (by omega) (hP.sub [0, 1] rfl) (hD.sub [0, 1] (by decide) rfl) hS (lv_sub hl [0, 1, 2, 3] rfl)
