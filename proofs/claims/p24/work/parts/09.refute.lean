/-! the script: 300 times far(5, 7, false) -/
def fx_w : List Int32 := [20, 5, 7, 0, 0, 0, 0]
def fx_xs : List Int32 := (List.replicate 300 fx_w).flatten
theorem fx_rep : ∀ (n k j : Nat), k < n → j < 7 → ((List.replicate n fx_w).flatten)[7 * k + j]? = fx_w[j]? := by
  intro n
  induction n with
  | zero => intro k j h; omega
  | succ n ih =>
    intro k j hk hj
    rw [List.replicate_succ, List.flatten_cons]
    cases k with
    | zero =>
      rw [List.getElem?_append_left (by show 7 * 0 + j < 7; omega)]
      rw [show 7 * 0 + j = j by omega]
    | succ k =>
      rw [List.getElem?_append_right (by show 7 ≤ 7 * (k + 1) + j; omega)]
      rw [show 7 * (k + 1) + j - fx_w.length = 7 * k + j by show 7 * (k + 1) + j - 7 = 7 * k + j; omega]
      exact ih k j (by omega) hj
theorem fx_len0 : ∀ n : Nat, ((List.replicate n fx_w).flatten).length = 7 * n := by
  intro n
  induction n with
  | zero => rfl
  | succ n ih =>
    rw [List.replicate_succ, List.flatten_cons, List.length_append, ih]
    show 7 + 7 * n = 7 * (n + 1)
    omega
theorem fx_len : fx_xs.length = 2100 := fx_len0 300
theorem fx_at (k : Nat) (hk : k < 300) : fx_xs.getD (7 * k) 0 = 20 ∧ fx_xs.getD (7 * k + 1) 0 = 5 ∧ fx_xs.getD (7 * k + 2) 0 = 7 ∧ fx_xs.getD (7 * k + 3) 0 = 0 := by
  have h : ∀ j, j < 7 → fx_xs.getD (7 * k + j) 0 = (fx_w[j]?).getD 0 := fun j hj => by
    rw [List.getD_eq_getElem?_getD]
    unfold fx_xs
    rw [fx_rep 300 k j hk hj]
  exact ⟨h 0 (by decide), h 1 (by decide), h 2 (by decide), h 3 (by decide)⟩
/-- places apart, at each the same number: so much at least is the sum -/
theorem fx_sum (z : Nat) : ∀ (xs ps : List Nat), ps.Nodup → (∀ p ∈ ps, xs[p]? = some z) → ps.length * z ≤ xs.sum := by
  intro xs
  induction xs with
  | nil =>
    intro ps _ h
    cases ps with
    | nil => simp
    | cons p ps => exact absurd (h p List.mem_cons_self) (by simp)
  | cons a xs ih =>
    intro ps hn h
    have hmap : ∀ qs : List Nat, qs.Nodup → (∀ p ∈ qs, 0 < p ∧ p ∈ ps) → qs.length * z ≤ xs.sum := by
      intro qs hq h2
      have h3 := ih (qs.map (· - 1)) (by
        rw [List.nodup_iff_pairwise_ne, List.pairwise_map]
        rw [List.nodup_iff_pairwise_ne] at hq
        refine List.Pairwise.imp_of_mem ?_ hq
        intro a b ha hb hab
        have h4 := (h2 a ha).1
        have h5 := (h2 b hb).1
        omega) (by
        intro p hp
        obtain ⟨q, hq1, rfl⟩ := List.mem_map.mp hp
        obtain ⟨h4, h5⟩ := h2 q hq1
        have h6 := h q h5
        cases q with
        | zero => omega
        | succ q => simpa using h6)
      rwa [List.length_map] at h3
    rw [List.sum_cons]
    by_cases h0 : 0 ∈ ps
    · have ha : a = z := by simpa using h 0 h0
      have h1 := hmap (ps.erase 0) (hn.erase 0) (fun p hp => by
        have h2 := (hn.mem_erase_iff).mp hp
        exact ⟨Nat.pos_of_ne_zero h2.1, h2.2⟩)
      rw [List.length_erase_of_mem h0] at h1
      have hpos : 0 < ps.length := List.length_pos_of_mem h0
      have e : ps.length * z = (ps.length - 1) * z + z := by
        conv => lhs; rw [show ps.length = (ps.length - 1) + 1 by omega]
        rw [Nat.add_mul, Nat.one_mul]
      omega
    · have h1 := hmap ps hn (fun p hp => ⟨Nat.pos_of_ne_zero (fun e => h0 (e ▸ hp)), hp⟩)
      omega
theorem fx_much {sz : Nat} {H : Heap} {L : List Nat} (h : fx_big sz H L) : L.length * 3125 ≤ ((H.toList.drop sz).map (·.slots.size)).sum := by
  have h1 := fx_sum 3125 ((H.toList.drop sz).map (·.slots.size)) (L.map (· - sz)) (by
    rw [List.nodup_iff_pairwise_ne, List.pairwise_map]
    have hq := h.1
    rw [List.nodup_iff_pairwise_ne] at hq
    refine List.Pairwise.imp_of_mem ?_ hq
    intro a b ha hb hab
    have h4 := (h.2 a ha).1
    have h5 := (h.2 b hb).1
    omega) (by
    intro p hp
    obtain ⟨q, hq1, rfl⟩ := List.mem_map.mp hp
    obtain ⟨h4, cell, h5, h6⟩ := h.2 q hq1
    rw [List.getElem?_map, List.getElem?_drop, show sz + (q - sz) = q by omega, Array.getElem?_toList, h5]
    simp [h6])
  rwa [List.length_map] at h1
set_option maxHeartbeats 4000000 in
theorem fx_walk (l : Launch) (b : Addr) : MetFree l x (headSpec (Jvm.Cond.code x code maxLocals ret :: tables_1) fx_room) (fun args s => args = #[.ref b] ∧ s.IntsAt b fx_xs ∧ (Jvm.Cond.and given_1 narrow_1).before args s = true) (fun _ _ _ _ _ => True) (fun _ s o t => ∃ L : List Nat, L.length = 2400 ∧ fx_big s.heap.size t.heap L) := by
  refine MetFree.of_bodyS (code := code) (maxLocals := maxLocals) (ret := ret) (by decide) ?_ ?_
  · intro args s m h hn
    obtain ⟨meth, c, h1, h2, h3, h4, h5, h6, -, -⟩ := Cond.code_spec hn (atoms_spec (ws := Jvm.Cond.code x code maxLocals ret :: tables_1) h _ List.mem_cons_self)
    exact ⟨meth, c, h1, h2, h3, h4, h5, h6⟩
  · intro p e s m args below meth c s₁ B hml0 hP _
    obtain ⟨rfl, hx, hgv⟩ := hP
    obtain ⟨scr, harrAt, hlist, hof, hsmall⟩ := hx
    obtain ⟨hcb, hkn, -, -⟩ := State.arrayAt?_spec harrAt
    have hown : s.vm.findClass RL = some m.cls := findClass_of_methodNamed B.named
    have hts0 : ∀ c ∈ (Jvm.Cond.code x code maxLocals ret :: tables_1), c.before #[Value.ref b] s = true := atoms_spec (ws := Jvm.Cond.code x code maxLocals ret :: tables_1) B.pre
    have hts : ∀ w ∈ lw_tbl, w.before #[Value.ref b] s = true := k2_hts_sels lw_privs (fun w hw => hts0 w (List.mem_cons_of_mem _ hw)) lw_privs_ok
    have hml : c.maxLocals = 8 := B.maxLocals_eq (hts0 _ List.mem_cons_self)
    have X₀ : Stand p l e fx_room s m #[Value.ref b] below meth c s₁ [] 0 0 := Stand.of_body B
    have hh0 : s₁.heap = s.heap := by rw [B.state]; rfl
    have hsz : scr.slots.size = 2100 := by rw [← Array.length_toList, hlist, List.length_map, fx_len]
    have hval : ∀ j : Nat, j < 2100 → scr.slots[j]? = some (.int (fx_xs.getD j 0)) := fun j hj => by
      rw [← Array.getElem?_toList, hlist]
      have h9 : j < fx_xs.length := by rw [fx_len]; exact hj
      simp [h9]
    have hbl : b < s.heap.size := (Array.getElem?_eq_some_iff.mp hcb).1
    have hX : va_X b 2100 (fun j => fx_xs.getD j 0) s s.heap := ⟨scr, hcb, hof, hkn, hsz, hval⟩
    have K : W p l e fx_room s m #[Value.ref b] below meth c s₁.heap [] 0 0 (fx_Z below s) (entryFrame m ([Value.ref b] : List Value).toArray 8) := by
      rw [hh0]
      exact fx_start l B.exec B.bytes B.returns hml hown hts hX hbl B.notSynchronized fx_at hgv
    obtain ⟨t, a1, o, b1, b2, b3⟩ := K s₁ rfl X₀
    exact ⟨t, o, a1, b1, b2, b3⟩
set_option maxHeartbeats 4000000 in
/-- THE ROOM: at a start with that script, on a machine with room enough, the law ends with more new slots than the claim allows -/
theorem fx_refute {l : Launch} {p : Program} {e : Env} {s : State} {m : MethodId} {b : Addr} {below : List Frame} (hflags : l.flags = flags0) (hlists : Lists l classFile x code maxLocals ret tables_1 room_1) (hadm : l.admits e) (hcas : FairCas e.choices) (hclk : FairClock e.choices)
    (hf : s.frames = Frame.invoking m #[Value.ref b] :: below) (hfit : argsFit s.vm m #[Value.ref b] = true) (hheap : heapFits s = true) (happ1 : (headSpec (Jvm.Cond.code x code maxLocals ret :: tables_1) room_1).applies x e.platform s = true)
    (happ2 : (headSpec (Jvm.Cond.code x code maxLocals ret :: tables_1) fx_room).applies x e.platform s = true) (hrest : rest_1_c.before #[Value.ref b] s = true) (hpre : (Jvm.Cond.and given_1 narrow_1).before #[Value.ref b] s = true) (hints : s.IntsAt b fx_xs) : ¬ Claimed_1_1 := by
  intro hC
  obtain ⟨n, o, h1, h2, h3, h4⟩ := hC l hflags hlists trivial p e hadm hcas hclk s m #[Value.ref b] below hf hfit hheap happ1 ⟨trivial, hrest, hpre⟩
  obtain ⟨n', o', g1, g2, g3, L, gL, gbig⟩ := fx_walk l b p e hadm hcas hclk s m _ below hf ((Spec.applies_iff_loose hf).mp happ2).1 ⟨rfl, hints, hpre⟩ trivial
  obtain ⟨rfl, rfl⟩ := the_end_unique h1 h3 g1 g3
  have hF := h4.2.1
  have hsum := hF.2.2.2.2.2.2.1
  have hm := fx_much gbig
  rw [gL] at hm
  have hm2 : 2400 * 3125 ≤ 7293033 := Nat.le_trans hm hsum
  omega
