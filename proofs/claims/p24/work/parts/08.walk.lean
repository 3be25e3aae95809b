/-! the law's walk over a script of 300 calls of far(5, 7, false) -/
def fx_room : Room := { frames := 2048, cells := 20000, slots := 13000000, locals := 84000 }
def fx_Z (below : List Frame) (s : State) : State → Prop := fun t => ∃ o, t.status = .running ∧ Ended t below o ∧ ∃ L : List Nat, L.length = 2400 ∧ fx_big s.heap.size t.heap L
theorem fx_keep {sz : Nat} {H H1 : Heap} {L : List Nat} {wc : va_W} (h : fx_big sz H L) (hk : ∀ q : Nat, q < H.size → ¬ va_A wc H.size q → H1[q]? = H[q]?) (hd : ∀ q ∈ L, q ∉ wc.map (·.1)) : fx_big sz H1 L := by
  refine ⟨h.1, fun q hq => ?_⟩
  obtain ⟨h1, cell, h2, h3⟩ := h.2 q hq
  have hlt : q < H.size := (Array.getElem?_eq_some_iff.mp h2).1
  refine ⟨h1, cell, ?_, h3⟩
  rw [hk q hlt, h2]
  rintro (⟨k, e, hk⟩ | hk)
  · exact hd q hq (List.mem_map.mpr ⟨(q, e), List.mem_of_getElem? hk, rfl⟩)
  · omega
theorem fx_app {sz sz2 : Nat} {H H1 : Heap} {L L2 : List Nat} (h0 : fx_big sz H L) (h1 : fx_big sz H1 L) (h2 : fx_big sz2 H1 L2) (hsz : H.size = sz2) (hle : sz ≤ sz2) : fx_big sz H1 (L ++ L2) := by
  have hlt : ∀ q ∈ L, q < sz2 := fun q hq => by
    obtain ⟨-, cell, h3, -⟩ := h0.2 q hq
    rw [← hsz]
    exact (Array.getElem?_eq_some_iff.mp h3).1
  refine ⟨List.nodup_append.mpr ⟨h1.1, h2.1, fun a ha b hb e => ?_⟩, fun q hq => ?_⟩
  · have h3 := hlt a ha
    have h4 := (h2.2 b hb).1
    omega
  · rcases List.mem_append.mp hq with hq | hq
    · exact h1.2 q hq
    · obtain ⟨h3, h4⟩ := h2.2 q hq
      exact ⟨Nat.le_trans hle h3, h4⟩
theorem fx_ret {p : Program} {l : Launch} {e : Env} {s : State} {m : MethodId} {below : List Frame} {meth : Method} {c : Code} {b cells slots : Nat} {locs : List Loc} (hx : p.tables.exec = Jvm.exec) (hb : c.code = code) (hr : meth.sig.returnType = ret) (hlocks : meth.locks = false) {pc : Nat} {H : Heap} {ls : Array Slot} (hdg : decode code pc = .ok (.ireturn, 1)) (L : List Nat) (hL : L.length = 2400) (hbig : fx_big s.heap.size H L) : W p l e fx_room s m #[Value.ref b] below meth c H locs cells slots (fx_Z below s) (F0 m pc ls [.int 1]) := by
  intro T hT X
  obtain ⟨fs, hret, hrun, hended, hW, hframe⟩ := X.leave (v := some (.int 1)) (hlocks := hlocks) (fun h => by rw [hr] at h; cases h)
  have hmeth' : T.vm.method? m = some meth := X.method'
  have hbig2 : fx_big s.heap.size (T.setFrames fs).heap L := by
    have e1 : (T.setFrames fs).heap = H := hT
    rw [e1]; exact hbig
  refine ⟨T.setFrames fs, ?_, .returned (some (.int 1)), hrun, hended, L, hL, hbig2⟩
  jvm_step X.here [X.here.top, hx, hb, hdg, hmeth', hr, ret, narrow_b1]
  (try refine ⟨rfl, ?_⟩); (try refine ⟨rfl, ?_⟩)
  first | (intro acts; rw [hret _ acts rfl rfl rfl]) | rw [hret _ _ rfl rfl rfl]
  exact Steps.refl _
set_option maxHeartbeats 8000000 in
set_option maxRecDepth 100000 in
theorem fx_loop {p : Program} {e : Env} {s : State} {m : MethodId} {below : List Frame} {meth : Method} {c : Code} (l : Launch) {b : Nat} {xs : Nat → Int32} (dC : Nat → ClassId) (dI : Nat → Nat → Nat) (hx : p.tables.exec = Jvm.exec) (hb : c.code = code) (hr : meth.sig.returnType = ret) (hml : c.maxLocals = 8) (hown : s.vm.findClass RL = some m.cls) (hts : ∀ w ∈ lw_tbl, w.before #[Value.ref b] s = true) (hX : va_X b 2100 xs s s.heap) (hbl : b < s.heap.size) (hlocks : meth.locks = false) (hxs : ∀ k, k < 300 → xs (7 * k) = 20 ∧ xs (7 * k + 1) = 5 ∧ xs (7 * k + 2) = 7 ∧ xs (7 * k + 3) = 0) (hnw : fx_nw s) : ∀ (n k : Nat) (L : List Nat) (x qd q mo o u1 u2 u3 u4 v1 v2 : Nat) (cA : ClassId) (f : Nat → Int64) (kk : Int64) (th : Int32) (H : Heap) (locs : List Loc) (ls : Array Slot), 600 - k < n → k ≤ 300 → L.length = 8 * k → fx_big s.heap.size H L → (∀ y ∈ L, y ∉ [x, qd, q, mo, o]) → va_K (dC, dI) fxCl [(cA, .long)] s → va_P (dC, dI) fxCl [(x, .inr (3, [.ref u1, .ref u2, .ref u3, .ref u4, .ref qd, .int 0, .int 0, .int 0])), (qd, .inr (0, [.ref q])), (q, .inl (cA, 6, .inr (.inl f))), (mo, .inr (6, [.int th, .int 0, .ref v1, .ref v2])), (o, .inr (4, [.long kk, .double 0, .null]))] H → va_D (fun q : Nat => s.heap.size ≤ q) [(x, .inr (3, [.ref u1, .ref u2, .ref u3, .ref u4, .ref qd, .int 0, .int 0, .int 0])), (qd, .inr (0, [.ref q])), (q, .inl (cA, 6, .inr (.inl f))), (mo, .inr (6, [.int th, .int 0, .ref v1, .ref v2])), (o, .inr (4, [.long kk, .double 0, .null]))] → va_S (fun q : Nat => s.heap.size ≤ q) s.heap H locs → lv_has ls 8 [(4, .int (nI (7 * k))), (0, .ref b), (1, .ref x), (2, .ref mo), (3, .ref o)] → W p l e fx_room s m #[Value.ref b] below meth c H locs (30 + 9 * k) (1100 + 25002 * k) (fx_Z below s) (F0 m 27 ls []) := by
  have hA : ∀ q : Nat, s.heap.size ≤ q → (fun q : Nat => s.heap.size ≤ q) q := fun _ h => h
  have hbA : ¬ (fun q : Nat => s.heap.size ≤ q) b := Nat.not_le.mpr hbl
  intro n
  induction n with
  | zero => intro k L x qd q mo o u1 u2 u3 u4 v1 v2 cA f kk th H locs ls hn; exact absurd hn (Nat.not_lt_zero _)
  | succ n ih =>
    intro k L x qd q mo o u1 u2 u3 u4 v1 v2 cA f kk th H locs ls hn hk hL hbig hdis hK hP hD hS hl
    refine lv_iload hx hb dL_law_27 (lv_at hl 0 rfl) ?_
    refine lv_aload_n hx hb dL_law_29 rfl (lv_at hl 1 rfl) ?_
    refine va_slen hx hb hX hbl hbA hS dL_law_30 ?_
    refine lv_bipush (v := 7) hx hb dL_law_31 (by decide) ?_
    refine lv_isub hx hb dL_law_33 ?_
    refine lv_topi (fun x_1 ex_1 => ?_)
    obtain rfl : x_1 = nI 2093 := ex_1.trans (by decide)
    refine lv_icmp_gt (tgt := 1931) hx hb dL_law_34 (by decide) (fun c_0 => ?_) (fun c_0 => ?_)
    · skip
      have hk9 : k = 300 := by
        have h := (nI_ltI (a := 2093) (b := 7 * k) (by decide) (by omega)).mp c_0
        omega
      refine lv_iconst (v := 1) hx hb dL_law_1931 (by decide) ?_
      exact fx_ret hx hb hr hlocks dL_law_1932 L (by omega) hbig
    · skip
      have hk5 : k < 300 := by
        have h := fx_gt (n := 2093) (k := 7 * k) c_0 (by decide) (by omega)
        omega
      refine lv_aload_n hx hb dL_law_37 rfl (lv_at hl 1 rfl) ?_
      refine lv_iload hx hb dL_law_38 (lv_at hl 0 rfl) ?_
      refine va_sld hx hb hX hbl hbA hS (vp_in_nI (N := 2100) (by omega) (by decide)) dL_law_40 ?_
      refine lv_topi (fun x_2 ex_2 => ?_)
      obtain rfl : x_2 = (20 : Int32) := ex_2.trans (by rw [nI_clamp (by omega)]; exact (hxs k hk5).1)
      refine lv_bipush (v := 31) hx hb dL_law_41 (by decide) ?_
      refine lv_iand hx hb dL_law_43 ?_
      refine lv_topi (fun x_3 ex_3 => ?_)
      obtain rfl : x_3 = (20 : Int32) := ex_3.trans (by decide)
      refine lv_tableIn (off := 1514) (tgt := 1558) hx hb dL_law_44 (by decide) (by decide) (by decide) (by decide) ?_
      refine lv_aload_n hx hb dL_law_1558 rfl (lv_at hl 2 rfl) ?_
      refine lv_aload_n hx hb dL_law_1559 rfl (lv_at hl 1 rfl) ?_
      refine lv_iload hx hb dL_law_1560 (lv_at hl 0 rfl) ?_
      refine lv_iconst (v := 1) hx hb dL_law_1562 (by decide) ?_
      refine lv_iadd hx hb dL_law_1563 ?_
      refine lv_topi (fun x_4 ex_4 => ?_)
      obtain rfl : x_4 = nI ((7 * k) + 1) := ex_4.trans (nI_add (7 * k) 1)
      refine va_sld hx hb hX hbl hbA hS (vp_in_nI (N := 2100) (by omega) (by decide)) dL_law_1564 ?_
      refine lv_topi (fun x_5 ex_5 => ?_)
      obtain rfl : x_5 = (5 : Int32) := ex_5.trans (by rw [nI_clamp (by omega)]; exact (hxs k hk5).2.1)
      refine lv_aload_n hx hb dL_law_1565 rfl (lv_at hl 1 rfl) ?_
      refine lv_iload hx hb dL_law_1566 (lv_at hl 0 rfl) ?_
      refine lv_iconst (v := 2) hx hb dL_law_1568 (by decide) ?_
      refine lv_iadd hx hb dL_law_1569 ?_
      refine lv_topi (fun x_6 ex_6 => ?_)
      obtain rfl : x_6 = nI ((7 * k) + 2) := ex_6.trans (nI_add (7 * k) 2)
      refine va_sld hx hb hX hbl hbA hS (vp_in_nI (N := 2100) (by omega) (by decide)) dL_law_1570 ?_
      refine lv_topi (fun x_7 ex_7 => ?_)
      obtain rfl : x_7 = (7 : Int32) := ex_7.trans (by rw [nI_clamp (by omega)]; exact (hxs k hk5).2.2.1)
      refine lv_aload_n hx hb dL_law_1571 rfl (lv_at hl 1 rfl) ?_
      refine lv_iload hx hb dL_law_1572 (lv_at hl 0 rfl) ?_
      refine lv_iconst (v := 3) hx hb dL_law_1574 (by decide) ?_
      refine lv_iadd hx hb dL_law_1575 ?_
      refine lv_topi (fun x_8 ex_8 => ?_)
      obtain rfl : x_8 = nI ((7 * k) + 3) := ex_8.trans (nI_add (7 * k) 3)
      refine va_sld hx hb hX hbl hbA hS (vp_in_nI (N := 2100) (by omega) (by decide)) dL_law_1576 ?_
      refine lv_topi (fun x_9 ex_9 => ?_)
      obtain rfl : x_9 = (0 : Int32) := ex_9.trans (by rw [nI_clamp (by omega)]; exact (hxs k hk5).2.2.2)
      refine lv_if_eq (tgt := 1584) hx hb dL_law_1577 (by decide) (fun _ => ?_) (fun c => absurd (by decide) c)
      refine lv_iconst (v := 0) hx hb dL_law_1584 (by decide) ?_
      refine lv_aload_n hx hb dL_law_1585 rfl (lv_at hl 4 rfl) ?_
      have hPc := hP.sub (ws' := [(x, .inr (3, [.ref u1, .ref u2, .ref u3, .ref u4, .ref qd, .int 0, .int 0, .int 0])), (qd, .inr (0, [.ref q])), (q, .inl (cA, 6, .inr (.inl f))), (o, .inr (4, [.long kk, .double 0, .null]))]) [0, 1, 2, 4] rfl
      have hDc := hD.sub (ws' := [(x, .inr (3, [.ref u1, .ref u2, .ref u3, .ref u4, .ref qd, .int 0, .int 0, .int 0])), (qd, .inr (0, [.ref q])), (q, .inl (cA, 6, .inr (.inl f))), (o, .inr (4, [.long kk, .double 0, .null]))]) [0, 1, 2, 4] (by decide) rfl
      have hKc := hK.sub (tys' := [(cA, .long)]) [0] rfl
      have hFc := va_free (wc := [(x, .inr (3, [.ref u1, .ref u2, .ref u3, .ref u4, .ref qd, .int 0, .int 0, .int 0])), (qd, .inr (0, [.ref q])), (q, .inl (cA, 6, .inr (.inl f))), (o, .inr (4, [.long kk, .double 0, .null]))]) hD hS hA [0, 1, 2, 4] rfl
      refine va_calli (vx_runSW (As := [.ref x, .int 5, .int 7, .int 0, .ref o]) (rest := []) ⟨hx, hb, hml, hown, hts⟩ (c_L_far l dC dI x qd q o u1 u2 u3 u4 0 kk cA f H.size) (vx_cwSW (hh := [(0, 12, 15, 19)]) 5 hts fx_gL_far rfl rfl rfl (by decide +kernel) ⟨Nat.le_of_ble_eq_true rfl, Nat.le_of_ble_eq_true rfl⟩) (fx_preS hPc hKc hDc hnw) rfl rfl hl.1 rfl (lv_room (Nat.le_of_ble_eq_true rfl)) dL_law_1586 ⟨(show _ ≤ 20000 from by omega), (show _ ≤ 13000000 from by omega)⟩) hS (fun q _ h => hFc q h) hFc (fun r_12 u t H1 locs ht hvm hw hB hz1 hk1 hS => ?_)
      obtain ⟨k_10, f_11, hP1, hK1, hD1⟩ := hB
      rw [ht] at hP1
      have hK1 := va_K.moved hvm.symm hK1
      obtain ⟨hP, hD⟩ := va_join (wr := [(mo, .inr (6, [.int th, .int 0, .ref v1, .ref v2]))]) (w1 := [(x, .inr (3, [.ref u1, .ref u2, .ref u3, .ref u4, .ref qd, .int 0, .int 0, .int 0])), (qd, .inr (0, [.ref q])), (q, .inl (cA, 6, .inr (.inl f_11))), (o, .inr (4, [.long k_10, .double 0, .null]))]) hP hD [0, 1, 2, 4] [3] rfl rfl (by decide) (by decide) hk1 hFc hP1 hD1
      have hK := (hK.sub (tys' := []) [] rfl).app hK1
      have hbig := fx_keep hbig hk1 (fun y hy => by
        have h := hdis y hy
        simp only [List.mem_cons, List.not_mem_nil, or_false, not_or, List.map_cons, List.map_nil] at h ⊢
        omega)
      generalize H1 = H at hP hS hbig ⊢
      have hP : va_P (dC, dI) fxCl [(mo, .inr (6, [.int th, .int 0, .ref v1, .ref v2])), (x, .inr (3, [.ref u1, .ref u2, .ref u3, .ref u4, .ref qd, .int 0, .int 0, .int 0])), (qd, .inr (0, [.ref q])), (q, .inl (cA, 6, .inr (.inl f_11))), (o, .inr (4, [.long k_10, .double 0, .null]))] H := hP
      have hD : va_D (fun q : Nat => s.heap.size ≤ q) [(mo, .inr (6, [.int th, .int 0, .ref v1, .ref v2])), (x, .inr (3, [.ref u1, .ref u2, .ref u3, .ref u4, .ref qd, .int 0, .int 0, .int 0])), (qd, .inr (0, [.ref q])), (q, .inl (cA, 6, .inr (.inl f_11))), (o, .inr (4, [.long k_10, .double 0, .null]))] := hD
      have hK : va_K (dC, dI) fxCl [(cA, .long)] s := hK
      refine lv_istore (lv' := [(5, .int r_12), (4, .int (nI (7 * k))), (0, .ref b), (1, .ref x), (2, .ref mo), (3, .ref o)]) hx hb dL_law_1589 hl (by decide) rfl (fun ls hl => ?_)
      refine lv_aload_n hx hb dL_law_1591 rfl (lv_at hl 4 rfl) ?_
      refine lv_aload_n hx hb dL_law_1592 rfl (lv_at hl 2 rfl) ?_
      refine lv_iload hx hb dL_law_1593 (lv_at hl 1 rfl) ?_
      refine lv_iconst (v := 1) hx hb dL_law_1595 (by decide) ?_
      refine lv_iadd hx hb dL_law_1596 ?_
      refine lv_topi (fun x_13 ex_13 => ?_)
      obtain rfl : x_13 = nI ((7 * k) + 1) := ex_13.trans (nI_add (7 * k) 1)
      refine va_sld hx hb hX hbl hbA hS (vp_in_nI (N := 2100) (by omega) (by decide)) dL_law_1597 ?_
      refine lv_topi (fun x_14 ex_14 => ?_)
      obtain rfl : x_14 = (5 : Int32) := ex_14.trans (by rw [nI_clamp (by omega)]; exact (hxs k hk5).2.1)
      refine lv_aload_n hx hb dL_law_1598 rfl (lv_at hl 2 rfl) ?_
      refine lv_iload hx hb dL_law_1599 (lv_at hl 1 rfl) ?_
      refine lv_iconst (v := 2) hx hb dL_law_1601 (by decide) ?_
      refine lv_iadd hx hb dL_law_1602 ?_
      refine lv_topi (fun x_15 ex_15 => ?_)
      obtain rfl : x_15 = nI ((7 * k) + 2) := ex_15.trans (nI_add (7 * k) 2)
      refine va_sld hx hb hX hbl hbA hS (vp_in_nI (N := 2100) (by omega) (by decide)) dL_law_1603 ?_
      refine lv_topi (fun x_16 ex_16 => ?_)
      obtain rfl : x_16 = (7 : Int32) := ex_16.trans (by rw [nI_clamp (by omega)]; exact (hxs k hk5).2.2.1)
      refine lv_aload_n hx hb dL_law_1604 rfl (lv_at hl 2 rfl) ?_
      refine lv_iload hx hb dL_law_1605 (lv_at hl 1 rfl) ?_
      refine lv_iconst (v := 3) hx hb dL_law_1607 (by decide) ?_
      refine lv_iadd hx hb dL_law_1608 ?_
      refine lv_topi (fun x_17 ex_17 => ?_)
      obtain rfl : x_17 = nI ((7 * k) + 3) := ex_17.trans (nI_add (7 * k) 3)
      refine va_sld hx hb hX hbl hbA hS (vp_in_nI (N := 2100) (by omega) (by decide)) dL_law_1609 ?_
      refine lv_topi (fun x_18 ex_18 => ?_)
      obtain rfl : x_18 = (0 : Int32) := ex_18.trans (by rw [nI_clamp (by omega)]; exact (hxs k hk5).2.2.2)
      refine lv_if_eq (tgt := 1617) hx hb dL_law_1610 (by decide) (fun _ => ?_) (fun c => absurd (by decide) c)
      refine lv_iconst (v := 0) hx hb dL_law_1617 (by decide) ?_
      have hszle : s.heap.size ≤ H.size := hS.1
      have hlt_x : x < H.size := (hP 1 _ rfl).lt
      have hlt_qd : qd < H.size := (hP 2 _ rfl).lt
      have hlt_q : q < H.size := (hP 3 _ rfl).lt
      have hlt_mo : mo < H.size := (hP 0 _ rfl).lt
      have hlt_o : o < H.size := (hP 4 _ rfl).lt
      have hPc := hP.sub (ws' := [(mo, .inr (6, [.int th, .int 0, .ref v1, .ref v2]))]) [0] rfl
      have hDc := hD.sub (ws' := [(mo, .inr (6, [.int th, .int 0, .ref v1, .ref v2]))]) [0] (by decide) rfl
      have hKc := hK.sub (tys' := []) [] rfl
      have hFc := va_free (wc := [(mo, .inr (6, [.int th, .int 0, .ref v1, .ref v2]))]) hD hS hA [0] rfl
      refine va_calll (va_runV (As := [.int 5, .int 7, .int 0]) (rest := []) ⟨hx, hb, hml, hown, hts⟩ (c_X10_far l dC dI mo v1 v2 th 0 0 H.size) (cwV 3 hts fx_gX10_far rfl rfl rfl (by decide +kernel) ⟨Nat.le_of_ble_eq_true rfl, Nat.le_of_ble_eq_true rfl⟩) (fx_preV hPc hKc hDc hnw rfl rfl) rfl rfl hl.1 rfl (lv_room (Nat.le_of_ble_eq_true rfl)) dL_law_1618 ⟨(show _ ≤ 20000 from by omega), (show _ ≤ 13000000 from by omega)⟩) hS (fun q _ h => hFc q h) hFc (fun r_22 u t H1 locs ht hvm hw hB hz1 hk1 hS => ?_)
      obtain ⟨L_19, hl_20, hg_21, hP1, hK1, hD1⟩ := hB
      rw [ht] at hP1
      have hK1 := va_K.moved hvm.symm hK1
      obtain ⟨hP, hD⟩ := va_join (wr := [(x, .inr (3, [.ref u1, .ref u2, .ref u3, .ref u4, .ref qd, .int 0, .int 0, .int 0])), (qd, .inr (0, [.ref q])), (q, .inl (cA, 6, .inr (.inl f_11))), (o, .inr (4, [.long k_10, .double 0, .null]))]) (w1 := [(mo, .inr (6, [.int 0, .int 0, .ref v1, .ref v2]))]) hP hD [0] [1, 2, 3, 4] rfl rfl (by decide) (by decide) hk1 hFc hP1 hD1
      have hK := (hK.sub (tys' := [(cA, .long)]) [0] rfl).app hK1
      rw [ht] at hg_21
      have hbig := fx_app hbig (fx_keep hbig hk1 (fun y hy => by
        have h := hdis y hy
        simp only [List.mem_cons, List.not_mem_nil, or_false, not_or, List.map_cons, List.map_nil] at h ⊢
        omega)) hg_21 rfl hszle
      have hdis2 : ∀ y ∈ L ++ L_19, y ∉ [x, qd, q, mo, o] := fun y hy => by
        rcases List.mem_append.mp hy with hy | hy
        · exact hdis y hy
        · have h8 := (hg_21.2 y hy).1
          simp only [List.mem_cons, List.not_mem_nil, or_false, not_or]
          omega
      generalize H1 = H at hP hS hbig ⊢
      have hP : va_P (dC, dI) fxCl [(x, .inr (3, [.ref u1, .ref u2, .ref u3, .ref u4, .ref qd, .int 0, .int 0, .int 0])), (qd, .inr (0, [.ref q])), (q, .inl (cA, 6, .inr (.inl f_11))), (o, .inr (4, [.long k_10, .double 0, .null])), (mo, .inr (6, [.int 0, .int 0, .ref v1, .ref v2]))] H := hP
      have hD : va_D (fun q : Nat => s.heap.size ≤ q) [(x, .inr (3, [.ref u1, .ref u2, .ref u3, .ref u4, .ref qd, .int 0, .int 0, .int 0])), (qd, .inr (0, [.ref q])), (q, .inl (cA, 6, .inr (.inl f_11))), (o, .inr (4, [.long k_10, .double 0, .null])), (mo, .inr (6, [.int 0, .int 0, .ref v1, .ref v2]))] := hD
      have hK : va_K (dC, dI) fxCl [(cA, .long)] s := hK
      refine W.widen (k := 30 + 9 * (k + 1)) (n := 1100 + 25002 * (k + 1)) (by omega) (by omega) ?_
      refine lv_lstore (lv' := [(6, .long r_22), (5, .int r_12), (4, .int (nI (7 * k))), (0, .ref b), (1, .ref x), (2, .ref mo), (3, .ref o)]) hx hb dL_law_1621 hl (by decide) rfl (fun ls hl => ?_)
      refine lv_goto (tgt := 1925) hx hb dL_law_1623 (by decide) ?_
      refine lv_iinc (v := nI ((7 * k) + 7)) (lv' := [(4, .int (nI ((7 * k) + 7))), (6, .long r_22), (5, .int r_12), (0, .ref b), (1, .ref x), (2, .ref mo), (3, .ref o)]) hx hb dL_law_1925 hl (k := 2) rfl (nI_add (7 * k) 7) (by decide) rfl (fun ls hl => ?_)
      refine lv_goto (tgt := 27) hx hb dL_law_1928 (by decide) ?_
      exact ih (k + 1) (L ++ L_19) x qd q mo o u1 u2 u3 u4 v1 v2 cA f_11 k_10 0 H locs ls (by omega) (by omega) (by rw [List.length_append, hl_20]; omega) hbig hdis2 (hK.sub [0] rfl) (hP.sub [0, 1, 2, 4, 3] rfl) (hD.sub [0, 1, 2, 4, 3] (by decide) rfl) hS (lv_sub hl [0, 3, 4, 5, 6] rfl)
set_option maxHeartbeats 8000000 in
set_option maxRecDepth 100000 in
theorem fx_start {p : Program} {e : Env} {s : State} {m : MethodId} {below : List Frame} {meth : Method} {c : Code} (l : Launch) {b : Nat} {xs : Nat → Int32} (hx : p.tables.exec = Jvm.exec) (hb : c.code = code) (hr : meth.sig.returnType = ret) (hml : c.maxLocals = 8) (hown : s.vm.findClass RL = some m.cls) (hts : ∀ w ∈ lw_tbl, w.before #[Value.ref b] s = true) (hX : va_X b 2100 xs s s.heap) (hbl : b < s.heap.size) (hlocks : meth.locks = false) (hxs : ∀ k, k < 300 → xs (7 * k) = 20 ∧ xs (7 * k + 1) = 5 ∧ xs (7 * k + 2) = 7 ∧ xs (7 * k + 3) = 0) (hgv : (Jvm.Cond.and given_1 narrow_1).before #[Value.ref b] s = true) : W p l e fx_room s m #[Value.ref b] below meth c s.heap [] 0 0 (fx_Z below s) (entryFrame m ([Value.ref b] : List Value).toArray 8) := by
  have hnw := fx_nwof hts
  have hA : ∀ q : Nat, s.heap.size ≤ q → (fun q : Nat => s.heap.size ≤ q) q := fun _ h => h
  obtain ⟨c0, iS0, hKn0⟩ := u_known (C := RX0) (T := TX0) (N := 1) (n := 1) hts fx_iX0 (hts (.instantiable RX0 1) (by decide +kernel))
  obtain ⟨c1, iS1, hKn1⟩ := u_known (C := RX1) (T := TX1) (N := 9) (n := 9) hts fx_iX1 (hts (.instantiable RX1 9) (by decide +kernel))
  obtain ⟨c2, iS2, hKn2⟩ := u_known (C := RX3) (T := TX3) (N := 2) (n := 2) hts fx_iX3 (hts (.instantiable RX3 2) (by decide +kernel))
  obtain ⟨c3, iS3, hKn3⟩ := u_known (C := RX5) (T := TX5) (N := 8) (n := 8) hts fx_iX5 (hts (.instantiable RX5 8) (by decide +kernel))
  obtain ⟨c4, iS4, hKn4⟩ := u_known (C := RX6) (T := TX6) (N := 3) (n := 3) hts fx_iX6 (hts (.instantiable RX6 3) (by decide +kernel))
  obtain ⟨c5, iS5, hKn5⟩ := u_known (C := RX8) (T := TX8) (N := 2) (n := 2) hts fx_iX8 (hts (.instantiable RX8 2) (by decide +kernel))
  obtain ⟨c6, iS6, hKn6⟩ := u_known (C := RX10) (T := TX10) (N := 4) (n := 4) hts fx_iX10 (hts (.instantiable RX10 4) (by decide +kernel))
  obtain ⟨c7, iS7, hKn7⟩ := u_known (C := RJx4a65c) (T := TJx4a65c) (N := 3) (n := 3) hts fx_iJx4a65c (hts (.instantiable RJx4a65c 3) (by decide +kernel))
  obtain ⟨dC, dI, hKc⟩ : ∃ (dC : Nat → ClassId) (dI : Nat → Nat → Nat), ∀ (k : Nat) (q : vw_C), fxCl[k]? = some q → u_Kn s q.1 q.2.1 q.2.2 (dC k) (dI k) := by
    refine ⟨fun k => match k with | 0 => c0 | 1 => c1 | 2 => c2 | 3 => c3 | 4 => c4 | 5 => c5 | 6 => c6 | _ => c7, fun k => match k with | 0 => iS0 | 1 => iS1 | 2 => iS2 | 3 => iS3 | 4 => iS4 | 5 => iS5 | 6 => iS6 | _ => iS7, ?_⟩
    intro k q hq
    match k, hq with
    | 0, hq => cases hq; exact hKn0
    | 1, hq => cases hq; exact hKn1
    | 2, hq => cases hq; exact hKn2
    | 3, hq => cases hq; exact hKn3
    | 4, hq => cases hq; exact hKn4
    | 5, hq => cases hq; exact hKn5
    | 6, hq => cases hq; exact hKn6
    | 7, hq => cases hq; exact hKn7
    | k + 8, hq => simp [fxCl] at hq
  obtain ⟨H, hHe⟩ : ∃ H, H = s.heap := ⟨_, rfl⟩
  refine fx_h hHe ?_
  have hS : va_S (fun q : Nat => s.heap.size ≤ q) s.heap H [] := by rw [hHe]; exact va_S.rf
  have hK : va_K (dC, dI) fxCl [] s := ⟨hKc, fun k q h => by simp at h⟩
  have hP : va_P (dC, dI) fxCl [] H := fun k q h => by simp at h
  have hD : va_D (fun q : Nat => s.heap.size ≤ q) [] := ⟨fun i j p q h => by simp at h, fun k q h => by simp at h⟩
  have hl := lv_entry ([.ref b]) (n := 8) (Nat.le_of_ble_eq_true rfl)
  rw [lg_entry_eq]
  generalize (lg_sl ([.ref b]) ++ List.replicate (8 - (lg_sl ([.ref b])).length) Slot.unset).toArray = ls at hl ⊢
  have hl : lv_has ls 8 [(0, .ref b)] := hl
  rcases fx_Zof hts hgv with hZ | ⟨tz, hZ⟩
  · refine va_new (ci := 3) (fs := [.null, .null, .null, .null, .null, .int 0, .int 0, .int 0]) (C := RX5) (T := TX5) (N := 8) hx hb hts fx_iX5 tyX5 tyX5_ok hown (hts (.classLink RL 8 RX5) (by decide +kernel)) (hts (.instantiable RX5 8) (by decide +kernel)) (hts (.initialized RX5) (by decide +kernel)) hK hP hD hS hA rfl (fun j hj => by rcases (show j = 0 ∨ j = 1 ∨ j = 2 ∨ j = 3 ∨ j = 4 ∨ j = 5 ∨ j = 6 ∨ j = 7 by omega) with rfl | rfl | rfl | rfl | rfl | rfl | rfl | rfl <;> rfl) (Nat.le_of_ble_eq_true rfl) (Nat.le_of_ble_eq_true rfl) dL_law_0 (fun q_1 H hP hD hS => ?_)
    refine W.widen (k := 1) (n := 8) (Nat.le_of_ble_eq_true rfl) (Nat.le_of_ble_eq_true rfl) ?_
    have hP : va_P (dC, dI) fxCl [(q_1, .inr (3, [.null, .null, .null, .null, .null, .int 0, .int 0, .int 0]))] H := hP
    have hD : va_D (fun q : Nat => s.heap.size ≤ q) [(q_1, .inr (3, [.null, .null, .null, .null, .null, .int 0, .int 0, .int 0]))] := hD
    refine lv_dup hx hb dL_law_3 rfl ?_
    have hPc := hP.sub (ws' := [(q_1, .inr (3, [.null, .null, .null, .null, .null, .int 0, .int 0, .int 0]))]) [0] rfl
    have hDc := hD.sub (ws' := [(q_1, .inr (3, [.null, .null, .null, .null, .null, .int 0, .int 0, .int 0]))]) [0] (by decide) rfl
    have hKc := hK.sub (tys' := []) [] rfl
    have hFc := va_free (wc := [(q_1, .inr (3, [.null, .null, .null, .null, .null, .int 0, .int 0, .int 0]))]) hD hS hA [0] rfl
    refine va_callv (va_runI (As := []) (rest := [.ref q_1]) ⟨hx, hb, hml, hown, hts⟩ (c_X5_init l dC dI q_1 H.size) (cwI 0 hts fx_gX5_init rfl rfl rfl (hts (.initialized RX5) (by decide +kernel)) (hts (.methodLink RL 128 yX5_init) (by decide +kernel)) (hts (.instanceMethod yX5_init) (by decide +kernel)) rfl (by decide +kernel) ⟨Nat.le_of_ble_eq_true rfl, Nat.le_of_ble_eq_true rfl⟩) (fx_preS hPc hKc hDc hnw) rfl rfl hl.1 rfl (lv_room (Nat.le_of_ble_eq_true rfl)) dL_law_4 ⟨(Nat.le_of_ble_eq_true rfl), (Nat.le_of_ble_eq_true rfl)⟩) hS (fun q _ h => hFc q h) hFc (fun u t H1 locs ht hvm hw hB hz1 hk1 hS => ?_)
    obtain ⟨u_2, u_3, u_4, u_5, qd_6, q_7, cA_8, f_9, hP1, hK1, hD1⟩ := hB
    rw [ht] at hP1
    have hK1 := va_K.moved hvm.symm hK1
    obtain ⟨hP, hD⟩ := va_join (wr := []) (w1 := [(q_1, .inr (3, [.ref u_2, .ref u_3, .ref u_4, .ref u_5, .ref qd_6, .int 0, .int 0, .int 0])), (qd_6, .inr (0, [.ref q_7])), (q_7, .inl (cA_8, 6, .inr (.inl f_9)))]) hP hD [0] [] rfl rfl (by decide) (by decide) hk1 hFc hP1 hD1
    have hK := (hK.sub (tys' := []) [] rfl).app hK1
    generalize H1 = H at hP hS ⊢
    have hP : va_P (dC, dI) fxCl [(q_1, .inr (3, [.ref u_2, .ref u_3, .ref u_4, .ref u_5, .ref qd_6, .int 0, .int 0, .int 0])), (qd_6, .inr (0, [.ref q_7])), (q_7, .inl (cA_8, 6, .inr (.inl f_9)))] H := hP
    have hD : va_D (fun q : Nat => s.heap.size ≤ q) [(q_1, .inr (3, [.ref u_2, .ref u_3, .ref u_4, .ref u_5, .ref qd_6, .int 0, .int 0, .int 0])), (qd_6, .inr (0, [.ref q_7])), (q_7, .inl (cA_8, 6, .inr (.inl f_9)))] := hD
    have hK : va_K (dC, dI) fxCl [(cA_8, .long)] s := hK
    refine W.widen (k := 15) (n := 1012) (Nat.le_of_ble_eq_true rfl) (Nat.le_of_ble_eq_true rfl) ?_
    refine lv_astore_n (lv' := [(1, .ref q_1), (0, .ref b)]) hx hb dL_law_7 rfl hl (by decide) rfl (fun ls hl => ?_)
    refine va_new (ci := 6) (fs := [.int 0, .int 0, .null, .null]) (C := RX10) (T := TX10) (N := 4) hx hb hts fx_iX10 tyX10 tyX10_ok hown (hts (.classLink RL 129 RX10) (by decide +kernel)) (hts (.instantiable RX10 4) (by decide +kernel)) (hts (.initialized RX10) (by decide +kernel)) hK hP hD hS hA rfl (fun j hj => by rcases (show j = 0 ∨ j = 1 ∨ j = 2 ∨ j = 3 by omega) with rfl | rfl | rfl | rfl <;> rfl) (Nat.le_of_ble_eq_true rfl) (Nat.le_of_ble_eq_true rfl) dL_law_8 (fun q_10 H hP hD hS => ?_)
    refine W.widen (k := 16) (n := 1016) (Nat.le_of_ble_eq_true rfl) (Nat.le_of_ble_eq_true rfl) ?_
    have hP : va_P (dC, dI) fxCl [(q_1, .inr (3, [.ref u_2, .ref u_3, .ref u_4, .ref u_5, .ref qd_6, .int 0, .int 0, .int 0])), (qd_6, .inr (0, [.ref q_7])), (q_7, .inl (cA_8, 6, .inr (.inl f_9))), (q_10, .inr (6, [.int 0, .int 0, .null, .null]))] H := hP
    have hD : va_D (fun q : Nat => s.heap.size ≤ q) [(q_1, .inr (3, [.ref u_2, .ref u_3, .ref u_4, .ref u_5, .ref qd_6, .int 0, .int 0, .int 0])), (qd_6, .inr (0, [.ref q_7])), (q_7, .inl (cA_8, 6, .inr (.inl f_9))), (q_10, .inr (6, [.int 0, .int 0, .null, .null]))] := hD
    refine lv_dup hx hb dL_law_11 rfl ?_
    have hPc := hP.sub (ws' := [(q_10, .inr (6, [.int 0, .int 0, .null, .null]))]) [3] rfl
    have hDc := hD.sub (ws' := [(q_10, .inr (6, [.int 0, .int 0, .null, .null]))]) [3] (by decide) rfl
    have hKc := hK.sub (tys' := []) [] rfl
    have hFc := va_free (wc := [(q_10, .inr (6, [.int 0, .int 0, .null, .null]))]) hD hS hA [3] rfl
    refine va_callv (va_runI (As := []) (rest := [.ref q_10]) ⟨hx, hb, hml, hown, hts⟩ (c_X10_init_n l dC dI q_10 H.size) (cwI 0 hts fx_gX10_init rfl rfl rfl (hts (.initialized RX10) (by decide +kernel)) (hts (.methodLink RL 131 yX10_init) (by decide +kernel)) (hts (.instanceMethod yX10_init) (by decide +kernel)) rfl (by decide +kernel) ⟨Nat.le_of_ble_eq_true rfl, Nat.le_of_ble_eq_true rfl⟩) (fx_preZ hPc hKc hDc hnw hZ hS hFc) rfl rfl hl.1 rfl (lv_room (Nat.le_of_ble_eq_true rfl)) dL_law_12 ⟨(Nat.le_of_ble_eq_true rfl), (Nat.le_of_ble_eq_true rfl)⟩) hS (fun q _ h => hFc q h) hFc (fun u t H1 locs ht hvm hw hB hz1 hk1 hS => ?_)
    obtain ⟨v_11, v_12, hP1, hK1, hD1⟩ := hB
    rw [ht] at hP1
    have hK1 := va_K.moved hvm.symm hK1
    obtain ⟨hP, hD⟩ := va_join (wr := [(q_1, .inr (3, [.ref u_2, .ref u_3, .ref u_4, .ref u_5, .ref qd_6, .int 0, .int 0, .int 0])), (qd_6, .inr (0, [.ref q_7])), (q_7, .inl (cA_8, 6, .inr (.inl f_9)))]) (w1 := [(q_10, .inr (6, [.int 0, .int 0, .ref v_11, .ref v_12]))]) hP hD [3] [0, 1, 2] rfl rfl (by decide) (by decide) hk1 hFc hP1 hD1
    have hK := (hK.sub (tys' := [(cA_8, .long)]) [0] rfl).app hK1
    generalize H1 = H at hP hS ⊢
    have hP : va_P (dC, dI) fxCl [(q_1, .inr (3, [.ref u_2, .ref u_3, .ref u_4, .ref u_5, .ref qd_6, .int 0, .int 0, .int 0])), (qd_6, .inr (0, [.ref q_7])), (q_7, .inl (cA_8, 6, .inr (.inl f_9))), (q_10, .inr (6, [.int 0, .int 0, .ref v_11, .ref v_12]))] H := hP
    have hD : va_D (fun q : Nat => s.heap.size ≤ q) [(q_1, .inr (3, [.ref u_2, .ref u_3, .ref u_4, .ref u_5, .ref qd_6, .int 0, .int 0, .int 0])), (qd_6, .inr (0, [.ref q_7])), (q_7, .inl (cA_8, 6, .inr (.inl f_9))), (q_10, .inr (6, [.int 0, .int 0, .ref v_11, .ref v_12]))] := hD
    have hK : va_K (dC, dI) fxCl [(cA_8, .long)] s := hK
    refine W.widen (k := 18) (n := 1022) (Nat.le_of_ble_eq_true rfl) (Nat.le_of_ble_eq_true rfl) ?_
    refine lv_astore_n (lv' := [(2, .ref q_10), (1, .ref q_1), (0, .ref b)]) hx hb dL_law_15 rfl hl (by decide) rfl (fun ls hl => ?_)
    refine va_new (ci := 4) (fs := [.long 0, .double 0, .null]) (C := RX6) (T := TX6) (N := 3) hx hb hts fx_iX6 tyX6 tyX6_ok hown (hts (.classLink RL 14 RX6) (by decide +kernel)) (hts (.instantiable RX6 3) (by decide +kernel)) (hts (.initialized RX6) (by decide +kernel)) hK hP hD hS hA rfl (fun j hj => by rcases (show j = 0 ∨ j = 1 ∨ j = 2 by omega) with rfl | rfl | rfl <;> rfl) (Nat.le_of_ble_eq_true rfl) (Nat.le_of_ble_eq_true rfl) dL_law_16 (fun q_13 H hP hD hS => ?_)
    refine W.widen (k := 19) (n := 1025) (Nat.le_of_ble_eq_true rfl) (Nat.le_of_ble_eq_true rfl) ?_
    have hP : va_P (dC, dI) fxCl [(q_1, .inr (3, [.ref u_2, .ref u_3, .ref u_4, .ref u_5, .ref qd_6, .int 0, .int 0, .int 0])), (qd_6, .inr (0, [.ref q_7])), (q_7, .inl (cA_8, 6, .inr (.inl f_9))), (q_10, .inr (6, [.int 0, .int 0, .ref v_11, .ref v_12])), (q_13, .inr (4, [.long 0, .double 0, .null]))] H := hP
    have hD : va_D (fun q : Nat => s.heap.size ≤ q) [(q_1, .inr (3, [.ref u_2, .ref u_3, .ref u_4, .ref u_5, .ref qd_6, .int 0, .int 0, .int 0])), (qd_6, .inr (0, [.ref q_7])), (q_7, .inl (cA_8, 6, .inr (.inl f_9))), (q_10, .inr (6, [.int 0, .int 0, .ref v_11, .ref v_12])), (q_13, .inr (4, [.long 0, .double 0, .null]))] := hD
    refine lv_dup hx hb dL_law_19 rfl ?_
    have hPc := hP.sub (ws' := [(q_13, .inr (4, [.long 0, .double 0, .null]))]) [4] rfl
    have hDc := hD.sub (ws' := [(q_13, .inr (4, [.long 0, .double 0, .null]))]) [4] (by decide) rfl
    have hKc := hK.sub (tys' := []) [] rfl
    have hFc := va_free (wc := [(q_13, .inr (4, [.long 0, .double 0, .null]))]) hD hS hA [4] rfl
    refine va_callv (va_runIN (As := []) (rest := [.ref q_13]) ⟨hx, hb, hml, hown, hts⟩ (c_X6_init l dC dI q_13 H.size) ⟨va_cnB 0 hts fx_gX6_init rfl rfl rfl (hnw.2.2.2.2.2.2.2.2.2.1) (hts (.initialized RX6) (by decide +kernel)) (by decide +kernel) ⟨Nat.le_of_ble_eq_true rfl, Nat.le_of_ble_eq_true rfl⟩, rfl, hts (.instanceMethod yX6_init) (by decide +kernel)⟩ (fx_preS hPc hKc hDc hnw) rfl rfl hl.1 rfl (lv_room (Nat.le_of_ble_eq_true rfl)) dL_law_20 ⟨(Nat.le_of_ble_eq_true rfl), (Nat.le_of_ble_eq_true rfl)⟩) hS (fun q _ h => hFc q h) hFc (fun u t H1 locs ht hvm hw hB hz1 hk1 hS => ?_)
    obtain ⟨hP1, hK1, hD1⟩ := hB
    rw [ht] at hP1
    have hK1 := va_K.moved hvm.symm hK1
    obtain ⟨hP, hD⟩ := va_join (wr := [(q_1, .inr (3, [.ref u_2, .ref u_3, .ref u_4, .ref u_5, .ref qd_6, .int 0, .int 0, .int 0])), (qd_6, .inr (0, [.ref q_7])), (q_7, .inl (cA_8, 6, .inr (.inl f_9))), (q_10, .inr (6, [.int 0, .int 0, .ref v_11, .ref v_12]))]) (w1 := [(q_13, .inr (4, [.long 0, .double 0, .null]))]) hP hD [4] [0, 1, 2, 3] rfl rfl (by decide) (by decide) hk1 hFc hP1 hD1
    have hK := (hK.sub (tys' := [(cA_8, .long)]) [0] rfl).app hK1
    generalize H1 = H at hP hS ⊢
    have hP : va_P (dC, dI) fxCl [(q_1, .inr (3, [.ref u_2, .ref u_3, .ref u_4, .ref u_5, .ref qd_6, .int 0, .int 0, .int 0])), (qd_6, .inr (0, [.ref q_7])), (q_7, .inl (cA_8, 6, .inr (.inl f_9))), (q_10, .inr (6, [.int 0, .int 0, .ref v_11, .ref v_12])), (q_13, .inr (4, [.long 0, .double 0, .null]))] H := hP
    have hD : va_D (fun q : Nat => s.heap.size ≤ q) [(q_1, .inr (3, [.ref u_2, .ref u_3, .ref u_4, .ref u_5, .ref qd_6, .int 0, .int 0, .int 0])), (qd_6, .inr (0, [.ref q_7])), (q_7, .inl (cA_8, 6, .inr (.inl f_9))), (q_10, .inr (6, [.int 0, .int 0, .ref v_11, .ref v_12])), (q_13, .inr (4, [.long 0, .double 0, .null]))] := hD
    have hK : va_K (dC, dI) fxCl [(cA_8, .long)] s := hK
    refine lv_astore_n (lv' := [(3, .ref q_13), (2, .ref q_10), (1, .ref q_1), (0, .ref b)]) hx hb dL_law_23 rfl hl (by decide) rfl (fun ls hl => ?_)
    refine lv_iconst (v := 0) hx hb dL_law_24 (by decide) ?_
    refine lv_istore (lv' := [(4, .int 0), (3, .ref q_13), (2, .ref q_10), (1, .ref q_1), (0, .ref b)]) hx hb dL_law_25 hl (by decide) rfl (fun ls hl => ?_)
    refine W.widen (k := 30 + 9 * 0) (n := 1100 + 25002 * 0) (Nat.le_of_ble_eq_true rfl) (Nat.le_of_ble_eq_true rfl) ?_
    exact fx_loop l dC dI hx hb hr hml hown hts hX hbl hlocks hxs hnw 601 0 [] q_1 qd_6 q_7 q_10 q_13 u_2 u_3 u_4 u_5 v_11 v_12 cA_8 f_9 0 0 H _ ls (by omega) (by omega) rfl ⟨List.nodup_nil, fun _ h => absurd h List.not_mem_nil⟩ (fun _ h => absurd h List.not_mem_nil) (hK.sub [0] rfl) (hP.sub [0, 1, 2, 3, 4] rfl) (hD.sub [0, 1, 2, 3, 4] (by decide) rfl) hS (lv_sub hl [0, 4, 3, 2, 1] rfl)
  · refine va_new (ci := 3) (fs := [.null, .null, .null, .null, .null, .int 0, .int 0, .int 0]) (C := RX5) (T := TX5) (N := 8) hx hb hts fx_iX5 tyX5 tyX5_ok hown (hts (.classLink RL 8 RX5) (by decide +kernel)) (hts (.instantiable RX5 8) (by decide +kernel)) (hts (.initialized RX5) (by decide +kernel)) hK hP hD hS hA rfl (fun j hj => by rcases (show j = 0 ∨ j = 1 ∨ j = 2 ∨ j = 3 ∨ j = 4 ∨ j = 5 ∨ j = 6 ∨ j = 7 by omega) with rfl | rfl | rfl | rfl | rfl | rfl | rfl | rfl <;> rfl) (Nat.le_of_ble_eq_true rfl) (Nat.le_of_ble_eq_true rfl) dL_law_0 (fun q_1 H hP hD hS => ?_)
    refine W.widen (k := 1) (n := 8) (Nat.le_of_ble_eq_true rfl) (Nat.le_of_ble_eq_true rfl) ?_
    have hP : va_P (dC, dI) fxCl [(q_1, .inr (3, [.null, .null, .null, .null, .null, .int 0, .int 0, .int 0]))] H := hP
    have hD : va_D (fun q : Nat => s.heap.size ≤ q) [(q_1, .inr (3, [.null, .null, .null, .null, .null, .int 0, .int 0, .int 0]))] := hD
    refine lv_dup hx hb dL_law_3 rfl ?_
    have hPc := hP.sub (ws' := [(q_1, .inr (3, [.null, .null, .null, .null, .null, .int 0, .int 0, .int 0]))]) [0] rfl
    have hDc := hD.sub (ws' := [(q_1, .inr (3, [.null, .null, .null, .null, .null, .int 0, .int 0, .int 0]))]) [0] (by decide) rfl
    have hKc := hK.sub (tys' := []) [] rfl
    have hFc := va_free (wc := [(q_1, .inr (3, [.null, .null, .null, .null, .null, .int 0, .int 0, .int 0]))]) hD hS hA [0] rfl
    refine va_callv (va_runI (As := []) (rest := [.ref q_1]) ⟨hx, hb, hml, hown, hts⟩ (c_X5_init l dC dI q_1 H.size) (cwI 0 hts fx_gX5_init rfl rfl rfl (hts (.initialized RX5) (by decide +kernel)) (hts (.methodLink RL 128 yX5_init) (by decide +kernel)) (hts (.instanceMethod yX5_init) (by decide +kernel)) rfl (by decide +kernel) ⟨Nat.le_of_ble_eq_true rfl, Nat.le_of_ble_eq_true rfl⟩) (fx_preS hPc hKc hDc hnw) rfl rfl hl.1 rfl (lv_room (Nat.le_of_ble_eq_true rfl)) dL_law_4 ⟨(Nat.le_of_ble_eq_true rfl), (Nat.le_of_ble_eq_true rfl)⟩) hS (fun q _ h => hFc q h) hFc (fun u t H1 locs ht hvm hw hB hz1 hk1 hS => ?_)
    obtain ⟨u_2, u_3, u_4, u_5, qd_6, q_7, cA_8, f_9, hP1, hK1, hD1⟩ := hB
    rw [ht] at hP1
    have hK1 := va_K.moved hvm.symm hK1
    obtain ⟨hP, hD⟩ := va_join (wr := []) (w1 := [(q_1, .inr (3, [.ref u_2, .ref u_3, .ref u_4, .ref u_5, .ref qd_6, .int 0, .int 0, .int 0])), (qd_6, .inr (0, [.ref q_7])), (q_7, .inl (cA_8, 6, .inr (.inl f_9)))]) hP hD [0] [] rfl rfl (by decide) (by decide) hk1 hFc hP1 hD1
    have hK := (hK.sub (tys' := []) [] rfl).app hK1
    generalize H1 = H at hP hS ⊢
    have hP : va_P (dC, dI) fxCl [(q_1, .inr (3, [.ref u_2, .ref u_3, .ref u_4, .ref u_5, .ref qd_6, .int 0, .int 0, .int 0])), (qd_6, .inr (0, [.ref q_7])), (q_7, .inl (cA_8, 6, .inr (.inl f_9)))] H := hP
    have hD : va_D (fun q : Nat => s.heap.size ≤ q) [(q_1, .inr (3, [.ref u_2, .ref u_3, .ref u_4, .ref u_5, .ref qd_6, .int 0, .int 0, .int 0])), (qd_6, .inr (0, [.ref q_7])), (q_7, .inl (cA_8, 6, .inr (.inl f_9)))] := hD
    have hK : va_K (dC, dI) fxCl [(cA_8, .long)] s := hK
    refine W.widen (k := 15) (n := 1012) (Nat.le_of_ble_eq_true rfl) (Nat.le_of_ble_eq_true rfl) ?_
    refine lv_astore_n (lv' := [(1, .ref q_1), (0, .ref b)]) hx hb dL_law_7 rfl hl (by decide) rfl (fun ls hl => ?_)
    refine va_new (ci := 6) (fs := [.int 0, .int 0, .null, .null]) (C := RX10) (T := TX10) (N := 4) hx hb hts fx_iX10 tyX10 tyX10_ok hown (hts (.classLink RL 129 RX10) (by decide +kernel)) (hts (.instantiable RX10 4) (by decide +kernel)) (hts (.initialized RX10) (by decide +kernel)) hK hP hD hS hA rfl (fun j hj => by rcases (show j = 0 ∨ j = 1 ∨ j = 2 ∨ j = 3 by omega) with rfl | rfl | rfl | rfl <;> rfl) (Nat.le_of_ble_eq_true rfl) (Nat.le_of_ble_eq_true rfl) dL_law_8 (fun q_10 H hP hD hS => ?_)
    refine W.widen (k := 16) (n := 1016) (Nat.le_of_ble_eq_true rfl) (Nat.le_of_ble_eq_true rfl) ?_
    have hP : va_P (dC, dI) fxCl [(q_1, .inr (3, [.ref u_2, .ref u_3, .ref u_4, .ref u_5, .ref qd_6, .int 0, .int 0, .int 0])), (qd_6, .inr (0, [.ref q_7])), (q_7, .inl (cA_8, 6, .inr (.inl f_9))), (q_10, .inr (6, [.int 0, .int 0, .null, .null]))] H := hP
    have hD : va_D (fun q : Nat => s.heap.size ≤ q) [(q_1, .inr (3, [.ref u_2, .ref u_3, .ref u_4, .ref u_5, .ref qd_6, .int 0, .int 0, .int 0])), (qd_6, .inr (0, [.ref q_7])), (q_7, .inl (cA_8, 6, .inr (.inl f_9))), (q_10, .inr (6, [.int 0, .int 0, .null, .null]))] := hD
    refine lv_dup hx hb dL_law_11 rfl ?_
    have hPc := hP.sub (ws' := [(q_10, .inr (6, [.int 0, .int 0, .null, .null]))]) [3] rfl
    have hDc := hD.sub (ws' := [(q_10, .inr (6, [.int 0, .int 0, .null, .null]))]) [3] (by decide) rfl
    have hKc := hK.sub (tys' := []) [] rfl
    have hFc := va_free (wc := [(q_10, .inr (6, [.int 0, .int 0, .null, .null]))]) hD hS hA [3] rfl
    refine va_callv (va_runI (As := []) (rest := [.ref q_10]) ⟨hx, hb, hml, hown, hts⟩ (c_X10_init_r l dC dI q_10 tz H.size) (cwI 0 hts fx_gX10_init rfl rfl rfl (hts (.initialized RX10) (by decide +kernel)) (hts (.methodLink RL 131 yX10_init) (by decide +kernel)) (hts (.instanceMethod yX10_init) (by decide +kernel)) rfl (by decide +kernel) ⟨Nat.le_of_ble_eq_true rfl, Nat.le_of_ble_eq_true rfl⟩) (fx_preZ hPc hKc hDc hnw hZ hS hFc) rfl rfl hl.1 rfl (lv_room (Nat.le_of_ble_eq_true rfl)) dL_law_12 ⟨(Nat.le_of_ble_eq_true rfl), (Nat.le_of_ble_eq_true rfl)⟩) hS (fun q _ h => hFc q h) hFc (fun u t H1 locs ht hvm hw hB hz1 hk1 hS => ?_)
    obtain ⟨v_11, v_12, hP1, hK1, hD1⟩ := hB
    rw [ht] at hP1
    have hK1 := va_K.moved hvm.symm hK1
    obtain ⟨hP, hD⟩ := va_join (wr := [(q_1, .inr (3, [.ref u_2, .ref u_3, .ref u_4, .ref u_5, .ref qd_6, .int 0, .int 0, .int 0])), (qd_6, .inr (0, [.ref q_7])), (q_7, .inl (cA_8, 6, .inr (.inl f_9)))]) (w1 := [(q_10, .inr (6, [.int 0, .int 0, .ref v_11, .ref v_12]))]) hP hD [3] [0, 1, 2] rfl rfl (by decide) (by decide) hk1 hFc hP1 hD1
    have hK := (hK.sub (tys' := [(cA_8, .long)]) [0] rfl).app hK1
    generalize H1 = H at hP hS ⊢
    have hP : va_P (dC, dI) fxCl [(q_1, .inr (3, [.ref u_2, .ref u_3, .ref u_4, .ref u_5, .ref qd_6, .int 0, .int 0, .int 0])), (qd_6, .inr (0, [.ref q_7])), (q_7, .inl (cA_8, 6, .inr (.inl f_9))), (q_10, .inr (6, [.int 0, .int 0, .ref v_11, .ref v_12]))] H := hP
    have hD : va_D (fun q : Nat => s.heap.size ≤ q) [(q_1, .inr (3, [.ref u_2, .ref u_3, .ref u_4, .ref u_5, .ref qd_6, .int 0, .int 0, .int 0])), (qd_6, .inr (0, [.ref q_7])), (q_7, .inl (cA_8, 6, .inr (.inl f_9))), (q_10, .inr (6, [.int 0, .int 0, .ref v_11, .ref v_12]))] := hD
    have hK : va_K (dC, dI) fxCl [(cA_8, .long)] s := hK
    refine W.widen (k := 18) (n := 1022) (Nat.le_of_ble_eq_true rfl) (Nat.le_of_ble_eq_true rfl) ?_
    refine lv_astore_n (lv' := [(2, .ref q_10), (1, .ref q_1), (0, .ref b)]) hx hb dL_law_15 rfl hl (by decide) rfl (fun ls hl => ?_)
    refine va_new (ci := 4) (fs := [.long 0, .double 0, .null]) (C := RX6) (T := TX6) (N := 3) hx hb hts fx_iX6 tyX6 tyX6_ok hown (hts (.classLink RL 14 RX6) (by decide +kernel)) (hts (.instantiable RX6 3) (by decide +kernel)) (hts (.initialized RX6) (by decide +kernel)) hK hP hD hS hA rfl (fun j hj => by rcases (show j = 0 ∨ j = 1 ∨ j = 2 by omega) with rfl | rfl | rfl <;> rfl) (Nat.le_of_ble_eq_true rfl) (Nat.le_of_ble_eq_true rfl) dL_law_16 (fun q_13 H hP hD hS => ?_)
    refine W.widen (k := 19) (n := 1025) (Nat.le_of_ble_eq_true rfl) (Nat.le_of_ble_eq_true rfl) ?_
    have hP : va_P (dC, dI) fxCl [(q_1, .inr (3, [.ref u_2, .ref u_3, .ref u_4, .ref u_5, .ref qd_6, .int 0, .int 0, .int 0])), (qd_6, .inr (0, [.ref q_7])), (q_7, .inl (cA_8, 6, .inr (.inl f_9))), (q_10, .inr (6, [.int 0, .int 0, .ref v_11, .ref v_12])), (q_13, .inr (4, [.long 0, .double 0, .null]))] H := hP
    have hD : va_D (fun q : Nat => s.heap.size ≤ q) [(q_1, .inr (3, [.ref u_2, .ref u_3, .ref u_4, .ref u_5, .ref qd_6, .int 0, .int 0, .int 0])), (qd_6, .inr (0, [.ref q_7])), (q_7, .inl (cA_8, 6, .inr (.inl f_9))), (q_10, .inr (6, [.int 0, .int 0, .ref v_11, .ref v_12])), (q_13, .inr (4, [.long 0, .double 0, .null]))] := hD
    refine lv_dup hx hb dL_law_19 rfl ?_
    have hPc := hP.sub (ws' := [(q_13, .inr (4, [.long 0, .double 0, .null]))]) [4] rfl
    have hDc := hD.sub (ws' := [(q_13, .inr (4, [.long 0, .double 0, .null]))]) [4] (by decide) rfl
    have hKc := hK.sub (tys' := []) [] rfl
    have hFc := va_free (wc := [(q_13, .inr (4, [.long 0, .double 0, .null]))]) hD hS hA [4] rfl
    refine va_callv (va_runIN (As := []) (rest := [.ref q_13]) ⟨hx, hb, hml, hown, hts⟩ (c_X6_init l dC dI q_13 H.size) ⟨va_cnB 0 hts fx_gX6_init rfl rfl rfl (hnw.2.2.2.2.2.2.2.2.2.1) (hts (.initialized RX6) (by decide +kernel)) (by decide +kernel) ⟨Nat.le_of_ble_eq_true rfl, Nat.le_of_ble_eq_true rfl⟩, rfl, hts (.instanceMethod yX6_init) (by decide +kernel)⟩ (fx_preS hPc hKc hDc hnw) rfl rfl hl.1 rfl (lv_room (Nat.le_of_ble_eq_true rfl)) dL_law_20 ⟨(Nat.le_of_ble_eq_true rfl), (Nat.le_of_ble_eq_true rfl)⟩) hS (fun q _ h => hFc q h) hFc (fun u t H1 locs ht hvm hw hB hz1 hk1 hS => ?_)
    obtain ⟨hP1, hK1, hD1⟩ := hB
    rw [ht] at hP1
    have hK1 := va_K.moved hvm.symm hK1
    obtain ⟨hP, hD⟩ := va_join (wr := [(q_1, .inr (3, [.ref u_2, .ref u_3, .ref u_4, .ref u_5, .ref qd_6, .int 0, .int 0, .int 0])), (qd_6, .inr (0, [.ref q_7])), (q_7, .inl (cA_8, 6, .inr (.inl f_9))), (q_10, .inr (6, [.int 0, .int 0, .ref v_11, .ref v_12]))]) (w1 := [(q_13, .inr (4, [.long 0, .double 0, .null]))]) hP hD [4] [0, 1, 2, 3] rfl rfl (by decide) (by decide) hk1 hFc hP1 hD1
    have hK := (hK.sub (tys' := [(cA_8, .long)]) [0] rfl).app hK1
    generalize H1 = H at hP hS ⊢
    have hP : va_P (dC, dI) fxCl [(q_1, .inr (3, [.ref u_2, .ref u_3, .ref u_4, .ref u_5, .ref qd_6, .int 0, .int 0, .int 0])), (qd_6, .inr (0, [.ref q_7])), (q_7, .inl (cA_8, 6, .inr (.inl f_9))), (q_10, .inr (6, [.int 0, .int 0, .ref v_11, .ref v_12])), (q_13, .inr (4, [.long 0, .double 0, .null]))] H := hP
    have hD : va_D (fun q : Nat => s.heap.size ≤ q) [(q_1, .inr (3, [.ref u_2, .ref u_3, .ref u_4, .ref u_5, .ref qd_6, .int 0, .int 0, .int 0])), (qd_6, .inr (0, [.ref q_7])), (q_7, .inl (cA_8, 6, .inr (.inl f_9))), (q_10, .inr (6, [.int 0, .int 0, .ref v_11, .ref v_12])), (q_13, .inr (4, [.long 0, .double 0, .null]))] := hD
    have hK : va_K (dC, dI) fxCl [(cA_8, .long)] s := hK
    refine lv_astore_n (lv' := [(3, .ref q_13), (2, .ref q_10), (1, .ref q_1), (0, .ref b)]) hx hb dL_law_23 rfl hl (by decide) rfl (fun ls hl => ?_)
    refine lv_iconst (v := 0) hx hb dL_law_24 (by decide) ?_
    refine lv_istore (lv' := [(4, .int 0), (3, .ref q_13), (2, .ref q_10), (1, .ref q_1), (0, .ref b)]) hx hb dL_law_25 hl (by decide) rfl (fun ls hl => ?_)
    refine W.widen (k := 30 + 9 * 0) (n := 1100 + 25002 * 0) (Nat.le_of_ble_eq_true rfl) (Nat.le_of_ble_eq_true rfl) ?_
    exact fx_loop l dC dI hx hb hr hml hown hts hX hbl hlocks hxs hnw 601 0 [] q_1 qd_6 q_7 q_10 q_13 u_2 u_3 u_4 u_5 v_11 v_12 cA_8 f_9 0 0 H _ ls (by omega) (by omega) rfl ⟨List.nodup_nil, fun _ h => absurd h List.not_mem_nil⟩ (fun _ h => absurd h List.not_mem_nil) (hK.sub [0] rfl) (hP.sub [0, 1, 2, 3, 4] rfl) (hD.sub [0, 1, 2, 3, 4] (by decide) rfl) hS (lv_sub hl [0, 4, 3, 2, 1] rfl)
