set_option maxRecDepth 20000 in
theorem law_nm : ∀ q ∈ zNestM, Cond.methodLinkNest q.1 q.2.1 q.2.2.1 q.2.2.2 ∈ lw_tbl := by decide +kernel
set_option maxRecDepth 20000 in
theorem law_nf : ∀ q ∈ zNestF, Cond.fieldLinkNest q.1 q.2.1 q.2.2.1 q.2.2.2.1 q.2.2.2.2.1 q.2.2.2.2.2 ∈ lw_tbl := by decide +kernel
set_option maxRecDepth 20000 in
theorem law_ct : ∀ q ∈ zCasts, q = (RX0, RX0) ∨ Cond.castable q.1 q.2 ∈ lw_tbl := by decide +kernel
set_option maxRecDepth 20000 in
theorem law_dc : ∀ q ∈ zDecls, Cond.declares q ∈ lw_tbl := by decide +kernel
set_option maxRecDepth 20000 in
theorem law_st : ∀ q ∈ zStrs, Cond.stringRef RX2 q.1 q.2 ∈ lw_tbl := by decide +kernel
set_option maxHeartbeats 4000000 in
set_option maxRecDepth 100000 in
theorem law_zC {p : Program} {s : State} {m : MethodId} {meth : Method} {c : Code} (l : Launch) (hlst : l.stackTraces = false) {b L : Nat} {xs : Nat → Int32} (C0 : lw_At p s m meth c b L xs) : ∃ G : zGt, zC p l s m #[Value.ref b] meth c code 8 wsL_law RL ret G (fun q => s.heap.size ≤ q) := by
  obtain ⟨hx, hb, hr, hml, hown, hts, hX, hbl, hlocks, hgv⟩ := C0
  have hfl := flat_of_before _ hgv
  have hA : ∀ a : Nat, a < s.heap.size → ¬ (fun q : Nat => s.heap.size ≤ q) a := fun a h1 h2 => absurd h1 (Nat.not_lt.mpr h2)
  obtain ⟨k0, i0, hK0⟩ := u_known (C := RJx4a65c) (T := TJx4a65c) (N := 3) (n := 3) hts inJx4a65c (hts (.instantiable RJx4a65c 3) (by decide +kernel))
  obtain ⟨k1, i1, hK1⟩ := u_known (C := RX0) (T := TX0) (N := 7) (n := 7) hts inX0 (hts (.instantiable RX0 7) (by decide +kernel))
  obtain ⟨k2, i2, hK2⟩ := u_known (C := RX1) (T := TX1) (N := 10) (n := 10) hts inX1 (hts (.instantiable RX1 10) (by decide +kernel))
  obtain ⟨k3, i3, hK3⟩ := u_known (C := RX2) (T := TX2) (N := 4) (n := 4) hts inX2 (hts (.instantiable RX2 4) (by decide +kernel))
  obtain ⟨cI, kI, pI, a1, a2, a3⟩ := Cond.arrayClass_spec (first := s) (o := none) (idx := []) (hts (.arrayClass .int) (by decide +kernel))
  obtain ⟨pO, cO, kO, o1, -, o2, o3, o4⟩ := Cond.arrayOver_spec (first := s) (o := none) (idx := []) (hts (.arrayOver (.object "java/lang/Object")) (by decide +kernel))
  obtain ⟨ta, hta, hT⟩ := va_Tof (A := fun q : Nat => s.heap.size ≤ q) (N := 0) (f := fun _ => .null) (tm := .static "java/util/ArrayList" "DEFAULTCAPACITY_EMPTY_ELEMENTDATA" "[Ljava/lang/Object;") (ty := .object "java/lang/Object") (by decide) (hfl _ (by decide +kernel)) (va_eqt (hfl (.eq (.length (.static "java/util/ArrayList" "DEFAULTCAPACITY_EMPTY_ELEMENTDATA" "[Ljava/lang/Object;")) (.int 0)) (by decide +kernel))) (fun j hj => absurd hj (Nat.not_lt_zero j)) hA
  have hZ := va_Zof (A := fun q : Nat => s.heap.size ≤ q) (hts (.laysStatic "java/util/ArrayList" "DEFAULTCAPACITY_EMPTY_ELEMENTDATA" "[Ljava/lang/Object;") (by decide +kernel)) (hts (.initialized "java/util/ArrayList") (by decide +kernel)) hta hA
  have hU := vx_Zqof (A := fun q : Nat => s.heap.size ≤ q) (hts (.laysStatic Bundle.tN "UNASSIGNED_STACK" Bundle.steD) (by decide +kernel)) (hts (.initialized Bundle.tN) (by decide +kernel)) (hfl (.isRef (.static Bundle.tN "UNASSIGNED_STACK" Bundle.steD)) (by decide +kernel)) hA
  have hV := vx_Zqof (A := fun q : Nat => s.heap.size ≤ q) (hts (.laysStatic Bundle.tN "SUPPRESSED_SENTINEL" Bundle.listD) (by decide +kernel)) (hts (.initialized Bundle.tN) (by decide +kernel)) (hfl (.isRef (.static Bundle.tN "SUPPRESSED_SENTINEL" Bundle.listD)) (by decide +kernel)) hA
  obtain ⟨mi, hmi⟩ := va_Mi.of (hfl (.isRef (.mirror "[Ljava/lang/Object;")) (by decide +kernel))
  refine ⟨(((fun k => if k = 0 then k0 else if k = 1 then k1 else if k = 2 then k2 else k3), (fun k => if k = 0 then i0 else if k = 1 then i1 else if k = 2 then i2 else i3)), cI, cO, cI, ta, mi), ⟨hx, hb, hml, hown, fun w h => hts w (wsL_law_in w h)⟩, hr, hlocks, ⟨?_, ?_⟩, ⟨⟨hU, hV, hZ, hT⟩, ?_, ?_, ?_, ?_, ?_, ?_, hmi, ?_, ?_⟩, fun _ h => h, hlst⟩
  · intro k q hq
    match k, hq with
    | 0, hq => cases hq; exact hK0
    | 1, hq => cases hq; exact hK1
    | 2, hq => cases hq; exact hK2
    | 3, hq => cases hq; exact hK3
    | k + 4, hq => exact absurd hq (by simp [vwCl])
  · intro k q hq
    match k, hq with
    | 0, hq => cases hq; exact ⟨fun n z => ⟨(fun k h => by cases h), kI, a2, pI, a3⟩, a1⟩
    | 1, hq => cases hq; exact ⟨fun n z => ⟨(fun k h => by cases h), kO, o2, pO, o3⟩, kO, pO, o2, o3, o1, o4⟩
    | 2, hq => cases hq; exact ⟨fun n z => ⟨(fun k h => by cases h), kI, a2, pI, a3⟩, a1⟩
    | k + 3, hq => exact absurd hq (by simp [zT])
  · intro q hq
    have h9 := hts _ (law_st q hq)
    obtain ⟨-, -, -, a9, -, -, -, -, -, e9⟩ := Cond.stringRef_spec (first := s) (o := none) (idx := []) hK3.2.1 h9
    exact ⟨a9, vk_R.of h9 e9⟩
  · exact fun q hq => va_Nw.of rfl (hts _ (law_nm q hq))
  · exact fun q hq => va_Nw.of rfl (hts _ (law_nf q hq))
  · intro q hq
    rcases law_ct q hq with e9 | h9
    · rw [e9]
      have g9 : s.vm.findClass RX0 = some k1 := hK1.2.1
      show (Cond.castable RX0 RX0).before #[] s = true
      simp only [Cond.before, Cond.holds, Cond.value, g9, va_asg]
      rfl
    · exact va_Nw.of rfl (hts _ h9)
  · exact fun q hq => absurd hq List.not_mem_nil
  · exact va_AO.of (hts (.arrayOver (.object "java/lang/Object")) (by decide +kernel))
  · exact va_Dc.of (hts _ (by decide +kernel))
  · exact fun q hq => va_Nw.of rfl (hts _ (law_dc q hq))
abbrev z0L : Nat → FdT := fun _ => (0, 0, 0, 0, 0, 0, 0)
set_option maxHeartbeats 4000000 in
set_option maxRecDepth 100000 in
/-- the law's walk from its entry -/
theorem law_walk0 {p : Program} {e : Env} {s : State} {m : MethodId} {below : List Frame} {meth : Method} {c : Code} (l : Launch) (hlst : l.stackTraces = false) {b N : Nat} {xs : Nat → Int32} {G : zGt} (C : zC p l s m #[Value.ref b] meth c code 8 wsL_law RL ret G (fun q => s.heap.size ≤ q)) (hX : va_X b N xs s s.heap) (hbl : b < s.heap.size) (hN : N ≤ 260) : zW p l e room_1 s m #[Value.ref b] below meth c 8 G (fun q => s.heap.size ≤ q) (lw_Z below #[Value.ref b] s) 0 0 [] (fun _ => .inr (0, [])) 0 [(0, .ref b)] [] := by
  refine z_newO (ci := 3) (fs := [.null, .null, .int (nI 0), .int (nI 0)]) C inlX2 tyX2 tyX2_ok (by decide +kernel) (by decide +kernel) (by decide +kernel) rfl (fun j9 h9 => by rcases (show j9 = 0 ∨ j9 = 1 ∨ j9 = 2 ∨ j9 = 3 by omega) with rfl | rfl | rfl | rfl <;> rfl) (Nat.le_of_ble_eq_true rfl) (Nat.le_of_ble_eq_true rfl) dL_law_0 (fun a0 F1 hq1 h1 k1 => ?_)
  refine z_dup C dL_law_3 rfl ?_
  refine z_callI (As := []) (st := [.ref a0]) (mc := 6) (ms := 62) C (c_X2_init l hlst G ([] ++ [a0]) F1 zNo a0 (List.mem_append_right _ (List.mem_singleton.mpr rfl)) h1 (fun _ h => h.elim)) (cwI 0 C.1.2.2.2.2 gL_law_X2_init rfl rfl rfl (C.1.2.2.2.2 _ (show Cond.initialized RX2 ∈ _ from (by decide +kernel))) (C.1.2.2.2.2 _ (show Cond.methodLink RL 63 yX2_init ∈ _ from (by decide +kernel))) (C.1.2.2.2.2 _ (show Cond.instanceMethod yX2_init ∈ _ from (by decide +kernel))) rfl (by decide +kernel) ⟨Nat.le_of_ble_eq_true rfl, Nat.le_of_ble_eq_true rfl⟩) rfl (Nat.le_of_ble_eq_true rfl) ⟨Nat.le_of_ble_eq_true rfl, Nat.le_of_ble_eq_true rfl⟩ dL_law_4 (fun rv2 L2 F2 hp2 => ?_)
  obtain ⟨a1, a2, b4, b5, b6, b7, ad, e2, hL2, hco, hk2⟩ := hp2
  rw [e2]
  refine z_stk (st' := [.ref a0]) rfl ?_
  refine z_astore_n (lv' := [(1, .ref a0), (0, .ref b)]) C dL_law_7 rfl (by decide) rfl ?_
  refine z_iconst C (nI 0) dL_law_8 (by decide) ?_
  refine z_istore_n (lv' := [(2, .int (nI 0)), (1, .ref a0), (0, .ref b)]) C dL_law_9 rfl (by decide) rfl ?_
  refine z_iconst C (nI 0) dL_law_10 (by decide) ?_
  refine z_istore_n (lv' := [(3, .int (nI 0)), (2, .int (nI 0)), (1, .ref a0), (0, .ref b)]) C dL_law_11 rfl (by decide) rfl ?_
  refine z_sub (lv' := [(0, .ref b), (1, .ref a0), (2, .int (nI 0)), (3, .int (nI 0))]) [3, 2, 1, 0] rfl ?_
  refine z_lvs (lv' := [(0, .ref b), (1, .ref a0), (2, .int (nI (cW z0L 0))), (3, .int (nI 0))]) rfl ?_
  refine law_loop l hlst ⟨C, hX, hbl, Nat.not_le.mpr hbl, hN⟩ (fun L9 F9 ce9 sl9 lv9 g1 g2 => ?_) 30 0 _ _ _ _ 0 0 0 z0L rfl (by omega) (by omega) (Nat.zero_le _) (fun h => absurd h (by omega)) (hco z0L).cl (fun j hj => absurd hj (Nat.not_lt_zero j))
  refine z_iconst C (nI 1) dL_law_289 (by decide) ?_
  exact z_lret C dL_law_290 g1 g2
set_option maxHeartbeats 4000000 in
theorem whole_start {p : Program} {e : Env} {s : State} {m : MethodId} {below : List Frame} {meth : Method} {c : Code} (l : Launch) (hflags : l.flags = flags0) {b L : Nat} {xs : Nat → Int32} (hL : L ≤ 260) (C0 : lw_At p s m meth c b L xs) : W p l e room_1 s m #[Value.ref b] below meth c s.heap [] 0 0 (lw_Z below #[Value.ref b] s) (entryFrame m ([Value.ref b] : List Value).toArray 8) := by
  have hlst : l.stackTraces = false := by
    unfold Launch.stackTraces
    rw [hflags]
    decide +kernel
  obtain ⟨G, C⟩ := law_zC l hlst C0
  obtain ⟨hx, hb, hr, hml, hown, hts, hX, hbl, hlocks, hgv⟩ := C0
  rw [lg_entry_eq]
  exact law_walk0 l hlst C hX hbl hL s.heap [] _ (fun k q h => by simp [va_pl] at h) ⟨fun i j p q h => by simp [va_pl] at h, fun k q h => by simp [va_pl] at h⟩ va_S.rf (lv_entry [.ref b] (n := 8) (Nat.le_of_ble_eq_true rfl))
