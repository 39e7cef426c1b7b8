theorem zCo.off {G : zGt} {M : Nat → Prop} {L : List Nat} {F F1 : Nat → va_E} {a0 a1 a2 b4 b5 b6 b7 : Nat} {ad : Nat → Nat} {n now sl : Nat} {fd : Nat → FdT} (h : zCo G M L F a0 a1 a2 b4 b5 b6 b7 ad n now sl fd) (hk : ∀ b, ¬ M b → F1 b = F b) : zCl G M L F1 a0 n now sl fd := by
  obtain ⟨h1, h2, h3, h4, h5, h6, h7, h8, ⟨m0, m1, m2, m4, m5, m6, m7⟩⟩ := h
  refine ⟨a1, a2, b4, b5, b6, b7, ad, h1, (hk _ m0).trans h2, ?_, ?_, h5, fun k q => ⟨(h6 k q).1, (hk _ (h6 k q).2.2.2).trans (h6 k q).2.1, (h6 k q).2.2⟩, h7, h8, ⟨m0, m1, m2, m4, m5, m6, m7⟩⟩
  · obtain ⟨mo, ea, nn, fe, g1, g2, g3, g4⟩ := h3
    refine ⟨mo, ea, nn, fe, (hk _ m1).trans g1, ?_, g3, g4⟩
    rcases g2 with g2 | ⟨q1, q2, q3⟩
    · exact Or.inl g2
    · exact Or.inr ⟨q1, (hk _ (g4 q1)).trans q2, q3⟩
  · obtain ⟨f4, f5, f6, f7, cnt, sf, nl, bs, bt, bh, g1, ⟨g4, g5, g6, g7⟩, g8⟩ := h4
    exact ⟨f4, f5, f6, f7, cnt, sf, nl, bs, bt, bh, (hk _ m2).trans g1, ⟨(hk _ m4).trans g4, (hk _ m5).trans g5, (hk _ m6).trans g6, (hk _ m7).trans g7⟩, g8⟩
theorem vL0 (f : Nat → Int64) (v : Int64) : vp_updL f 0 v 0 = v := by unfold vp_updL; rw [if_pos rfl]
theorem zCo.cl {G : zGt} {M : Nat → Prop} {L : List Nat} {F : Nat → va_E} {a0 a1 a2 b4 b5 b6 b7 : Nat} {ad : Nat → Nat} {n now sl : Nat} {fd : Nat → FdT} (h : zCo G M L F a0 a1 a2 b4 b5 b6 b7 ad n now sl fd) : zCl G M L F a0 n now sl fd := ⟨_, _, _, _, _, _, _, h⟩

set_option maxHeartbeats 4000000 in
set_option maxRecDepth 100000 in
theorem c_L_feeder (l : Launch) (hlst : l.stackTraces = false) (G : zGt) (L : List Nat) (F : Nat → va_E) (M : Nat → Prop) (a0 n now sl : Nat) (fd : Nat → FdT) (o0 : Nat) (fo : Nat → Int64) (hMo : M o0) (hLo : o0 ∈ L) (hFo : F o0 = .inl (G.2.2.2.1, 1, .inr (.inl fo))) (hcl : zCl G M L F a0 n now sl fd) (v1 v3 : Int32) (c9 : Nat) (hc9 : c9 ≤ 1) (hML : ∀ b, M b → b ∈ L) : zX l yL_feeder wsL_feeder 9 178 4 34 G L F [.ref a0, .int v1, .int (nI c9), .int v3, .ref o0] (fun rv L1 F1 => (∀ b, b ∈ L → b ∈ L1) ∧ (∀ b, M b → b ≠ o0 → F1 b = F b) ∧ ∃ fo1 : Nat → Int64, F1 o0 = .inl (G.2.2.2.1, 1, .inr (.inl fo1)) ∧ ((rv = some (.int (nI 0)) ∧ (∃ j1 j3 : Nat, v1 = nI j1 ∧ 1 ≤ j1 ∧ j1 ≤ 999 ∧ v3 = nI j3 ∧ j3 ≤ 3 ∧ n < 12 ∧ fo1 0 = (nI n).toInt64 ∧ zCl G M L1 F1 a0 (n + 1) now sl (upF fd n (j3, j1, c9, 0, 0, 0, 0)))) ∨ (rv = some (.int (nI 1)) ∧ (¬ (zIn 1 999 v1 ∧ zIn 0 3 v3)) ∧ zCl G M L1 F1 a0 n now sl fd) ∨ (rv = some (.int (nI 2)) ∧ (zIn 1 999 v1 ∧ zIn 0 3 v3 ∧ n = 12) ∧ zCl G M L1 F1 a0 n now sl fd))) (fun _ _ _ => False) := by
  obtain ⟨a1, a2, b4, b5, b6, b7, ad, hco⟩ := hcl
  have hL0 := hco.1.1
  have hF0 := hco.2.1
  refine z_ofH (cc := cL_feeder) (nL := 6) (ret := (some .int)) (own := RL) hlst (by decide +kernel) rfl rfl (Nat.le_of_ble_eq_true rfl) ?_
  intro p e s m below meth c A htab C
  refine z_lvs (lv' := [(0, .ref a0), (1, .int v1), (2, .int (nI c9)), (3, .int v3), (4, .ref o0)]) rfl ?_
  refine z_aload C dL_feeder_0 4 rfl ?_
  refine z_iconst C (nI 0) dL_feeder_2 (by decide) ?_
  refine z_aload_n C dL_feeder_3 rfl 0 rfl ?_
  refine z_iload_n C dL_feeder_4 rfl 1 rfl ?_
  refine z_iload_n C dL_feeder_5 rfl 2 rfl ?_
  refine z_iload_n C dL_feeder_6 rfl 3 rfl ?_
  refine z_callVX (As := [.int v1, .int (nI c9), .int v3]) (st := [.int (nI 0), .ref o0]) (mc := 4) (ms := 34) C hL0 hF0 rfl (c_X2_feeder l hlst G L F M a0 a1 a2 b4 b5 b6 b7 ad n now sl fd hco v1 v3 c9 hc9 hML) (cwV 3 C.1.2.2.2.2 gL_feeder_X2_feeder rfl rfl rfl (by decide +kernel) ⟨Nat.le_of_ble_eq_true rfl, Nat.le_of_ble_eq_true rfl⟩) rfl (Nat.le_of_ble_eq_true rfl) ⟨Nat.le_of_ble_eq_true rfl, Nat.le_of_ble_eq_true rfl⟩ dL_feeder_7 (fun E9 L9 F9 hx => ?_) (fun rv9 L9 F9 hp9 => ?_)
  · -- throws
    obtain ⟨e92, e93, ⟨e94, q1⟩ | ⟨e94, q1⟩⟩ := hx
    · -- "java/lang/IllegalArgumentException"
      subst e94; rw [e92, e93]
      refine z_catch C [] ⟨0, 12, 15, 13⟩ [⟨0, 12, 19, 15⟩] (htab.trans rfl) (by intro z hz; cases hz) (by decide) (by decide) 15 rfl (by decide +kernel : Cond.classLink RL 13 "java/lang/IllegalArgumentException" ∈ _) (by decide +kernel) (fun q9 => ?_)
      refine z_astore (lv' := [(5, .ref q9), (0, .ref a0), (1, .int v1), (2, .int (nI c9)), (3, .int v3), (4, .ref o0)]) C dL_feeder_15 (by decide) rfl ?_
      refine z_iconst C (nI 1) dL_feeder_17 (by decide) ?_
      refine z_iret C rfl rfl (by decide) (by decide) dL_feeder_18 ?_
      exact ⟨(fun _ h => h), fun _ _ _ => rfl, fo, hFo, Or.inr (Or.inl ⟨rfl, q1, hco.cl⟩)⟩
    · -- "java/lang/IllegalStateException"
      subst e94; rw [e92, e93]
      refine z_catch C [⟨0, 12, 15, 13⟩] ⟨0, 12, 19, 15⟩ [] (htab.trans rfl) (by intro z hz; obtain rfl := List.mem_singleton.mp hz; exact Or.inr ⟨by decide, "java/lang/IllegalArgumentException", by decide +kernel, by decide +kernel⟩) (by decide) (by decide) 19 rfl (by decide +kernel : Cond.classLink RL 15 "java/lang/IllegalStateException" ∈ _) (by decide +kernel) (fun q9 => ?_)
      refine z_astore (lv' := [(5, .ref q9), (0, .ref a0), (1, .int v1), (2, .int (nI c9)), (3, .int v3), (4, .ref o0)]) C dL_feeder_19 (by decide) rfl ?_
      refine z_iconst C (nI 2) dL_feeder_21 (by decide) ?_
      refine z_iret C rfl rfl (by decide) (by decide) dL_feeder_22 ?_
      exact ⟨(fun _ h => h), fun _ _ _ => rfl, fo, hFo, Or.inr (Or.inr ⟨rfl, q1, hco.cl⟩)⟩
  · -- returns
    obtain ⟨j1, j3, p0, p1, p2, p3, p4, p5, e91, e92, ⟨ad9, hco9⟩, hk9⟩ := hp9
    rw [e91]
    have hFo9 : F9 o0 = .inl (G.2.2.2.1, 1, .inr (.inl fo)) := (hk9 o0 hMo).trans hFo
    have hLo9 := e92 o0 hLo
    refine z_stk (st' := [.int (nI n), .int (nI 0), .ref o0]) rfl ?_
    refine z_i2l C ((nI n).toInt64) dL_feeder_10 rfl ?_
    refine z_last C hLo9 hFo9 (by omega) (by omega) dL_feeder_11 (fun F1_ h2_ k3_ => ?_)
    have kc4_ : ∀ b, b ≠ o0 → F1_ b = F9 b := fun b q0 => k3_ b q0
    refine z_goto C 23 dL_feeder_12 (by decide) ?_
    refine z_iconst C (nI 0) dL_feeder_23 (by decide) ?_
    refine z_iret C rfl rfl (by decide) (by decide) dL_feeder_24 ?_
    exact ⟨e92, fun b hb h0 => (kc4_ b h0).trans (hk9 b hb), _, h2_, Or.inl ⟨rfl, j1, j3, p0, p1, p2, p3, p4, p5, vL0 _ _, hco9.off (fun b hb => kc4_ b (fun e => hb (e ▸ hMo)))⟩⟩

set_option maxHeartbeats 4000000 in
set_option maxRecDepth 100000 in
theorem c_L_setLoad (l : Launch) (hlst : l.stackTraces = false) (G : zGt) (L : List Nat) (F : Nat → va_E) (M : Nat → Prop) (a0 n now sl : Nat) (fd : Nat → FdT) (o0 : Nat) (fo : Nat → Int64) (hMo : M o0) (hLo : o0 ∈ L) (hFo : F o0 = .inl (G.2.2.2.1, 1, .inr (.inl fo))) (hcl : zCl G M L F a0 n now sl fd) (x v : Int32) : zX l yL_setLoad wsL_setLoad 12 199 2 12 G L F [.ref a0, .int x, .int v, .ref o0] (fun rv L1 F1 => L1 = L ∧ (∀ b, M b → b ≠ o0 → F1 b = F b) ∧ ∃ fo1 : Nat → Int64, F1 o0 = .inl (G.2.2.2.1, 1, .inr (.inl fo1)) ∧ ((rv = some (.int (nI 0)) ∧ (∃ k j : Nat, k < n ∧ x = nI k ∧ v = nI j ∧ 1 ≤ j ∧ j ≤ 999 ∧ fo1 0 = (nI (fMw (fd k))).toInt64 ∧ zCl G M L1 F1 a0 n now sl (upF fd k (fdLd j (fd k))))) ∨ (rv = some (.int (nI 1)) ∧ (¬ zIx n x) ∧ zCl G M L1 F1 a0 n now sl fd) ∨ (rv = some (.int (nI 2)) ∧ (zIx n x ∧ ¬ zIn 1 999 v) ∧ zCl G M L1 F1 a0 n now sl fd))) (fun _ _ _ => False) := by
  obtain ⟨a1, a2, b4, b5, b6, b7, ad, hco⟩ := hcl
  have hL0 := hco.1.1
  have hF0 := hco.2.1
  refine z_ofH (cc := cL_setLoad) (nL := 5) (ret := (some .int)) (own := RL) hlst (by decide +kernel) rfl rfl (Nat.le_of_ble_eq_true rfl) ?_
  intro p e s m below meth c A htab C
  refine z_lvs (lv' := [(0, .ref a0), (1, .int x), (2, .int v), (3, .ref o0)]) rfl ?_
  refine z_aload_n C dL_setLoad_0 rfl 3 rfl ?_
  refine z_iconst C (nI 0) dL_setLoad_1 (by decide) ?_
  refine z_aload_n C dL_setLoad_2 rfl 0 rfl ?_
  refine z_iload_n C dL_setLoad_3 rfl 1 rfl ?_
  refine z_iload_n C dL_setLoad_4 rfl 2 rfl ?_
  refine z_callVX (As := [.int x, .int v]) (st := [.int (nI 0), .ref o0]) (mc := 2) (ms := 12) C hL0 hF0 rfl (c_X2_setLoad l hlst G L F M a0 a1 a2 b4 b5 b6 b7 ad n now sl fd hco x v) (cwV 2 C.1.2.2.2.2 gL_setLoad_X2_setLoad rfl rfl rfl (by decide +kernel) ⟨Nat.le_of_ble_eq_true rfl, Nat.le_of_ble_eq_true rfl⟩) rfl (Nat.le_of_ble_eq_true rfl) ⟨Nat.le_of_ble_eq_true rfl, Nat.le_of_ble_eq_true rfl⟩ dL_setLoad_5 (fun E9 L9 F9 hx => ?_) (fun rv9 L9 F9 hp9 => ?_)
  · -- throws
    obtain ⟨e92, e93, ⟨e94, q1⟩ | ⟨e94, q1⟩⟩ := hx
    · -- "java/lang/IndexOutOfBoundsException"
      subst e94; rw [e92, e93]
      refine z_catch C [] ⟨0, 10, 13, 21⟩ [⟨0, 10, 17, 13⟩] (htab.trans rfl) (by intro z hz; cases hz) (by decide) (by decide) 13 rfl (by decide +kernel : Cond.classLink RL 21 "java/lang/IndexOutOfBoundsException" ∈ _) (by decide +kernel) (fun q9 => ?_)
      refine z_astore (lv' := [(4, .ref q9), (0, .ref a0), (1, .int x), (2, .int v), (3, .ref o0)]) C dL_setLoad_13 (by decide) rfl ?_
      refine z_iconst C (nI 1) dL_setLoad_15 (by decide) ?_
      refine z_iret C rfl rfl (by decide) (by decide) dL_setLoad_16 ?_
      exact ⟨rfl, fun _ _ _ => rfl, fo, hFo, Or.inr (Or.inl ⟨rfl, q1, hco.cl⟩)⟩
    · -- "java/lang/IllegalArgumentException"
      subst e94; rw [e92, e93]
      refine z_catch C [⟨0, 10, 13, 21⟩] ⟨0, 10, 17, 13⟩ [] (htab.trans rfl) (by intro z hz; obtain rfl := List.mem_singleton.mp hz; exact Or.inr ⟨by decide, "java/lang/IndexOutOfBoundsException", by decide +kernel, by decide +kernel⟩) (by decide) (by decide) 17 rfl (by decide +kernel : Cond.classLink RL 13 "java/lang/IllegalArgumentException" ∈ _) (by decide +kernel) (fun q9 => ?_)
      refine z_astore (lv' := [(4, .ref q9), (0, .ref a0), (1, .int x), (2, .int v), (3, .ref o0)]) C dL_setLoad_17 (by decide) rfl ?_
      refine z_iconst C (nI 2) dL_setLoad_19 (by decide) ?_
      refine z_iret C rfl rfl (by decide) (by decide) dL_setLoad_20 ?_
      exact ⟨rfl, fun _ _ _ => rfl, fo, hFo, Or.inr (Or.inr ⟨rfl, q1, hco.cl⟩)⟩
  · -- returns
    obtain ⟨k, j, p0, p1, p2, p3, p4, e91, e92, hco9, hk9⟩ := hp9
    rw [e91, e92]
    have hFo9 : F9 o0 = .inl (G.2.2.2.1, 1, .inr (.inl fo)) := (hk9 o0 hMo).trans hFo
    refine z_stk (st' := [.int (nI ((fMw (fd k)))), .int (nI 0), .ref o0]) rfl ?_
    refine z_i2l C ((nI ((fMw (fd k)))).toInt64) dL_setLoad_8 rfl ?_
    refine z_last C hLo hFo9 (by omega) (by omega) dL_setLoad_9 (fun F1_ h2_ k3_ => ?_)
    have kc4_ : ∀ b, b ≠ o0 → F1_ b = F9 b := fun b q0 => k3_ b q0
    refine z_goto C 21 dL_setLoad_10 (by decide) ?_
    refine z_iconst C (nI 0) dL_setLoad_21 (by decide) ?_
    refine z_iret C rfl rfl (by decide) (by decide) dL_setLoad_22 ?_
    exact ⟨rfl, fun b hb h0 => (kc4_ b h0).trans (hk9 b hb), _, h2_, Or.inl ⟨rfl, k, j, p0, p1, p2, p3, p4, vL0 _ _, hco9.off (fun b hb => kc4_ b (fun e => hb (e ▸ hMo)))⟩⟩

set_option maxHeartbeats 4000000 in
set_option maxRecDepth 100000 in
theorem c_L_setCritical (l : Launch) (hlst : l.stackTraces = false) (G : zGt) (L : List Nat) (F : Nat → va_E) (M : Nat → Prop) (a0 n now sl : Nat) (fd : Nat → FdT) (o0 : Nat) (fo : Nat → Int64) (hMo : M o0) (hLo : o0 ∈ L) (hFo : F o0 = .inl (G.2.2.2.1, 1, .inr (.inl fo))) (hcl : zCl G M L F a0 n now sl fd) (x : Int32) (c9 : Nat) (hc9 : c9 ≤ 1) : zX l yL_setCritical wsL_setCritical 12 199 1 6 G L F [.ref a0, .int x, .int (nI c9), .ref o0] (fun rv L1 F1 => L1 = L ∧ (∀ b, M b → b ≠ o0 → F1 b = F b) ∧ ∃ fo1 : Nat → Int64, F1 o0 = .inl (G.2.2.2.1, 1, .inr (.inl fo1)) ∧ ((rv = some (.int (nI 0)) ∧ (∃ k : Nat, k < n ∧ x = nI k ∧ fo1 0 = (nI (fCr (fd k))).toInt64 ∧ zCl G M L1 F1 a0 n now sl (upF fd k (fdCr c9 (fd k))))) ∨ (rv = some (.int (nI 1)) ∧ (¬ zIx n x) ∧ zCl G M L1 F1 a0 n now sl fd))) (fun _ _ _ => False) := by
  obtain ⟨a1, a2, b4, b5, b6, b7, ad, hco⟩ := hcl
  have hL0 := hco.1.1
  have hF0 := hco.2.1
  refine z_ofH (cc := cL_setCritical) (nL := 5) (ret := (some .int)) (own := RL) hlst (by decide +kernel) rfl rfl (Nat.le_of_ble_eq_true rfl) ?_
  intro p e s m below meth c A htab C
  refine z_lvs (lv' := [(0, .ref a0), (1, .int x), (2, .int (nI c9)), (3, .ref o0)]) rfl ?_
  refine z_aload_n C dL_setCritical_0 rfl 3 rfl ?_
  refine z_iconst C (nI 0) dL_setCritical_1 (by decide) ?_
  refine z_aload_n C dL_setCritical_2 rfl 0 rfl ?_
  refine z_iload_n C dL_setCritical_3 rfl 1 rfl ?_
  refine z_iload_n C dL_setCritical_4 rfl 2 rfl ?_
  refine z_callVX (As := [.int x, .int (nI c9)]) (st := [.int (nI 0), .ref o0]) (mc := 1) (ms := 6) C hL0 hF0 rfl (c_X2_setCritical l hlst G L F M a0 a1 a2 b4 b5 b6 b7 ad n now sl fd hco x c9 hc9) (cwV 2 C.1.2.2.2.2 gL_setCritical_X2_setCritical rfl rfl rfl (by decide +kernel) ⟨Nat.le_of_ble_eq_true rfl, Nat.le_of_ble_eq_true rfl⟩) rfl (Nat.le_of_ble_eq_true rfl) ⟨Nat.le_of_ble_eq_true rfl, Nat.le_of_ble_eq_true rfl⟩ dL_setCritical_5 (fun E9 L9 F9 hx => ?_) (fun rv9 L9 F9 hp9 => ?_)
  · -- throws
    obtain ⟨e92, e93, e94, q1⟩ := hx
    subst e94; rw [e92, e93]
    refine z_catch C [] ⟨0, 17, 20, 21⟩ [] (htab.trans rfl) (by intro z hz; cases hz) (by decide) (by decide) 20 rfl (by decide +kernel : Cond.classLink RL 21 "java/lang/IndexOutOfBoundsException" ∈ _) (by decide +kernel) (fun q9 => ?_)
    refine z_astore (lv' := [(4, .ref q9), (0, .ref a0), (1, .int x), (2, .int (nI c9)), (3, .ref o0)]) C dL_setCritical_20 (by decide) rfl ?_
    refine z_iconst C (nI 1) dL_setCritical_22 (by decide) ?_
    refine z_iret C rfl rfl (by decide) (by decide) dL_setCritical_23 ?_
    exact ⟨rfl, fun _ _ _ => rfl, fo, hFo, Or.inr ⟨rfl, q1, hco.cl⟩⟩
  · -- returns
    obtain ⟨k, p0, p1, e91, e92, hco9, hk9⟩ := hp9
    rw [e91, e92]
    have hFo9 : F9 o0 = .inl (G.2.2.2.1, 1, .inr (.inl fo)) := (hk9 o0 hMo).trans hFo
    obtain ⟨u1, u2, u3, u4, u5, u6, u7, u8⟩ := (hco.2.2.2.2.2.1 k p0).2.2.1
    refine z_stk (st' := [.int (nI ((fCr (fd k)))), .int (nI 0), .ref o0]) rfl ?_
    refine z_if_eq C 15 ((((fCr (fd k)) : Nat) : Int) = (0 : Int)) (zi_eq (zi_N (n := (fCr (fd k))) (by omega)) zi_0) dL_setCritical_8 (by decide) (fun c1_ => ?_) (fun c1_ => ?_)
    · -- 8 taken
      refine z_lconst C ((0 : Int64)) dL_setCritical_15 (by decide) ?_
      refine z_last C hLo hFo9 (by omega) (by omega) dL_setCritical_16 (fun F2_ h3_ k4_ => ?_)
      have kc5_ : ∀ b, b ≠ o0 → F2_ b = F9 b := fun b q0 => k4_ b q0
      refine z_goto C 24 dL_setCritical_17 (by decide) ?_
      refine z_iconst C (nI 0) dL_setCritical_24 (by decide) ?_
      refine z_iret C rfl rfl (by decide) (by decide) dL_setCritical_25 ?_
      exact ⟨rfl, fun b hb h0 => (kc5_ b h0).trans (hk9 b hb), _, h3_, Or.inl ⟨rfl, k, p0, p1, (vL0 _ _).trans (by rw [show fCr (fd k) = 0 by omega]; rfl), hco9.off (fun b hb => kc5_ b (fun e => hb (e ▸ hMo)))⟩⟩
    · -- 8 not taken
      refine z_lconst C ((1 : Int64)) dL_setCritical_11 (by decide) ?_
      refine z_goto C 16 dL_setCritical_12 (by decide) ?_
      refine z_last C hLo hFo9 (by omega) (by omega) dL_setCritical_16 (fun F6_ h7_ k8_ => ?_)
      have kc9_ : ∀ b, b ≠ o0 → F6_ b = F9 b := fun b q0 => k8_ b q0
      refine z_goto C 24 dL_setCritical_17 (by decide) ?_
      refine z_iconst C (nI 0) dL_setCritical_24 (by decide) ?_
      refine z_iret C rfl rfl (by decide) (by decide) dL_setCritical_25 ?_
      exact ⟨rfl, fun b hb h0 => (kc9_ b h0).trans (hk9 b hb), _, h7_, Or.inl ⟨rfl, k, p0, p1, (vL0 _ _).trans (by rw [show fCr (fd k) = 1 by omega]; rfl), hco9.off (fun b hb => kc9_ b (fun e => hb (e ▸ hMo)))⟩⟩

set_option maxHeartbeats 4000000 in
set_option maxRecDepth 100000 in
theorem c_L_setSlack (l : Launch) (hlst : l.stackTraces = false) (G : zGt) (L : List Nat) (F : Nat → va_E) (M : Nat → Prop) (a0 n now sl : Nat) (fd : Nat → FdT) (o0 : Nat) (fo : Nat → Int64) (hMo : M o0) (hLo : o0 ∈ L) (hFo : F o0 = .inl (G.2.2.2.1, 1, .inr (.inl fo))) (hcl : zCl G M L F a0 n now sl fd) (v : Int32) : zX l yL_setSlack wsL_setSlack 9 134 1 6 G L F [.ref a0, .int v, .ref o0] (fun rv L1 F1 => L1 = L ∧ (∀ b, M b → b ≠ o0 → F1 b = F b) ∧ ∃ fo1 : Nat → Int64, F1 o0 = .inl (G.2.2.2.1, 1, .inr (.inl fo1)) ∧ ((rv = some (.int (nI 0)) ∧ (∃ j : Nat, v = nI j ∧ j ≤ 999 ∧ fo1 0 = (nI sl).toInt64 ∧ zCl G M L1 F1 a0 n now j fd)) ∨ (rv = some (.int (nI 1)) ∧ (¬ zIn 0 999 v) ∧ zCl G M L1 F1 a0 n now sl fd))) (fun _ _ _ => False) := by
  obtain ⟨a1, a2, b4, b5, b6, b7, ad, hco⟩ := hcl
  have hL0 := hco.1.1
  have hF0 := hco.2.1
  refine z_ofH (cc := cL_setSlack) (nL := 4) (ret := (some .int)) (own := RL) hlst (by decide +kernel) rfl rfl (Nat.le_of_ble_eq_true rfl) ?_
  intro p e s m below meth c A htab C
  refine z_lvs (lv' := [(0, .ref a0), (1, .int v), (2, .ref o0)]) rfl ?_
  refine z_aload_n C dL_setSlack_0 rfl 2 rfl ?_
  refine z_iconst C (nI 0) dL_setSlack_1 (by decide) ?_
  refine z_aload_n C dL_setSlack_2 rfl 0 rfl ?_
  refine z_iload_n C dL_setSlack_3 rfl 1 rfl ?_
  refine z_callVX (As := [.int v]) (st := [.int (nI 0), .ref o0]) (mc := 1) (ms := 6) C hL0 hF0 rfl (c_X2_setSlack l hlst G L F M a0 a1 a2 b4 b5 b6 b7 ad n now sl fd hco v) (cwV 1 C.1.2.2.2.2 gL_setSlack_X2_setSlack rfl rfl rfl (by decide +kernel) ⟨Nat.le_of_ble_eq_true rfl, Nat.le_of_ble_eq_true rfl⟩) rfl (Nat.le_of_ble_eq_true rfl) ⟨Nat.le_of_ble_eq_true rfl, Nat.le_of_ble_eq_true rfl⟩ dL_setSlack_4 (fun E9 L9 F9 hx => ?_) (fun rv9 L9 F9 hp9 => ?_)
  · -- throws
    obtain ⟨e92, e93, e94, q1⟩ := hx
    subst e94; rw [e92, e93]
    refine z_catch C [] ⟨0, 9, 12, 13⟩ [] (htab.trans rfl) (by intro z hz; cases hz) (by decide) (by decide) 12 rfl (by decide +kernel : Cond.classLink RL 13 "java/lang/IllegalArgumentException" ∈ _) (by decide +kernel) (fun q9 => ?_)
    refine z_astore_n (lv' := [(3, .ref q9), (0, .ref a0), (1, .int v), (2, .ref o0)]) C dL_setSlack_12 rfl (by decide) rfl ?_
    refine z_iconst C (nI 1) dL_setSlack_13 (by decide) ?_
    refine z_iret C rfl rfl (by decide) (by decide) dL_setSlack_14 ?_
    exact ⟨rfl, fun _ _ _ => rfl, fo, hFo, Or.inr ⟨rfl, q1, hco.cl⟩⟩
  · -- returns
    obtain ⟨j, p0, p1, e91, e92, hco9, hk9⟩ := hp9
    rw [e91, e92]
    have hFo9 : F9 o0 = .inl (G.2.2.2.1, 1, .inr (.inl fo)) := (hk9 o0 hMo).trans hFo
    refine z_stk (st' := [.int (nI sl), .int (nI 0), .ref o0]) rfl ?_
    refine z_i2l C ((nI sl).toInt64) dL_setSlack_7 rfl ?_
    refine z_last C hLo hFo9 (by omega) (by omega) dL_setSlack_8 (fun F1_ h2_ k3_ => ?_)
    have kc4_ : ∀ b, b ≠ o0 → F1_ b = F9 b := fun b q0 => k3_ b q0
    refine z_goto C 15 dL_setSlack_9 (by decide) ?_
    refine z_iconst C (nI 0) dL_setSlack_15 (by decide) ?_
    refine z_iret C rfl rfl (by decide) (by decide) dL_setSlack_16 ?_
    exact ⟨rfl, fun b hb h0 => (kc4_ b h0).trans (hk9 b hb), _, h2_, Or.inl ⟨rfl, j, p0, p1, vL0 _ _, hco9.off (fun b hb => kc4_ b (fun e => hb (e ▸ hMo)))⟩⟩

set_option maxHeartbeats 4000000 in
set_option maxRecDepth 100000 in
theorem c_L_pass (l : Launch) (hlst : l.stackTraces = false) (G : zGt) (L : List Nat) (F : Nat → va_E) (M : Nat → Prop) (a0 n now sl : Nat) (fd : Nat → FdT) (o0 : Nat) (fo : Nat → Int64) (hMo : M o0) (hLo : o0 ∈ L) (hFo : F o0 = .inl (G.2.2.2.1, 1, .inr (.inl fo))) (hcl : zCl G M L F a0 n now sl fd) (v : Int32) (hn9 : now ≤ 59900) : zX l yL_pass wsL_pass 11 176 1 6 G L F [.ref a0, .int v, .ref o0] (fun rv L1 F1 => L1 = L ∧ (∀ b, M b → b ≠ o0 → F1 b = F b) ∧ ∃ fo1 : Nat → Int64, F1 o0 = .inl (G.2.2.2.1, 1, .inr (.inl fo1)) ∧ ((rv = some (.int (nI 0)) ∧ (∃ ps : Nat, v = nI ps ∧ 1 ≤ ps ∧ ps ≤ 100 ∧ fo1 0 = (nI (now + ps)).toInt64 ∧ zCl G M L1 F1 a0 n (now + ps) sl (fdK (fun _ r => fPs ps r) fd n))) ∨ (rv = some (.int (nI 1)) ∧ (¬ zIn 1 100 v) ∧ zCl G M L1 F1 a0 n now sl fd))) (fun _ _ _ => False) := by
  obtain ⟨a1, a2, b4, b5, b6, b7, ad, hco⟩ := hcl
  have hL0 := hco.1.1
  have hF0 := hco.2.1
  refine z_ofH (cc := cL_pass) (nL := 4) (ret := (some .int)) (own := RL) hlst (by decide +kernel) rfl rfl (Nat.le_of_ble_eq_true rfl) ?_
  intro p e s m below meth c A htab C
  refine z_lvs (lv' := [(0, .ref a0), (1, .int v), (2, .ref o0)]) rfl ?_
  refine z_aload_n C dL_pass_0 rfl 2 rfl ?_
  refine z_iconst C (nI 0) dL_pass_1 (by decide) ?_
  refine z_aload_n C dL_pass_2 rfl 0 rfl ?_
  refine z_iload_n C dL_pass_3 rfl 1 rfl ?_
  refine z_callVX (As := [.int v]) (st := [.int (nI 0), .ref o0]) (mc := 1) (ms := 6) C hL0 hF0 rfl (c_X2_pass l hlst G L F M a0 a1 a2 b4 b5 b6 b7 ad n now sl fd hco v hn9) (cwV 1 C.1.2.2.2.2 gL_pass_X2_pass rfl rfl rfl (by decide +kernel) ⟨Nat.le_of_ble_eq_true rfl, Nat.le_of_ble_eq_true rfl⟩) rfl (Nat.le_of_ble_eq_true rfl) ⟨Nat.le_of_ble_eq_true rfl, Nat.le_of_ble_eq_true rfl⟩ dL_pass_4 (fun E9 L9 F9 hx => ?_) (fun rv9 L9 F9 hp9 => ?_)
  · -- throws
    obtain ⟨e92, e93, e94, q1⟩ := hx
    subst e94; rw [e92, e93]
    refine z_catch C [] ⟨0, 9, 12, 13⟩ [] (htab.trans rfl) (by intro z hz; cases hz) (by decide) (by decide) 12 rfl (by decide +kernel : Cond.classLink RL 13 "java/lang/IllegalArgumentException" ∈ _) (by decide +kernel) (fun q9 => ?_)
    refine z_astore_n (lv' := [(3, .ref q9), (0, .ref a0), (1, .int v), (2, .ref o0)]) C dL_pass_12 rfl (by decide) rfl ?_
    refine z_iconst C (nI 1) dL_pass_13 (by decide) ?_
    refine z_iret C rfl rfl (by decide) (by decide) dL_pass_14 ?_
    exact ⟨rfl, fun _ _ _ => rfl, fo, hFo, Or.inr ⟨rfl, q1, hco.cl⟩⟩
  · -- returns
    obtain ⟨ps, p0, p1, p2, e91, e92, hco9, hk9⟩ := hp9
    rw [e91, e92]
    have hFo9 : F9 o0 = .inl (G.2.2.2.1, 1, .inr (.inl fo)) := (hk9 o0 hMo).trans hFo
    refine z_stk (st' := [.int (nI ((now + ps))), .int (nI 0), .ref o0]) rfl ?_
    refine z_i2l C ((nI ((now + ps))).toInt64) dL_pass_7 rfl ?_
    refine z_last C hLo hFo9 (by omega) (by omega) dL_pass_8 (fun F1_ h2_ k3_ => ?_)
    have kc4_ : ∀ b, b ≠ o0 → F1_ b = F9 b := fun b q0 => k3_ b q0
    refine z_goto C 15 dL_pass_9 (by decide) ?_
    refine z_iconst C (nI 0) dL_pass_15 (by decide) ?_
    refine z_iret C rfl rfl (by decide) (by decide) dL_pass_16 ?_
    exact ⟨rfl, fun b hb h0 => (kc4_ b h0).trans (hk9 b hb), _, h2_, Or.inl ⟨rfl, ps, p0, p1, p2, vL0 _ _, hco9.off (fun b hb => kc4_ b (fun e => hb (e ▸ hMo)))⟩⟩

set_option maxHeartbeats 4000000 in
set_option maxRecDepth 100000 in
theorem c_L_relieve (l : Launch) (hlst : l.stackTraces = false) (G : zGt) (L : List Nat) (F : Nat → va_E) (M : Nat → Prop) (a0 n now sl : Nat) (fd : Nat → FdT) (o0 : Nat) (fo : Nat → Int64) (hMo : M o0) (hLo : o0 ∈ L) (hFo : F o0 = .inl (G.2.2.2.1, 1, .inr (.inl fo))) (hcl : zCl G M L F a0 n now sl fd) (v : Int32) : zX l yL_relieve wsL_relieve 23 685 2 12 G L F [.ref a0, .int v, .ref o0] (fun rv L1 F1 => L1 = L ∧ (∀ b, M b → b ≠ o0 → F1 b = F b) ∧ ∃ fo1 : Nat → Int64, F1 o0 = .inl (G.2.2.2.1, 1, .inr (.inl fo1)) ∧ ((rv = some (.int (nI 0)) ∧ (∃ sf b : Nat, v = nI sf ∧ 1 ≤ sf ∧ sf ≤ 20000 ∧ isB n fd sl sf b ∧ b ≠ 0 ∧ fo1 0 = (nI (smV (fun i => reT b i (fd i)) n)).toInt64 ∧ zCl G M L1 F1 a0 n now sl (fdK (fun i r => reG b i r) fd n))) ∨ (rv = some (.int (nI 1)) ∧ (¬ zIn 1 20000 v) ∧ zCl G M L1 F1 a0 n now sl fd) ∨ (rv = some (.int (nI 2)) ∧ (∃ sf : Nat, v = nI sf ∧ 1 ≤ sf ∧ sf ≤ 20000 ∧ isB n fd sl sf 0) ∧ zCl G M L1 F1 a0 n now sl fd))) (fun _ _ _ => False) := by
  obtain ⟨a1, a2, b4, b5, b6, b7, ad, hco⟩ := hcl
  have hL0 := hco.1.1
  have hF0 := hco.2.1
  refine z_ofH (cc := cL_relieve) (nL := 4) (ret := (some .int)) (own := RL) hlst (by decide +kernel) rfl rfl (Nat.le_of_ble_eq_true rfl) ?_
  intro p e s m below meth c A htab C
  refine z_lvs (lv' := [(0, .ref a0), (1, .int v), (2, .ref o0)]) rfl ?_
  refine z_aload_n C dL_relieve_0 rfl 2 rfl ?_
  refine z_iconst C (nI 0) dL_relieve_1 (by decide) ?_
  refine z_aload_n C dL_relieve_2 rfl 0 rfl ?_
  refine z_iload_n C dL_relieve_3 rfl 1 rfl ?_
  refine z_callVX (As := [.int v]) (st := [.int (nI 0), .ref o0]) (mc := 2) (ms := 12) C hL0 hF0 rfl (c_X2_relieve l hlst G L F M a0 a1 a2 b4 b5 b6 b7 ad n now sl fd hco v) (cwV 1 C.1.2.2.2.2 gL_relieve_X2_relieve rfl rfl rfl (by decide +kernel) ⟨Nat.le_of_ble_eq_true rfl, Nat.le_of_ble_eq_true rfl⟩) rfl (Nat.le_of_ble_eq_true rfl) ⟨Nat.le_of_ble_eq_true rfl, Nat.le_of_ble_eq_true rfl⟩ dL_relieve_4 (fun E9 L9 F9 hx => ?_) (fun rv9 L9 F9 hp9 => ?_)
  · -- throws
    rcases hx with ⟨e92, e93, e94, q1⟩ | ⟨sf, q1, q2, q3, e94, q4, e92, hco9, hk9⟩
    · -- "java/lang/IllegalArgumentException"
      subst e94; rw [e92, e93]
      refine z_catch C [] ⟨0, 9, 12, 13⟩ [⟨0, 9, 15, 37⟩] (htab.trans rfl) (by intro z hz; cases hz) (by decide) (by decide) 12 rfl (by decide +kernel : Cond.classLink RL 13 "java/lang/IllegalArgumentException" ∈ _) (by decide +kernel) (fun q9 => ?_)
      refine z_astore_n (lv' := [(3, .ref q9), (0, .ref a0), (1, .int v), (2, .ref o0)]) C dL_relieve_12 rfl (by decide) rfl ?_
      refine z_iconst C (nI 1) dL_relieve_13 (by decide) ?_
      refine z_iret C rfl rfl (by decide) (by decide) dL_relieve_14 ?_
      exact ⟨rfl, fun _ _ _ => rfl, fo, hFo, Or.inr (Or.inl ⟨rfl, q1, hco.cl⟩)⟩
    · -- "java/util/NoSuchElementException"
      subst e94; rw [e92]
      refine z_catch C [⟨0, 9, 12, 13⟩] ⟨0, 9, 15, 37⟩ [] (htab.trans rfl) (by intro z hz; obtain rfl := List.mem_singleton.mp hz; exact Or.inr ⟨by decide, "java/lang/IllegalArgumentException", by decide +kernel, by decide +kernel⟩) (by decide) (by decide) 15 rfl (by decide +kernel : Cond.classLink RL 37 "java/util/NoSuchElementException" ∈ _) (by decide +kernel) (fun q9 => ?_)
      refine z_astore_n (lv' := [(3, .ref q9), (0, .ref a0), (1, .int v), (2, .ref o0)]) C dL_relieve_15 rfl (by decide) rfl ?_
      refine z_iconst C (nI 2) dL_relieve_16 (by decide) ?_
      refine z_iret C rfl rfl (by decide) (by decide) dL_relieve_17 ?_
      exact ⟨rfl, fun b hb _ => hk9 b hb, fo, (hk9 o0 hMo).trans hFo, Or.inr (Or.inr ⟨rfl, ⟨sf, q1, q2, q3, q4⟩, hco9.cl⟩)⟩
  · -- returns
    obtain ⟨sf, b, p0, p1, p2, e91, p3, p4, e92, hco9, hk9⟩ := hp9
    rw [e91, e92]
    have hFo9 : F9 o0 = .inl (G.2.2.2.1, 1, .inr (.inl fo)) := (hk9 o0 hMo).trans hFo
    refine z_stk (st' := [.int (nI ((smV (fun i => reT b i (fd i)) n))), .int (nI 0), .ref o0]) rfl ?_
    refine z_i2l C ((nI ((smV (fun i => reT b i (fd i)) n))).toInt64) dL_relieve_7 rfl ?_
    refine z_last C hLo hFo9 (by omega) (by omega) dL_relieve_8 (fun F1_ h2_ k3_ => ?_)
    have kc4_ : ∀ b, b ≠ o0 → F1_ b = F9 b := fun b q0 => k3_ b q0
    refine z_goto C 18 dL_relieve_9 (by decide) ?_
    refine z_iconst C (nI 0) dL_relieve_18 (by decide) ?_
    refine z_iret C rfl rfl (by decide) (by decide) dL_relieve_19 ?_
    exact ⟨rfl, fun b hb h0 => (kc4_ b h0).trans (hk9 b hb), _, h2_, Or.inl ⟨rfl, sf, b, p0, p1, p2, p3, p4, vL0 _ _, hco9.off (fun b hb => kc4_ b (fun e => hb (e ▸ hMo)))⟩⟩

set_option maxHeartbeats 4000000 in
set_option maxRecDepth 100000 in
theorem c_L_rotate (l : Launch) (hlst : l.stackTraces = false) (G : zGt) (L : List Nat) (F : Nat → va_E) (M : Nat → Prop) (a0 n now sl : Nat) (fd : Nat → FdT) (o0 : Nat) (fo : Nat → Int64) (hMo : M o0) (hLo : o0 ∈ L) (hFo : F o0 = .inl (G.2.2.2.1, 1, .inr (.inl fo))) (hcl : zCl G M L F a0 n now sl fd)  : zX l yL_rotate wsL_rotate 23 683 1 6 G L F [.ref a0, .ref o0] (fun rv L1 F1 => L1 = L ∧ (∀ b, M b → b ≠ o0 → F1 b = F b) ∧ ∃ fo1 : Nat → Int64, F1 o0 = .inl (G.2.2.2.1, 1, .inr (.inl fo1)) ∧ ((rv = some (.int (nI 0)) ∧ (∃ b : Nat, 0 < (smV (fun j => rtV (fd j)) n) ∧ isB n fd sl (smV (fun j => rtV (fd j)) n) b ∧ b ≠ 0 ∧ fo1 0 = (nI (smV (fun i => swT (fd i)) n)).toInt64 ∧ zCl G M L1 F1 a0 n now sl (fdK (fun i r => swG b i r) fd n))) ∨ (rv = some (.int (nI 1)) ∧ ((smV (fun j => rtV (fd j)) n) = 0) ∧ zCl G M L1 F1 a0 n now sl fd) ∨ (rv = some (.int (nI 2)) ∧ (0 < (smV (fun j => rtV (fd j)) n) ∧ isB n fd sl (smV (fun j => rtV (fd j)) n) 0) ∧ zCl G M L1 F1 a0 n now sl fd))) (fun _ _ _ => False) := by
  obtain ⟨a1, a2, b4, b5, b6, b7, ad, hco⟩ := hcl
  have hL0 := hco.1.1
  have hF0 := hco.2.1
  refine z_ofH (cc := cL_rotate) (nL := 3) (ret := (some .int)) (own := RL) hlst (by decide +kernel) rfl rfl (Nat.le_of_ble_eq_true rfl) ?_
  intro p e s m below meth c A htab C
  refine z_lvs (lv' := [(0, .ref a0), (1, .ref o0)]) rfl ?_
  refine z_aload_n C dL_rotate_0 rfl 1 rfl ?_
  refine z_iconst C (nI 0) dL_rotate_1 (by decide) ?_
  refine z_aload_n C dL_rotate_2 rfl 0 rfl ?_
  refine z_callVX (As := []) (st := [.int (nI 0), .ref o0]) (mc := 1) (ms := 6) C hL0 hF0 rfl (c_X2_rotate l hlst G L F M a0 a1 a2 b4 b5 b6 b7 ad n now sl fd hco ) (cwV 0 C.1.2.2.2.2 gL_rotate_X2_rotate rfl rfl rfl (by decide +kernel) ⟨Nat.le_of_ble_eq_true rfl, Nat.le_of_ble_eq_true rfl⟩) rfl (Nat.le_of_ble_eq_true rfl) ⟨Nat.le_of_ble_eq_true rfl, Nat.le_of_ble_eq_true rfl⟩ dL_rotate_3 (fun E9 L9 F9 hx => ?_) (fun rv9 L9 F9 hp9 => ?_)
  · -- throws
    rcases hx with ⟨e92, e93, e94, q1⟩ | ⟨e94, q1, q2, e92, hco9, hk9⟩
    · -- "java/lang/IllegalStateException"
      subst e94; rw [e92, e93]
      refine z_catch C [] ⟨0, 8, 11, 15⟩ [⟨0, 8, 14, 37⟩] (htab.trans rfl) (by intro z hz; cases hz) (by decide) (by decide) 11 rfl (by decide +kernel : Cond.classLink RL 15 "java/lang/IllegalStateException" ∈ _) (by decide +kernel) (fun q9 => ?_)
      refine z_astore_n (lv' := [(2, .ref q9), (0, .ref a0), (1, .ref o0)]) C dL_rotate_11 rfl (by decide) rfl ?_
      refine z_iconst C (nI 1) dL_rotate_12 (by decide) ?_
      refine z_iret C rfl rfl (by decide) (by decide) dL_rotate_13 ?_
      exact ⟨rfl, fun _ _ _ => rfl, fo, hFo, Or.inr (Or.inl ⟨rfl, q1, hco.cl⟩)⟩
    · -- "java/util/NoSuchElementException"
      subst e94; rw [e92]
      refine z_catch C [⟨0, 8, 11, 15⟩] ⟨0, 8, 14, 37⟩ [] (htab.trans rfl) (by intro z hz; obtain rfl := List.mem_singleton.mp hz; exact Or.inr ⟨by decide, "java/lang/IllegalStateException", by decide +kernel, by decide +kernel⟩) (by decide) (by decide) 14 rfl (by decide +kernel : Cond.classLink RL 37 "java/util/NoSuchElementException" ∈ _) (by decide +kernel) (fun q9 => ?_)
      refine z_astore_n (lv' := [(2, .ref q9), (0, .ref a0), (1, .ref o0)]) C dL_rotate_14 rfl (by decide) rfl ?_
      refine z_iconst C (nI 2) dL_rotate_15 (by decide) ?_
      refine z_iret C rfl rfl (by decide) (by decide) dL_rotate_16 ?_
      exact ⟨rfl, fun b hb _ => hk9 b hb, fo, (hk9 o0 hMo).trans hFo, Or.inr (Or.inr ⟨rfl, ⟨q1, q2⟩, hco9.cl⟩)⟩
  · -- returns
    obtain ⟨b, p0, e91, p1, p2, e92, hco9, hk9⟩ := hp9
    rw [e91, e92]
    have hFo9 : F9 o0 = .inl (G.2.2.2.1, 1, .inr (.inl fo)) := (hk9 o0 hMo).trans hFo
    refine z_stk (st' := [.int (nI ((smV (fun i => swT (fd i)) n))), .int (nI 0), .ref o0]) rfl ?_
    refine z_i2l C ((nI ((smV (fun i => swT (fd i)) n))).toInt64) dL_rotate_6 rfl ?_
    refine z_last C hLo hFo9 (by omega) (by omega) dL_rotate_7 (fun F1_ h2_ k3_ => ?_)
    have kc4_ : ∀ b, b ≠ o0 → F1_ b = F9 b := fun b q0 => k3_ b q0
    refine z_goto C 17 dL_rotate_8 (by decide) ?_
    refine z_iconst C (nI 0) dL_rotate_17 (by decide) ?_
    refine z_iret C rfl rfl (by decide) (by decide) dL_rotate_18 ?_
    exact ⟨rfl, fun b hb h0 => (kc4_ b h0).trans (hk9 b hb), _, h2_, Or.inl ⟨rfl, b, p0, p1, p2, vL0 _ _, hco9.off (fun b hb => kc4_ b (fun e => hb (e ▸ hMo)))⟩⟩

set_option maxHeartbeats 4000000 in
set_option maxRecDepth 100000 in
theorem c_L_trip (l : Launch) (hlst : l.stackTraces = false) (G : zGt) (L : List Nat) (F : Nat → va_E) (M : Nat → Prop) (a0 n now sl : Nat) (fd : Nat → FdT) (o0 : Nat) (fo : Nat → Int64) (hMo : M o0) (hLo : o0 ∈ L) (hFo : F o0 = .inl (G.2.2.2.1, 1, .inr (.inl fo))) (hcl : zCl G M L F a0 n now sl fd) (v : Int32) : zX l yL_trip wsL_trip 11 178 1 6 G L F [.ref a0, .int v, .ref o0] (fun rv L1 F1 => L1 = L ∧ (∀ b, M b → b ≠ o0 → F1 b = F b) ∧ ∃ fo1 : Nat → Int64, F1 o0 = .inl (G.2.2.2.1, 1, .inr (.inl fo1)) ∧ ((rv = some (.int (nI 0)) ∧ (∃ st : Nat, v = nI st ∧ 1 ≤ st ∧ st ≤ 3 ∧ fo1 0 = (nI (smV (fun i => trT st (fd i)) n)).toInt64 ∧ zCl G M L1 F1 a0 n now sl (fdK (fun _ r => trG st r) fd n))) ∨ (rv = some (.int (nI 1)) ∧ (¬ zIn 1 3 v) ∧ zCl G M L1 F1 a0 n now sl fd))) (fun _ _ _ => False) := by
  obtain ⟨a1, a2, b4, b5, b6, b7, ad, hco⟩ := hcl
  have hL0 := hco.1.1
  have hF0 := hco.2.1
  refine z_ofH (cc := cL_trip) (nL := 4) (ret := (some .int)) (own := RL) hlst (by decide +kernel) rfl rfl (Nat.le_of_ble_eq_true rfl) ?_
  intro p e s m below meth c A htab C
  refine z_lvs (lv' := [(0, .ref a0), (1, .int v), (2, .ref o0)]) rfl ?_
  refine z_aload_n C dL_trip_0 rfl 2 rfl ?_
  refine z_iconst C (nI 0) dL_trip_1 (by decide) ?_
  refine z_aload_n C dL_trip_2 rfl 0 rfl ?_
  refine z_iload_n C dL_trip_3 rfl 1 rfl ?_
  refine z_callVX (As := [.int v]) (st := [.int (nI 0), .ref o0]) (mc := 1) (ms := 6) C hL0 hF0 rfl (c_X2_trip l hlst G L F M a0 a1 a2 b4 b5 b6 b7 ad n now sl fd hco v) (cwV 1 C.1.2.2.2.2 gL_trip_X2_trip rfl rfl rfl (by decide +kernel) ⟨Nat.le_of_ble_eq_true rfl, Nat.le_of_ble_eq_true rfl⟩) rfl (Nat.le_of_ble_eq_true rfl) ⟨Nat.le_of_ble_eq_true rfl, Nat.le_of_ble_eq_true rfl⟩ dL_trip_4 (fun E9 L9 F9 hx => ?_) (fun rv9 L9 F9 hp9 => ?_)
  · -- throws
    obtain ⟨e92, e93, e94, q1⟩ := hx
    subst e94; rw [e92, e93]
    refine z_catch C [] ⟨0, 9, 12, 13⟩ [] (htab.trans rfl) (by intro z hz; cases hz) (by decide) (by decide) 12 rfl (by decide +kernel : Cond.classLink RL 13 "java/lang/IllegalArgumentException" ∈ _) (by decide +kernel) (fun q9 => ?_)
    refine z_astore_n (lv' := [(3, .ref q9), (0, .ref a0), (1, .int v), (2, .ref o0)]) C dL_trip_12 rfl (by decide) rfl ?_
    refine z_iconst C (nI 1) dL_trip_13 (by decide) ?_
    refine z_iret C rfl rfl (by decide) (by decide) dL_trip_14 ?_
    exact ⟨rfl, fun _ _ _ => rfl, fo, hFo, Or.inr ⟨rfl, q1, hco.cl⟩⟩
  · -- returns
    obtain ⟨st, p0, p1, p2, e91, e92, hco9, hk9⟩ := hp9
    rw [e91, e92]
    have hFo9 : F9 o0 = .inl (G.2.2.2.1, 1, .inr (.inl fo)) := (hk9 o0 hMo).trans hFo
    refine z_stk (st' := [.int (nI ((smV (fun i => trT st (fd i)) n))), .int (nI 0), .ref o0]) rfl ?_
    refine z_i2l C ((nI ((smV (fun i => trT st (fd i)) n))).toInt64) dL_trip_7 rfl ?_
    refine z_last C hLo hFo9 (by omega) (by omega) dL_trip_8 (fun F1_ h2_ k3_ => ?_)
    have kc4_ : ∀ b, b ≠ o0 → F1_ b = F9 b := fun b q0 => k3_ b q0
    refine z_goto C 15 dL_trip_9 (by decide) ?_
    refine z_iconst C (nI 0) dL_trip_15 (by decide) ?_
    refine z_iret C rfl rfl (by decide) (by decide) dL_trip_16 ?_
    exact ⟨rfl, fun b hb h0 => (kc4_ b h0).trans (hk9 b hb), _, h2_, Or.inl ⟨rfl, st, p0, p1, p2, vL0 _ _, hco9.off (fun b hb => kc4_ b (fun e => hb (e ▸ hMo)))⟩⟩

set_option maxHeartbeats 4000000 in
set_option maxRecDepth 100000 in
theorem c_L_restore (l : Launch) (hlst : l.stackTraces = false) (G : zGt) (L : List Nat) (F : Nat → va_E) (M : Nat → Prop) (a0 n now sl : Nat) (fd : Nat → FdT) (o0 : Nat) (fo : Nat → Int64) (hMo : M o0) (hLo : o0 ∈ L) (hFo : F o0 = .inl (G.2.2.2.1, 1, .inr (.inl fo))) (hcl : zCl G M L F a0 n now sl fd) (x : Int32) : zX l yL_restore wsL_restore 12 197 2 12 G L F [.ref a0, .int x, .ref o0] (fun rv L1 F1 => L1 = L ∧ (∀ b, M b → b ≠ o0 → F1 b = F b) ∧ ∃ fo1 : Nat → Int64, F1 o0 = .inl (G.2.2.2.1, 1, .inr (.inl fo1)) ∧ ((rv = some (.int (nI 0)) ∧ (∃ k : Nat, k < n ∧ x = nI k ∧ fOf (fd k) = 1 ∧ fo1 0 = (nI (fTk (fOn (fd k)))).toInt64 ∧ zCl G M L1 F1 a0 n now sl (upF fd k (fOn (fd k))))) ∨ (rv = some (.int (nI 1)) ∧ (¬ zIx n x) ∧ zCl G M L1 F1 a0 n now sl fd) ∨ (rv = some (.int (nI 2)) ∧ (∃ k : Nat, k < n ∧ x = nI k ∧ fOf (fd k) = 0) ∧ zCl G M L1 F1 a0 n now sl fd))) (fun _ _ _ => False) := by
  obtain ⟨a1, a2, b4, b5, b6, b7, ad, hco⟩ := hcl
  have hL0 := hco.1.1
  have hF0 := hco.2.1
  refine z_ofH (cc := cL_restore) (nL := 4) (ret := (some .int)) (own := RL) hlst (by decide +kernel) rfl rfl (Nat.le_of_ble_eq_true rfl) ?_
  intro p e s m below meth c A htab C
  refine z_lvs (lv' := [(0, .ref a0), (1, .int x), (2, .ref o0)]) rfl ?_
  refine z_aload_n C dL_restore_0 rfl 2 rfl ?_
  refine z_iconst C (nI 0) dL_restore_1 (by decide) ?_
  refine z_aload_n C dL_restore_2 rfl 0 rfl ?_
  refine z_iload_n C dL_restore_3 rfl 1 rfl ?_
  refine z_callVX (As := [.int x]) (st := [.int (nI 0), .ref o0]) (mc := 2) (ms := 12) C hL0 hF0 rfl (c_X2_restore l hlst G L F M a0 a1 a2 b4 b5 b6 b7 ad n now sl fd hco x) (cwV 1 C.1.2.2.2.2 gL_restore_X2_restore rfl rfl rfl (by decide +kernel) ⟨Nat.le_of_ble_eq_true rfl, Nat.le_of_ble_eq_true rfl⟩) rfl (Nat.le_of_ble_eq_true rfl) ⟨Nat.le_of_ble_eq_true rfl, Nat.le_of_ble_eq_true rfl⟩ dL_restore_4 (fun E9 L9 F9 hx => ?_) (fun rv9 L9 F9 hp9 => ?_)
  · -- throws
    obtain ⟨e92, e93, ⟨e94, q1⟩ | ⟨e94, q1⟩⟩ := hx
    · -- "java/lang/IndexOutOfBoundsException"
      subst e94; rw [e92, e93]
      refine z_catch C [] ⟨0, 9, 12, 21⟩ [⟨0, 9, 15, 15⟩] (htab.trans rfl) (by intro z hz; cases hz) (by decide) (by decide) 12 rfl (by decide +kernel : Cond.classLink RL 21 "java/lang/IndexOutOfBoundsException" ∈ _) (by decide +kernel) (fun q9 => ?_)
      refine z_astore_n (lv' := [(3, .ref q9), (0, .ref a0), (1, .int x), (2, .ref o0)]) C dL_restore_12 rfl (by decide) rfl ?_
      refine z_iconst C (nI 1) dL_restore_13 (by decide) ?_
      refine z_iret C rfl rfl (by decide) (by decide) dL_restore_14 ?_
      exact ⟨rfl, fun _ _ _ => rfl, fo, hFo, Or.inr (Or.inl ⟨rfl, q1, hco.cl⟩)⟩
    · -- "java/lang/IllegalStateException"
      subst e94; rw [e92, e93]
      refine z_catch C [⟨0, 9, 12, 21⟩] ⟨0, 9, 15, 15⟩ [] (htab.trans rfl) (by intro z hz; obtain rfl := List.mem_singleton.mp hz; exact Or.inr ⟨by decide, "java/lang/IndexOutOfBoundsException", by decide +kernel, by decide +kernel⟩) (by decide) (by decide) 15 rfl (by decide +kernel : Cond.classLink RL 15 "java/lang/IllegalStateException" ∈ _) (by decide +kernel) (fun q9 => ?_)
      refine z_astore_n (lv' := [(3, .ref q9), (0, .ref a0), (1, .int x), (2, .ref o0)]) C dL_restore_15 rfl (by decide) rfl ?_
      refine z_iconst C (nI 2) dL_restore_16 (by decide) ?_
      refine z_iret C rfl rfl (by decide) (by decide) dL_restore_17 ?_
      exact ⟨rfl, fun _ _ _ => rfl, fo, hFo, Or.inr (Or.inr ⟨rfl, q1, hco.cl⟩)⟩
  · -- returns
    obtain ⟨k, p0, p1, p2, e91, e92, hco9, hk9⟩ := hp9
    rw [e91, e92]
    have hFo9 : F9 o0 = .inl (G.2.2.2.1, 1, .inr (.inl fo)) := (hk9 o0 hMo).trans hFo
    refine z_stk (st' := [.int (nI ((fTk (fOn (fd k))))), .int (nI 0), .ref o0]) rfl ?_
    refine z_i2l C ((nI ((fTk (fOn (fd k))))).toInt64) dL_restore_7 rfl ?_
    refine z_last C hLo hFo9 (by omega) (by omega) dL_restore_8 (fun F1_ h2_ k3_ => ?_)
    have kc4_ : ∀ b, b ≠ o0 → F1_ b = F9 b := fun b q0 => k3_ b q0
    refine z_goto C 18 dL_restore_9 (by decide) ?_
    refine z_iconst C (nI 0) dL_restore_18 (by decide) ?_
    refine z_iret C rfl rfl (by decide) (by decide) dL_restore_19 ?_
    exact ⟨rfl, fun b hb h0 => (kc4_ b h0).trans (hk9 b hb), _, h2_, Or.inl ⟨rfl, k, p0, p1, p2, vL0 _ _, hco9.off (fun b hb => kc4_ b (fun e => hb (e ▸ hMo)))⟩⟩

set_option maxHeartbeats 4000000 in
set_option maxRecDepth 100000 in
theorem c_L_cut (l : Launch) (hlst : l.stackTraces = false) (G : zGt) (L : List Nat) (F : Nat → va_E) (M : Nat → Prop) (a0 n now sl : Nat) (fd : Nat → FdT) (o0 : Nat) (fo : Nat → Int64) (hMo : M o0) (hLo : o0 ∈ L) (hFo : F o0 = .inl (G.2.2.2.1, 1, .inr (.inl fo))) (hcl : zCl G M L F a0 n now sl fd) (x : Int32) : zX l yL_cut wsL_cut 12 197 2 12 G L F [.ref a0, .int x, .ref o0] (fun rv L1 F1 => L1 = L ∧ (∀ b, M b → b ≠ o0 → F1 b = F b) ∧ ∃ fo1 : Nat → Int64, F1 o0 = .inl (G.2.2.2.1, 1, .inr (.inl fo1)) ∧ ((rv = some (.int (nI 0)) ∧ (∃ k : Nat, k < n ∧ x = nI k ∧ fOf (fd k) = 0 ∧ fo1 0 = (nI (fTk (fd k))).toInt64 ∧ zCl G M L1 F1 a0 n now sl (upF fd k (fOff (fd k))))) ∨ (rv = some (.int (nI 1)) ∧ (¬ zIx n x) ∧ zCl G M L1 F1 a0 n now sl fd) ∨ (rv = some (.int (nI 2)) ∧ (∃ k : Nat, k < n ∧ x = nI k ∧ fOf (fd k) = 1) ∧ zCl G M L1 F1 a0 n now sl fd))) (fun _ _ _ => False) := by
  obtain ⟨a1, a2, b4, b5, b6, b7, ad, hco⟩ := hcl
  have hL0 := hco.1.1
  have hF0 := hco.2.1
  refine z_ofH (cc := cL_cut) (nL := 4) (ret := (some .int)) (own := RL) hlst (by decide +kernel) rfl rfl (Nat.le_of_ble_eq_true rfl) ?_
  intro p e s m below meth c A htab C
  refine z_lvs (lv' := [(0, .ref a0), (1, .int x), (2, .ref o0)]) rfl ?_
  refine z_aload_n C dL_cut_0 rfl 2 rfl ?_
  refine z_iconst C (nI 0) dL_cut_1 (by decide) ?_
  refine z_aload_n C dL_cut_2 rfl 0 rfl ?_
  refine z_iload_n C dL_cut_3 rfl 1 rfl ?_
  refine z_callVX (As := [.int x]) (st := [.int (nI 0), .ref o0]) (mc := 2) (ms := 12) C hL0 hF0 rfl (c_X2_cut l hlst G L F M a0 a1 a2 b4 b5 b6 b7 ad n now sl fd hco x) (cwV 1 C.1.2.2.2.2 gL_cut_X2_cut rfl rfl rfl (by decide +kernel) ⟨Nat.le_of_ble_eq_true rfl, Nat.le_of_ble_eq_true rfl⟩) rfl (Nat.le_of_ble_eq_true rfl) ⟨Nat.le_of_ble_eq_true rfl, Nat.le_of_ble_eq_true rfl⟩ dL_cut_4 (fun E9 L9 F9 hx => ?_) (fun rv9 L9 F9 hp9 => ?_)
  · -- throws
    obtain ⟨e92, e93, ⟨e94, q1⟩ | ⟨e94, q1⟩⟩ := hx
    · -- "java/lang/IndexOutOfBoundsException"
      subst e94; rw [e92, e93]
      refine z_catch C [] ⟨0, 9, 12, 21⟩ [⟨0, 9, 15, 15⟩] (htab.trans rfl) (by intro z hz; cases hz) (by decide) (by decide) 12 rfl (by decide +kernel : Cond.classLink RL 21 "java/lang/IndexOutOfBoundsException" ∈ _) (by decide +kernel) (fun q9 => ?_)
      refine z_astore_n (lv' := [(3, .ref q9), (0, .ref a0), (1, .int x), (2, .ref o0)]) C dL_cut_12 rfl (by decide) rfl ?_
      refine z_iconst C (nI 1) dL_cut_13 (by decide) ?_
      refine z_iret C rfl rfl (by decide) (by decide) dL_cut_14 ?_
      exact ⟨rfl, fun _ _ _ => rfl, fo, hFo, Or.inr (Or.inl ⟨rfl, q1, hco.cl⟩)⟩
    · -- "java/lang/IllegalStateException"
      subst e94; rw [e92, e93]
      refine z_catch C [⟨0, 9, 12, 21⟩] ⟨0, 9, 15, 15⟩ [] (htab.trans rfl) (by intro z hz; obtain rfl := List.mem_singleton.mp hz; exact Or.inr ⟨by decide, "java/lang/IndexOutOfBoundsException", by decide +kernel, by decide +kernel⟩) (by decide) (by decide) 15 rfl (by decide +kernel : Cond.classLink RL 15 "java/lang/IllegalStateException" ∈ _) (by decide +kernel) (fun q9 => ?_)
      refine z_astore_n (lv' := [(3, .ref q9), (0, .ref a0), (1, .int x), (2, .ref o0)]) C dL_cut_15 rfl (by decide) rfl ?_
      refine z_iconst C (nI 2) dL_cut_16 (by decide) ?_
      refine z_iret C rfl rfl (by decide) (by decide) dL_cut_17 ?_
      exact ⟨rfl, fun _ _ _ => rfl, fo, hFo, Or.inr (Or.inr ⟨rfl, q1, hco.cl⟩)⟩
  · -- returns
    obtain ⟨k, p0, p1, p2, e91, e92, hco9, hk9⟩ := hp9
    rw [e91, e92]
    have hFo9 : F9 o0 = .inl (G.2.2.2.1, 1, .inr (.inl fo)) := (hk9 o0 hMo).trans hFo
    refine z_stk (st' := [.int (nI ((fTk (fd k)))), .int (nI 0), .ref o0]) rfl ?_
    refine z_i2l C ((nI ((fTk (fd k)))).toInt64) dL_cut_7 rfl ?_
    refine z_last C hLo hFo9 (by omega) (by omega) dL_cut_8 (fun F1_ h2_ k3_ => ?_)
    have kc4_ : ∀ b, b ≠ o0 → F1_ b = F9 b := fun b q0 => k3_ b q0
    refine z_goto C 18 dL_cut_9 (by decide) ?_
    refine z_iconst C (nI 0) dL_cut_18 (by decide) ?_
    refine z_iret C rfl rfl (by decide) (by decide) dL_cut_19 ?_
    exact ⟨rfl, fun b hb h0 => (kc4_ b h0).trans (hk9 b hb), _, h2_, Or.inl ⟨rfl, k, p0, p1, p2, vL0 _ _, hco9.off (fun b hb => kc4_ b (fun e => hb (e ▸ hMo)))⟩⟩

set_option maxHeartbeats 4000000 in
set_option maxRecDepth 100000 in
theorem c_L_isCut (l : Launch) (hlst : l.stackTraces = false) (G : zGt) (L : List Nat) (F : Nat → va_E) (M : Nat → Prop) (a0 n now sl : Nat) (fd : Nat → FdT) (o0 : Nat) (fo : Nat → Int64) (hMo : M o0) (hLo : o0 ∈ L) (hFo : F o0 = .inl (G.2.2.2.1, 1, .inr (.inl fo))) (hcl : zCl G M L F a0 n now sl fd) (x : Int32) : zX l yL_isCut wsL_isCut 12 196 1 6 G L F [.ref a0, .int x, .ref o0] (fun rv L1 F1 => L1 = L ∧ (∀ b, M b → b ≠ o0 → F1 b = F b) ∧ ∃ fo1 : Nat → Int64, F1 o0 = .inl (G.2.2.2.1, 1, .inr (.inl fo1)) ∧ ((rv = some (.int (nI 0)) ∧ (∃ k : Nat, k < n ∧ x = nI k ∧ fo1 0 = (nI (fOf (fd k))).toInt64 ∧ zCl G M L1 F1 a0 n now sl fd)) ∨ (rv = some (.int (nI 1)) ∧ (¬ zIx n x) ∧ zCl G M L1 F1 a0 n now sl fd))) (fun _ _ _ => False) := by
  obtain ⟨a1, a2, b4, b5, b6, b7, ad, hco⟩ := hcl
  have hL0 := hco.1.1
  have hF0 := hco.2.1
  refine z_ofH (cc := cL_isCut) (nL := 4) (ret := (some .int)) (own := RL) hlst (by decide +kernel) rfl rfl (Nat.le_of_ble_eq_true rfl) ?_
  intro p e s m below meth c A htab C
  refine z_lvs (lv' := [(0, .ref a0), (1, .int x), (2, .ref o0)]) rfl ?_
  refine z_aload_n C dL_isCut_0 rfl 2 rfl ?_
  refine z_iconst C (nI 0) dL_isCut_1 (by decide) ?_
  refine z_aload_n C dL_isCut_2 rfl 0 rfl ?_
  refine z_iload_n C dL_isCut_3 rfl 1 rfl ?_
  refine z_callVX (As := [.int x]) (st := [.int (nI 0), .ref o0]) (mc := 1) (ms := 6) C hL0 hF0 rfl (c_X2_isCut l hlst G L F M a0 a1 a2 b4 b5 b6 b7 ad n now sl fd hco x) (cwV 1 C.1.2.2.2.2 gL_isCut_X2_isCut rfl rfl rfl (by decide +kernel) ⟨Nat.le_of_ble_eq_true rfl, Nat.le_of_ble_eq_true rfl⟩) rfl (Nat.le_of_ble_eq_true rfl) ⟨Nat.le_of_ble_eq_true rfl, Nat.le_of_ble_eq_true rfl⟩ dL_isCut_4 (fun E9 L9 F9 hx => ?_) (fun rv9 L9 F9 hp9 => ?_)
  · -- throws
    obtain ⟨e92, e93, e94, q1⟩ := hx
    subst e94; rw [e92, e93]
    refine z_catch C [] ⟨0, 16, 19, 21⟩ [] (htab.trans rfl) (by intro z hz; cases hz) (by decide) (by decide) 19 rfl (by decide +kernel : Cond.classLink RL 21 "java/lang/IndexOutOfBoundsException" ∈ _) (by decide +kernel) (fun q9 => ?_)
    refine z_astore_n (lv' := [(3, .ref q9), (0, .ref a0), (1, .int x), (2, .ref o0)]) C dL_isCut_19 rfl (by decide) rfl ?_
    refine z_iconst C (nI 1) dL_isCut_20 (by decide) ?_
    refine z_iret C rfl rfl (by decide) (by decide) dL_isCut_21 ?_
    exact ⟨rfl, fun _ _ _ => rfl, fo, hFo, Or.inr ⟨rfl, q1, hco.cl⟩⟩
  · -- returns
    obtain ⟨k, p0, p1, e91, e92, e93⟩ := hp9
    rw [e91, e92, e93]
    have hco9 := hco
    obtain ⟨u1, u2, u3, u4, u5, u6, u7, u8⟩ := (hco.2.2.2.2.2.1 k p0).2.2.1
    refine z_stk (st' := [.int (nI ((fOf (fd k)))), .int (nI 0), .ref o0]) rfl ?_
    refine z_if_eq C 14 ((((fOf (fd k)) : Nat) : Int) = (0 : Int)) (zi_eq (zi_N (n := (fOf (fd k))) (by omega)) zi_0) dL_isCut_7 (by decide) (fun c1_ => ?_) (fun c1_ => ?_)
    · -- 7 taken
      refine z_lconst C ((0 : Int64)) dL_isCut_14 (by decide) ?_
      refine z_last C hLo hFo (by omega) (by omega) dL_isCut_15 (fun F2_ h3_ k4_ => ?_)
      have kc5_ : ∀ b, b ≠ o0 → F2_ b = F b := fun b q0 => k4_ b q0
      refine z_goto C 22 dL_isCut_16 (by decide) ?_
      refine z_iconst C (nI 0) dL_isCut_22 (by decide) ?_
      refine z_iret C rfl rfl (by decide) (by decide) dL_isCut_23 ?_
      exact ⟨rfl, fun b hb h0 => kc5_ b h0, _, h3_, Or.inl ⟨rfl, k, p0, p1, (vL0 _ _).trans (by rw [show fOf (fd k) = 0 by omega]; rfl), hco9.off (fun b hb => kc5_ b (fun e => hb (e ▸ hMo)))⟩⟩
    · -- 7 not taken
      refine z_lconst C ((1 : Int64)) dL_isCut_10 (by decide) ?_
      refine z_goto C 15 dL_isCut_11 (by decide) ?_
      refine z_last C hLo hFo (by omega) (by omega) dL_isCut_15 (fun F6_ h7_ k8_ => ?_)
      have kc9_ : ∀ b, b ≠ o0 → F6_ b = F b := fun b q0 => k8_ b q0
      refine z_goto C 22 dL_isCut_16 (by decide) ?_
      refine z_iconst C (nI 0) dL_isCut_22 (by decide) ?_
      refine z_iret C rfl rfl (by decide) (by decide) dL_isCut_23 ?_
      exact ⟨rfl, fun b hb h0 => kc9_ b h0, _, h7_, Or.inl ⟨rfl, k, p0, p1, (vL0 _ _).trans (by rw [show fOf (fd k) = 1 by omega]; rfl), hco9.off (fun b hb => kc9_ b (fun e => hb (e ▸ hMo)))⟩⟩

set_option maxHeartbeats 4000000 in
set_option maxRecDepth 100000 in
theorem c_L_takes (l : Launch) (hlst : l.stackTraces = false) (G : zGt) (L : List Nat) (F : Nat → va_E) (M : Nat → Prop) (a0 n now sl : Nat) (fd : Nat → FdT) (o0 : Nat) (fo : Nat → Int64) (hMo : M o0) (hLo : o0 ∈ L) (hFo : F o0 = .inl (G.2.2.2.1, 1, .inr (.inl fo))) (hcl : zCl G M L F a0 n now sl fd) (x : Int32) : zX l yL_takes wsL_takes 12 196 1 6 G L F [.ref a0, .int x, .ref o0] (fun rv L1 F1 => L1 = L ∧ (∀ b, M b → b ≠ o0 → F1 b = F b) ∧ ∃ fo1 : Nat → Int64, F1 o0 = .inl (G.2.2.2.1, 1, .inr (.inl fo1)) ∧ ((rv = some (.int (nI 0)) ∧ (∃ k : Nat, k < n ∧ x = nI k ∧ fo1 0 = (nI (fTk (fd k))).toInt64 ∧ zCl G M L1 F1 a0 n now sl fd)) ∨ (rv = some (.int (nI 1)) ∧ (¬ zIx n x) ∧ zCl G M L1 F1 a0 n now sl fd))) (fun _ _ _ => False) := by
  obtain ⟨a1, a2, b4, b5, b6, b7, ad, hco⟩ := hcl
  have hL0 := hco.1.1
  have hF0 := hco.2.1
  refine z_ofH (cc := cL_takes) (nL := 4) (ret := (some .int)) (own := RL) hlst (by decide +kernel) rfl rfl (Nat.le_of_ble_eq_true rfl) ?_
  intro p e s m below meth c A htab C
  refine z_lvs (lv' := [(0, .ref a0), (1, .int x), (2, .ref o0)]) rfl ?_
  refine z_aload_n C dL_takes_0 rfl 2 rfl ?_
  refine z_iconst C (nI 0) dL_takes_1 (by decide) ?_
  refine z_aload_n C dL_takes_2 rfl 0 rfl ?_
  refine z_iload_n C dL_takes_3 rfl 1 rfl ?_
  refine z_callVX (As := [.int x]) (st := [.int (nI 0), .ref o0]) (mc := 1) (ms := 6) C hL0 hF0 rfl (c_X2_takes l hlst G L F M a0 a1 a2 b4 b5 b6 b7 ad n now sl fd hco x) (cwV 1 C.1.2.2.2.2 gL_takes_X2_takes rfl rfl rfl (by decide +kernel) ⟨Nat.le_of_ble_eq_true rfl, Nat.le_of_ble_eq_true rfl⟩) rfl (Nat.le_of_ble_eq_true rfl) ⟨Nat.le_of_ble_eq_true rfl, Nat.le_of_ble_eq_true rfl⟩ dL_takes_4 (fun E9 L9 F9 hx => ?_) (fun rv9 L9 F9 hp9 => ?_)
  · -- throws
    obtain ⟨e92, e93, e94, q1⟩ := hx
    subst e94; rw [e92, e93]
    refine z_catch C [] ⟨0, 9, 12, 21⟩ [] (htab.trans rfl) (by intro z hz; cases hz) (by decide) (by decide) 12 rfl (by decide +kernel : Cond.classLink RL 21 "java/lang/IndexOutOfBoundsException" ∈ _) (by decide +kernel) (fun q9 => ?_)
    refine z_astore_n (lv' := [(3, .ref q9), (0, .ref a0), (1, .int x), (2, .ref o0)]) C dL_takes_12 rfl (by decide) rfl ?_
    refine z_iconst C (nI 1) dL_takes_13 (by decide) ?_
    refine z_iret C rfl rfl (by decide) (by decide) dL_takes_14 ?_
    exact ⟨rfl, fun _ _ _ => rfl, fo, hFo, Or.inr ⟨rfl, q1, hco.cl⟩⟩
  · -- returns
    obtain ⟨k, p0, p1, e91, e92, e93⟩ := hp9
    rw [e91, e92, e93]
    have hco9 := hco
    obtain ⟨u1, u2, u3, u4, u5, u6, u7, u8⟩ := (hco.2.2.2.2.2.1 k p0).2.2.1
    refine z_stk (st' := [.int (nI ((fTk (fd k)))), .int (nI 0), .ref o0]) rfl ?_
    refine z_i2l C ((nI ((fTk (fd k)))).toInt64) dL_takes_7 rfl ?_
    refine z_last C hLo hFo (by omega) (by omega) dL_takes_8 (fun F1_ h2_ k3_ => ?_)
    have kc4_ : ∀ b, b ≠ o0 → F1_ b = F b := fun b q0 => k3_ b q0
    refine z_goto C 15 dL_takes_9 (by decide) ?_
    refine z_iconst C (nI 0) dL_takes_15 (by decide) ?_
    refine z_iret C rfl rfl (by decide) (by decide) dL_takes_16 ?_
    exact ⟨rfl, fun b hb h0 => kc4_ b h0, _, h2_, Or.inl ⟨rfl, k, p0, p1, vL0 _ _, hco9.off (fun b hb => kc4_ b (fun e => hb (e ▸ hMo)))⟩⟩

set_option maxHeartbeats 4000000 in
set_option maxRecDepth 100000 in
theorem c_L_cold (l : Launch) (hlst : l.stackTraces = false) (G : zGt) (L : List Nat) (F : Nat → va_E) (M : Nat → Prop) (a0 n now sl : Nat) (fd : Nat → FdT) (o0 : Nat) (fo : Nat → Int64) (hMo : M o0) (hLo : o0 ∈ L) (hFo : F o0 = .inl (G.2.2.2.1, 1, .inr (.inl fo))) (hcl : zCl G M L F a0 n now sl fd) (x : Int32) : zX l yL_cold wsL_cold 12 196 1 6 G L F [.ref a0, .int x, .ref o0] (fun rv L1 F1 => L1 = L ∧ (∀ b, M b → b ≠ o0 → F1 b = F b) ∧ ∃ fo1 : Nat → Int64, F1 o0 = .inl (G.2.2.2.1, 1, .inr (.inl fo1)) ∧ ((rv = some (.int (nI 0)) ∧ (∃ k : Nat, k < n ∧ x = nI k ∧ fo1 0 = (nI (fCo (fd k))).toInt64 ∧ zCl G M L1 F1 a0 n now sl fd)) ∨ (rv = some (.int (nI 1)) ∧ (¬ zIx n x) ∧ zCl G M L1 F1 a0 n now sl fd))) (fun _ _ _ => False) := by
  obtain ⟨a1, a2, b4, b5, b6, b7, ad, hco⟩ := hcl
  have hL0 := hco.1.1
  have hF0 := hco.2.1
  refine z_ofH (cc := cL_cold) (nL := 4) (ret := (some .int)) (own := RL) hlst (by decide +kernel) rfl rfl (Nat.le_of_ble_eq_true rfl) ?_
  intro p e s m below meth c A htab C
  refine z_lvs (lv' := [(0, .ref a0), (1, .int x), (2, .ref o0)]) rfl ?_
  refine z_aload_n C dL_cold_0 rfl 2 rfl ?_
  refine z_iconst C (nI 0) dL_cold_1 (by decide) ?_
  refine z_aload_n C dL_cold_2 rfl 0 rfl ?_
  refine z_iload_n C dL_cold_3 rfl 1 rfl ?_
  refine z_callVX (As := [.int x]) (st := [.int (nI 0), .ref o0]) (mc := 1) (ms := 6) C hL0 hF0 rfl (c_X2_cold l hlst G L F M a0 a1 a2 b4 b5 b6 b7 ad n now sl fd hco x) (cwV 1 C.1.2.2.2.2 gL_cold_X2_cold rfl rfl rfl (by decide +kernel) ⟨Nat.le_of_ble_eq_true rfl, Nat.le_of_ble_eq_true rfl⟩) rfl (Nat.le_of_ble_eq_true rfl) ⟨Nat.le_of_ble_eq_true rfl, Nat.le_of_ble_eq_true rfl⟩ dL_cold_4 (fun E9 L9 F9 hx => ?_) (fun rv9 L9 F9 hp9 => ?_)
  · -- throws
    obtain ⟨e92, e93, e94, q1⟩ := hx
    subst e94; rw [e92, e93]
    refine z_catch C [] ⟨0, 9, 12, 21⟩ [] (htab.trans rfl) (by intro z hz; cases hz) (by decide) (by decide) 12 rfl (by decide +kernel : Cond.classLink RL 21 "java/lang/IndexOutOfBoundsException" ∈ _) (by decide +kernel) (fun q9 => ?_)
    refine z_astore_n (lv' := [(3, .ref q9), (0, .ref a0), (1, .int x), (2, .ref o0)]) C dL_cold_12 rfl (by decide) rfl ?_
    refine z_iconst C (nI 1) dL_cold_13 (by decide) ?_
    refine z_iret C rfl rfl (by decide) (by decide) dL_cold_14 ?_
    exact ⟨rfl, fun _ _ _ => rfl, fo, hFo, Or.inr ⟨rfl, q1, hco.cl⟩⟩
  · -- returns
    obtain ⟨k, p0, p1, e91, e92, e93⟩ := hp9
    rw [e91, e92, e93]
    have hco9 := hco
    obtain ⟨u1, u2, u3, u4, u5, u6, u7, u8⟩ := (hco.2.2.2.2.2.1 k p0).2.2.1
    refine z_stk (st' := [.int (nI ((fCo (fd k)))), .int (nI 0), .ref o0]) rfl ?_
    refine z_i2l C ((nI ((fCo (fd k)))).toInt64) dL_cold_7 rfl ?_
    refine z_last C hLo hFo (by omega) (by omega) dL_cold_8 (fun F1_ h2_ k3_ => ?_)
    have kc4_ : ∀ b, b ≠ o0 → F1_ b = F b := fun b q0 => k3_ b q0
    refine z_goto C 15 dL_cold_9 (by decide) ?_
    refine z_iconst C (nI 0) dL_cold_15 (by decide) ?_
    refine z_iret C rfl rfl (by decide) (by decide) dL_cold_16 ?_
    exact ⟨rfl, fun b hb h0 => kc4_ b h0, _, h2_, Or.inl ⟨rfl, k, p0, p1, vL0 _ _, hco9.off (fun b hb => kc4_ b (fun e => hb (e ▸ hMo)))⟩⟩

set_option maxHeartbeats 4000000 in
set_option maxRecDepth 100000 in
theorem c_L_hours (l : Launch) (hlst : l.stackTraces = false) (G : zGt) (L : List Nat) (F : Nat → va_E) (M : Nat → Prop) (a0 n now sl : Nat) (fd : Nat → FdT) (o0 : Nat) (fo : Nat → Int64) (hMo : M o0) (hLo : o0 ∈ L) (hFo : F o0 = .inl (G.2.2.2.1, 1, .inr (.inl fo))) (hcl : zCl G M L F a0 n now sl fd) (x : Int32) : zX l yL_hours wsL_hours 12 196 1 6 G L F [.ref a0, .int x, .ref o0] (fun rv L1 F1 => L1 = L ∧ (∀ b, M b → b ≠ o0 → F1 b = F b) ∧ ∃ fo1 : Nat → Int64, F1 o0 = .inl (G.2.2.2.1, 1, .inr (.inl fo1)) ∧ ((rv = some (.int (nI 0)) ∧ (∃ k : Nat, k < n ∧ x = nI k ∧ fo1 0 = (nI (fHo (fd k))).toInt64 ∧ zCl G M L1 F1 a0 n now sl fd)) ∨ (rv = some (.int (nI 1)) ∧ (¬ zIx n x) ∧ zCl G M L1 F1 a0 n now sl fd))) (fun _ _ _ => False) := by
  obtain ⟨a1, a2, b4, b5, b6, b7, ad, hco⟩ := hcl
  have hL0 := hco.1.1
  have hF0 := hco.2.1
  refine z_ofH (cc := cL_hours) (nL := 4) (ret := (some .int)) (own := RL) hlst (by decide +kernel) rfl rfl (Nat.le_of_ble_eq_true rfl) ?_
  intro p e s m below meth c A htab C
  refine z_lvs (lv' := [(0, .ref a0), (1, .int x), (2, .ref o0)]) rfl ?_
  refine z_aload_n C dL_hours_0 rfl 2 rfl ?_
  refine z_iconst C (nI 0) dL_hours_1 (by decide) ?_
  refine z_aload_n C dL_hours_2 rfl 0 rfl ?_
  refine z_iload_n C dL_hours_3 rfl 1 rfl ?_
  refine z_callVX (As := [.int x]) (st := [.int (nI 0), .ref o0]) (mc := 1) (ms := 6) C hL0 hF0 rfl (c_X2_hours l hlst G L F M a0 a1 a2 b4 b5 b6 b7 ad n now sl fd hco x) (cwV 1 C.1.2.2.2.2 gL_hours_X2_hours rfl rfl rfl (by decide +kernel) ⟨Nat.le_of_ble_eq_true rfl, Nat.le_of_ble_eq_true rfl⟩) rfl (Nat.le_of_ble_eq_true rfl) ⟨Nat.le_of_ble_eq_true rfl, Nat.le_of_ble_eq_true rfl⟩ dL_hours_4 (fun E9 L9 F9 hx => ?_) (fun rv9 L9 F9 hp9 => ?_)
  · -- throws
    obtain ⟨e92, e93, e94, q1⟩ := hx
    subst e94; rw [e92, e93]
    refine z_catch C [] ⟨0, 9, 12, 21⟩ [] (htab.trans rfl) (by intro z hz; cases hz) (by decide) (by decide) 12 rfl (by decide +kernel : Cond.classLink RL 21 "java/lang/IndexOutOfBoundsException" ∈ _) (by decide +kernel) (fun q9 => ?_)
    refine z_astore_n (lv' := [(3, .ref q9), (0, .ref a0), (1, .int x), (2, .ref o0)]) C dL_hours_12 rfl (by decide) rfl ?_
    refine z_iconst C (nI 1) dL_hours_13 (by decide) ?_
    refine z_iret C rfl rfl (by decide) (by decide) dL_hours_14 ?_
    exact ⟨rfl, fun _ _ _ => rfl, fo, hFo, Or.inr ⟨rfl, q1, hco.cl⟩⟩
  · -- returns
    obtain ⟨k, p0, p1, e91, e92, e93⟩ := hp9
    rw [e91, e92, e93]
    have hco9 := hco
    obtain ⟨u1, u2, u3, u4, u5, u6, u7, u8⟩ := (hco.2.2.2.2.2.1 k p0).2.2.1
    refine z_stk (st' := [.int (nI ((fHo (fd k)))), .int (nI 0), .ref o0]) rfl ?_
    refine z_i2l C ((nI ((fHo (fd k)))).toInt64) dL_hours_7 rfl ?_
    refine z_last C hLo hFo (by omega) (by omega) dL_hours_8 (fun F1_ h2_ k3_ => ?_)
    have kc4_ : ∀ b, b ≠ o0 → F1_ b = F b := fun b q0 => k3_ b q0
    refine z_goto C 15 dL_hours_9 (by decide) ?_
    refine z_iconst C (nI 0) dL_hours_15 (by decide) ?_
    refine z_iret C rfl rfl (by decide) (by decide) dL_hours_16 ?_
    exact ⟨rfl, fun b hb h0 => kc4_ b h0, _, h2_, Or.inl ⟨rfl, k, p0, p1, vL0 _ _, hco9.off (fun b hb => kc4_ b (fun e => hb (e ▸ hMo)))⟩⟩

set_option maxHeartbeats 4000000 in
set_option maxRecDepth 100000 in
theorem c_L_choice (l : Launch) (hlst : l.stackTraces = false) (G : zGt) (L : List Nat) (F : Nat → va_E) (M : Nat → Prop) (a0 n now sl : Nat) (fd : Nat → FdT) (o0 : Nat) (fo : Nat → Int64) (hMo : M o0) (hLo : o0 ∈ L) (hFo : F o0 = .inl (G.2.2.2.1, 1, .inr (.inl fo))) (hcl : zCl G M L F a0 n now sl fd) (v : Int32) : zX l yL_choice wsL_choice 23 682 1 6 G L F [.ref a0, .int v, .ref o0] (fun rv L1 F1 => L1 = L ∧ (∀ b, M b → b ≠ o0 → F1 b = F b) ∧ ∃ fo1 : Nat → Int64, F1 o0 = .inl (G.2.2.2.1, 1, .inr (.inl fo1)) ∧ ((rv = some (.int (nI 0)) ∧ (∃ sf b : Nat, v = nI sf ∧ 1 ≤ sf ∧ sf ≤ 20000 ∧ isB n fd sl sf b ∧ fo1 0 = (nI b).toInt64 ∧ zCl G M L1 F1 a0 n now sl fd)) ∨ (rv = some (.int (nI 1)) ∧ (¬ zIn 1 20000 v) ∧ zCl G M L1 F1 a0 n now sl fd))) (fun _ _ _ => False) := by
  obtain ⟨a1, a2, b4, b5, b6, b7, ad, hco⟩ := hcl
  have hL0 := hco.1.1
  have hF0 := hco.2.1
  refine z_ofH (cc := cL_choice) (nL := 4) (ret := (some .int)) (own := RL) hlst (by decide +kernel) rfl rfl (Nat.le_of_ble_eq_true rfl) ?_
  intro p e s m below meth c A htab C
  refine z_lvs (lv' := [(0, .ref a0), (1, .int v), (2, .ref o0)]) rfl ?_
  refine z_aload_n C dL_choice_0 rfl 2 rfl ?_
  refine z_iconst C (nI 0) dL_choice_1 (by decide) ?_
  refine z_aload_n C dL_choice_2 rfl 0 rfl ?_
  refine z_iload_n C dL_choice_3 rfl 1 rfl ?_
  refine z_callVX (As := [.int v]) (st := [.int (nI 0), .ref o0]) (mc := 1) (ms := 6) C hL0 hF0 rfl (c_X2_choice l hlst G L F M a0 a1 a2 b4 b5 b6 b7 ad n now sl fd hco v) (cwV 1 C.1.2.2.2.2 gL_choice_X2_choice rfl rfl rfl (by decide +kernel) ⟨Nat.le_of_ble_eq_true rfl, Nat.le_of_ble_eq_true rfl⟩) rfl (Nat.le_of_ble_eq_true rfl) ⟨Nat.le_of_ble_eq_true rfl, Nat.le_of_ble_eq_true rfl⟩ dL_choice_4 (fun E9 L9 F9 hx => ?_) (fun rv9 L9 F9 hp9 => ?_)
  · -- throws
    obtain ⟨e92, e93, e94, q1⟩ := hx
    subst e94; rw [e92, e93]
    refine z_catch C [] ⟨0, 9, 12, 13⟩ [] (htab.trans rfl) (by intro z hz; cases hz) (by decide) (by decide) 12 rfl (by decide +kernel : Cond.classLink RL 13 "java/lang/IllegalArgumentException" ∈ _) (by decide +kernel) (fun q9 => ?_)
    refine z_astore_n (lv' := [(3, .ref q9), (0, .ref a0), (1, .int v), (2, .ref o0)]) C dL_choice_12 rfl (by decide) rfl ?_
    refine z_iconst C (nI 1) dL_choice_13 (by decide) ?_
    refine z_iret C rfl rfl (by decide) (by decide) dL_choice_14 ?_
    exact ⟨rfl, fun _ _ _ => rfl, fo, hFo, Or.inr ⟨rfl, q1, hco.cl⟩⟩
  · -- returns
    obtain ⟨sf, b, p0, p1, p2, e91, p3, e92, hco9, hk9⟩ := hp9
    rw [e91, e92]
    have hFo9 : F9 o0 = .inl (G.2.2.2.1, 1, .inr (.inl fo)) := (hk9 o0 hMo).trans hFo
    refine z_stk (st' := [.int (nI b), .int (nI 0), .ref o0]) rfl ?_
    refine z_i2l C ((nI b).toInt64) dL_choice_7 rfl ?_
    refine z_last C hLo hFo9 (by omega) (by omega) dL_choice_8 (fun F1_ h2_ k3_ => ?_)
    have kc4_ : ∀ b, b ≠ o0 → F1_ b = F9 b := fun b q0 => k3_ b q0
    refine z_goto C 15 dL_choice_9 (by decide) ?_
    refine z_iconst C (nI 0) dL_choice_15 (by decide) ?_
    refine z_iret C rfl rfl (by decide) (by decide) dL_choice_16 ?_
    exact ⟨rfl, fun b hb h0 => (kc4_ b h0).trans (hk9 b hb), _, h2_, Or.inl ⟨rfl, sf, b, p0, p1, p2, p3, vL0 _ _, hco9.off (fun b hb => kc4_ b (fun e => hb (e ▸ hMo)))⟩⟩

set_option maxHeartbeats 4000000 in
set_option maxRecDepth 100000 in
theorem c_L_choiceByListing (l : Launch) (hlst : l.stackTraces = false) (G : zGt) (L : List Nat) (F : Nat → va_E) (M : Nat → Prop) (a0 n now sl : Nat) (fd : Nat → FdT) (o0 : Nat) (fo : Nat → Int64) (hMo : M o0) (hLo : o0 ∈ L) (hFo : F o0 = .inl (G.2.2.2.1, 1, .inr (.inl fo))) (hcl : zCl G M L F a0 n now sl fd) (v : Int32) : zX l yL_choiceByListing wsL_choiceByListing 12 198 2 12 G L F [.ref a0, .int v, .ref o0] (fun rv L1 F1 => L1 = L ∧ (∀ b, M b → b ≠ o0 → F1 b = F b) ∧ ∃ fo1 : Nat → Int64, F1 o0 = .inl (G.2.2.2.1, 1, .inr (.inl fo1)) ∧ ((rv = some (.int (nI 0)) ∧ (∃ sf b : Nat, v = nI sf ∧ 1 ≤ sf ∧ sf ≤ 20000 ∧ isB n fd sl sf b ∧ frC fd n ≤ 8 ∧ fo1 0 = (nI b).toInt64 ∧ zCl G M L1 F1 a0 n now sl fd)) ∨ (rv = some (.int (nI 1)) ∧ (¬ zIn 1 20000 v) ∧ zCl G M L1 F1 a0 n now sl fd) ∨ (rv = some (.int (nI 2)) ∧ (∃ sf : Nat, v = nI sf ∧ 1 ≤ sf ∧ sf ≤ 20000 ∧ 8 < frC fd n) ∧ zCl G M L1 F1 a0 n now sl fd))) (fun _ _ _ => False) := by
  obtain ⟨a1, a2, b4, b5, b6, b7, ad, hco⟩ := hcl
  have hL0 := hco.1.1
  have hF0 := hco.2.1
  refine z_ofH (cc := cL_choiceByListing) (nL := 4) (ret := (some .int)) (own := RL) hlst (by decide +kernel) rfl rfl (Nat.le_of_ble_eq_true rfl) ?_
  intro p e s m below meth c A htab C
  refine z_lvs (lv' := [(0, .ref a0), (1, .int v), (2, .ref o0)]) rfl ?_
  refine z_aload_n C dL_choiceByListing_0 rfl 2 rfl ?_
  refine z_iconst C (nI 0) dL_choiceByListing_1 (by decide) ?_
  refine z_aload_n C dL_choiceByListing_2 rfl 0 rfl ?_
  refine z_iload_n C dL_choiceByListing_3 rfl 1 rfl ?_
  refine z_callVX (As := [.int v]) (st := [.int (nI 0), .ref o0]) (mc := 2) (ms := 12) C hL0 hF0 rfl (c_X2_choiceByListing l hlst G L F M a0 a1 a2 b4 b5 b6 b7 ad n now sl fd hco v) (cwV 1 C.1.2.2.2.2 gL_choiceByListing_X2_choiceByListing rfl rfl rfl (by decide +kernel) ⟨Nat.le_of_ble_eq_true rfl, Nat.le_of_ble_eq_true rfl⟩) rfl (Nat.le_of_ble_eq_true rfl) ⟨Nat.le_of_ble_eq_true rfl, Nat.le_of_ble_eq_true rfl⟩ dL_choiceByListing_4 (fun E9 L9 F9 hx => ?_) (fun rv9 L9 F9 hp9 => ?_)
  · -- throws
    rcases hx with ⟨e92, e93, e94, q1⟩ | ⟨sf, q1, q2, q3, e94, q4, e92, hco9, hk9⟩
    · -- "java/lang/IllegalArgumentException"
      subst e94; rw [e92, e93]
      refine z_catch C [] ⟨0, 9, 12, 13⟩ [⟨0, 9, 15, 15⟩] (htab.trans rfl) (by intro z hz; cases hz) (by decide) (by decide) 12 rfl (by decide +kernel : Cond.classLink RL 13 "java/lang/IllegalArgumentException" ∈ _) (by decide +kernel) (fun q9 => ?_)
      refine z_astore_n (lv' := [(3, .ref q9), (0, .ref a0), (1, .int v), (2, .ref o0)]) C dL_choiceByListing_12 rfl (by decide) rfl ?_
      refine z_iconst C (nI 1) dL_choiceByListing_13 (by decide) ?_
      refine z_iret C rfl rfl (by decide) (by decide) dL_choiceByListing_14 ?_
      exact ⟨rfl, fun _ _ _ => rfl, fo, hFo, Or.inr (Or.inl ⟨rfl, q1, hco.cl⟩)⟩
    · -- "java/lang/IllegalStateException"
      subst e94; rw [e92]
      refine z_catch C [⟨0, 9, 12, 13⟩] ⟨0, 9, 15, 15⟩ [] (htab.trans rfl) (by intro z hz; obtain rfl := List.mem_singleton.mp hz; exact Or.inr ⟨by decide, "java/lang/IllegalArgumentException", by decide +kernel, by decide +kernel⟩) (by decide) (by decide) 15 rfl (by decide +kernel : Cond.classLink RL 15 "java/lang/IllegalStateException" ∈ _) (by decide +kernel) (fun q9 => ?_)
      refine z_astore_n (lv' := [(3, .ref q9), (0, .ref a0), (1, .int v), (2, .ref o0)]) C dL_choiceByListing_15 rfl (by decide) rfl ?_
      refine z_iconst C (nI 2) dL_choiceByListing_16 (by decide) ?_
      refine z_iret C rfl rfl (by decide) (by decide) dL_choiceByListing_17 ?_
      exact ⟨rfl, fun b hb _ => hk9 b hb, fo, (hk9 o0 hMo).trans hFo, Or.inr (Or.inr ⟨rfl, ⟨sf, q1, q2, q3, q4⟩, hco9.cl⟩)⟩
  · -- returns
    obtain ⟨sf, b, p0, p1, p2, e91, p3, p4, e92, hco9, hk9⟩ := hp9
    rw [e91, e92]
    have hFo9 : F9 o0 = .inl (G.2.2.2.1, 1, .inr (.inl fo)) := (hk9 o0 hMo).trans hFo
    refine z_stk (st' := [.int (nI b), .int (nI 0), .ref o0]) rfl ?_
    refine z_i2l C ((nI b).toInt64) dL_choiceByListing_7 rfl ?_
    refine z_last C hLo hFo9 (by omega) (by omega) dL_choiceByListing_8 (fun F1_ h2_ k3_ => ?_)
    have kc4_ : ∀ b, b ≠ o0 → F1_ b = F9 b := fun b q0 => k3_ b q0
    refine z_goto C 18 dL_choiceByListing_9 (by decide) ?_
    refine z_iconst C (nI 0) dL_choiceByListing_18 (by decide) ?_
    refine z_iret C rfl rfl (by decide) (by decide) dL_choiceByListing_19 ?_
    exact ⟨rfl, fun b hb h0 => (kc4_ b h0).trans (hk9 b hb), _, h2_, Or.inl ⟨rfl, sf, b, p0, p1, p2, p3, p4, vL0 _ _, hco9.off (fun b hb => kc4_ b (fun e => hb (e ▸ hMo)))⟩⟩
