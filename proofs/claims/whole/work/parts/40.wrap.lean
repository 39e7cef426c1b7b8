theorem zCo.off {G : zGt} {M : Nat → Prop} {L : List Nat} {F F1 : Nat → va_E} {a0 a1 a2 b4 b5 b6 b7 : Nat} {ad : Nat → Nat} {n now sl : Nat} {fd : Nat → FdT} (h : zCo G M L F a0 a1 a2 b4 b5 b6 b7 ad n now sl fd) (hk : ∀ b, ¬ M b → F1 b = F b) : zCl G M L F1 a0 n now sl fd := by
  obtain ⟨h1, h2, h3, h4, h5, h6, h7, h8, ⟨m0, m1, m2, m4, m5, m6, m7⟩⟩ := h
  refine ⟨a1, a2, b4, b5, b6, b7, ad, h1, (hk _ m0).trans h2, ?_, ?_, h5, fun k q => ⟨(h6 k q).1, (hk _ (h6 k q).2.2.2).trans (h6 k q).2.1, (h6 k q).2.2⟩, h7, h8, ⟨m0, m1, m2, m4, m5, m6, m7⟩⟩
  · obtain ⟨mo, ea, nn, fe, g1, g2, g3, g4⟩ := h3
    refine ⟨mo, ea, nn, fe, (hk _ m1).trans g1, ?_, g3, g4⟩
    rcases g2 with g2 | ⟨q1, q2, q3⟩
    · exact Or.inl g2
    · exact Or.inr ⟨q1, (hk _ (g4 q1)).trans q2, q3⟩
  · obtain ⟨f4, f5, f6, f7, cnt, sf, nl, bs, bt, bh, g1, ⟨g4, g5, g6, g7⟩, g8⟩ := h4
    exact ⟨f4, f5, f6, f7, cnt, sf, nl, bs, bt, bh, (hk _ m2).trans g1, ⟨(hk _ m4).trans g4, (hk _ m5).trans g5, (hk _ m6).trans g6, (hk _ m7).trans g7⟩, g8⟩
theorem vL0 (f : Nat → Int64) (v : Int64) : vp_updL f 0 v 0 = v := by unfold vp_updL; rw [if_pos rfl]
theorem zCo.cl {G : zGt} {M : Nat → Prop} {L : List Nat} {F : Nat → va_E} {a0 a1 a2 b4 b5 b6 b7 : Nat} {ad : Nat → Nat} {n now sl : Nat} {fd : Nat → FdT} (h : zCo G M L F a0 a1 a2 b4 b5 b6 b7 ad n now sl fd) : zCl G M L F a0 n now sl fd := ⟨_, _, _, _, _, _, _, h⟩

set_option maxHeartbeats 4000000 in
set_option maxRecDepth 100000 in
theorem c_L_hours (l : Launch) (hlst : l.stackTraces = false) (G : zGt) (L : List Nat) (F : Nat → va_E) (M : Nat → Prop) (a0 n now sl : Nat) (fd : Nat → FdT) (o0 : Nat) (fo : Nat → Int64) (hMo : M o0) (hLo : o0 ∈ L) (hFo : F o0 = .inl (G.2.2.2.1, 1, .inr (.inl fo))) (hcl : zCl G M L F a0 n now sl fd) (x : Int32) : zX l yL_hours wsL_hours 12 196 1 6 G L F [.ref a0, .int x, .ref o0] (fun rv L1 F1 => L1 = L ∧ (∀ b, M b → b ≠ o0 → F1 b = F b) ∧ ∃ fo1 : Nat → Int64, F1 o0 = .inl (G.2.2.2.1, 1, .inr (.inl fo1)) ∧ ((rv = some (.int (nI 0)) ∧ (∃ k : Nat, k < n ∧ x = nI k ∧ fo1 0 = (nI (fHo (fd k))).toInt64 ∧ zCl G M L1 F1 a0 n now sl fd)) ∨ (rv = some (.int (nI 1)) ∧ (¬ zIx n x) ∧ zCl G M L1 F1 a0 n now sl fd))) (fun _ _ _ => False) := by
  obtain ⟨a1, a2, b4, b5, b6, b7, ad, hco⟩ := hcl
  have hL0 := hco.1.1
  have hF0 := hco.2.1
  refine z_ofH (cc := cL_hours) (nL := 4) (ret := (some .int)) (own := RL) hlst (by decide +kernel) rfl rfl (Nat.le_of_ble_eq_true rfl) ?_
  intro p e s m below meth c A htab C
  refine z_lvs (lv' := [(0, .ref a0), (1, .int x), (2, .ref o0)]) rfl ?_
  refine z_aload_n C dL_hours_0 rfl 2 rfl ?_
  refine z_iconst C (nI 0) dL_hours_1 (by decide) ?_
  refine z_aload_n C dL_hours_2 rfl 0 rfl ?_
  refine z_iload_n C dL_hours_3 rfl 1 rfl ?_
  refine z_callVX (As := [.int x]) (st := [.int (nI 0), .ref o0]) (mc := 1) (ms := 6) C hL0 hF0 rfl (c_X2_hours l hlst G L F M a0 a1 a2 b4 b5 b6 b7 ad n now sl fd hco x) (cwV 1 C.1.2.2.2.2 gL_hours_X2_hours rfl rfl rfl (by decide +kernel) ⟨Nat.le_of_ble_eq_true rfl, Nat.le_of_ble_eq_true rfl⟩) rfl (Nat.le_of_ble_eq_true rfl) ⟨Nat.le_of_ble_eq_true rfl, Nat.le_of_ble_eq_true rfl⟩ dL_hours_4 (fun E9 L9 F9 hx => ?_) (fun rv9 L9 F9 hp9 => ?_)
  · -- throws
    obtain ⟨e92, e93, e94, q1⟩ := hx
    subst e94; rw [e92, e93]
    refine z_catch C [] ⟨0, 9, 12, 21⟩ [] (htab.trans rfl) (by intro z hz; cases hz) (by decide) (by decide) 12 rfl (by decide +kernel : Cond.classLink RL 21 "java/lang/IndexOutOfBoundsException" ∈ _) (by decide +kernel) (fun q9 => ?_)
    refine z_astore_n (lv' := [(3, .ref q9), (0, .ref a0), (1, .int x), (2, .ref o0)]) C dL_hours_12 rfl (by decide) rfl ?_
    refine z_iconst C (nI 1) dL_hours_13 (by decide) ?_
    refine z_iret C rfl rfl (by decide) (by decide) dL_hours_14 ?_
    exact ⟨rfl, fun _ _ _ => rfl, fo, hFo, Or.inr ⟨rfl, q1, hco.cl⟩⟩
  · -- returns
    obtain ⟨k, p0, p1, e91, e92, e93⟩ := hp9
    rw [e91, e92, e93]
    have hco9 := hco
    obtain ⟨u1, u2, u3, u4, u5, u6, u7, u8⟩ := (hco.2.2.2.2.2.1 k p0).2.2.1
    refine z_stk (st' := [.int (nI ((fHo (fd k)))), .int (nI 0), .ref o0]) rfl ?_
    refine z_i2l C ((nI ((fHo (fd k)))).toInt64) dL_hours_7 rfl ?_
    refine z_last C hLo hFo (by omega) (by omega) dL_hours_8 (fun F1_ h2_ k3_ => ?_)
    have kc4_ : ∀ b, b ≠ o0 → F1_ b = F b := fun b q0 => k3_ b q0
    refine z_goto C 15 dL_hours_9 (by decide) ?_
    refine z_iconst C (nI 0) dL_hours_15 (by decide) ?_
    refine z_iret C rfl rfl (by decide) (by decide) dL_hours_16 ?_
    exact ⟨rfl, fun b hb h0 => kc4_ b h0, _, h2_, Or.inl ⟨rfl, k, p0, p1, vL0 _ _, hco9.off (fun b hb => kc4_ b (fun e => hb (e ▸ hMo)))⟩⟩
