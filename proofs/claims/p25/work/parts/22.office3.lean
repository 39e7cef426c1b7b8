section ZF
variable {p : Program} {l : Launch} {e : Env} {R : Room} {s : State} {m : MethodId} {args : Array Value} {below : List Frame} {meth : Method} {c : Code} {cc : ByteArray} {nL : Nat} {Ts : List Cond} {own : String} {ret : Option FieldType} {G : zGt} {A : Nat → Prop} {Q : State → Prop} {ce sl : Nat} {L : List Nat} {F : Nat → va_E} {pc : Nat} {lv : List (Nat × Value)} {st : List Value}
theorem z_tout (C : zC p l s m args meth c cc nL Ts own ret G A) (kk : (∀ b, b ∈ L → b ≠ G.2.2.2.2.1) → zW p l e R s m args below meth c nL G A Q ce sl L F pc lv st) : zW p l e R s m args below meth c nL G A Q ce sl L F pc lv st := fun H locs ls hP hD hS hl => kk (fun b hb e9 => va_T.out C.2.2.2.2.1.1.2.2.2 (e9 ▸ zD_in hD b hb)) H locs ls hP hD hS hl
end ZF
theorem zCo.grow {G : zGt} {M : Nat → Prop} {L L1 : List Nat} {F F1 : Nat → va_E} {a0 a1 a2 b4 b5 b6 b7 : Nat} {ad : Nat → Nat} {n now sl : Nat} {fd : Nat → FdT} (h : zCo G M L F a0 a1 a2 b4 b5 b6 b7 ad n now sl fd) (hM : ∀ b, M b → b ∈ L) {q : Nat} (hq : q ∉ L) (hLs : ∀ b, b ∈ L → b ∈ L1) (hq1 : q ∈ L1)
    {mo' : Int32} {ea' N' : Nat} {f' : Nat → Option Nat} (hea : ea' ∈ L1) (hFea : F1 ea' = .inl (G.2.2.1, N', .inr (.inr (.inr (.inr f'))))) (hN : n + 1 ≤ N') (hcap : N' = 10 ∨ N' = 15) (hf : ∀ k, k < n → f' k = some (ad k)) (hfn : f' n = some q) (h1 : F1 a1 = .inr (0, [.int mo', .ref ea', .int (nI (n + 1))]))
    (hk : ∀ b, b ∈ L → b ≠ a1 → zk (F b) ≠ 102 → F1 b = F b) {r : FdT} (hFq : F1 q = fdE r) (hr : fOk now r) (hn : n < 12) (hMe : ¬ M ea') : zCo G M L1 F1 a0 a1 a2 b4 b5 b6 b7 (va_up ad n q) (n + 1) now sl (upF fd n r) := by
  obtain ⟨⟨l0, l1, l2, l4, l5, l6, l7⟩, h2, h3, h4, h5, h6, h7, h8, h9⟩ := h
  obtain ⟨f4, f5, f6, f7, cnt, sf, nl, bs, bt, bh, g1, ⟨g4, g5, g6, g7⟩, g8⟩ := h4
  obtain ⟨mo, ea, nn, fe, e1, -⟩ := h3
  have kk : ∀ b e, b ∈ L → F b = e → zk e ≠ 0 → zk e ≠ 102 → F1 b = e := fun b e hb he z0 z1 => (hk b hb (fun q9 => z0 (by rw [← he, q9, e1]; rfl)) (by rw [he]; exact z1)).trans he
  have hqa : ∀ j, j < n → ad j ≠ q := fun j hj q9 => hq (q9 ▸ (h6 j hj).1)
  refine ⟨⟨hLs _ l0, hLs _ l1, hLs _ l2, hLs _ l4, hLs _ l5, hLs _ l6, hLs _ l7⟩, kk _ _ l0 h2 (Nat.ne_of_beq_eq_false rfl) (Nat.ne_of_beq_eq_false rfl), ⟨mo', ea', N', f', h1, Or.inr ⟨hea, hFea, hN, hcap⟩, fun k hk9 => ?_, fun _ => hMe⟩,
    ⟨f4, f5, f6, f7, cnt, sf, nl, bs, bt, bh, kk _ _ l2 g1 (Nat.ne_of_beq_eq_false rfl) (Nat.ne_of_beq_eq_false rfl), ⟨kk _ _ l4 g4 (Nat.ne_of_beq_eq_false rfl) (Nat.ne_of_beq_eq_false rfl), kk _ _ l5 g5 (Nat.ne_of_beq_eq_false rfl) (Nat.ne_of_beq_eq_false rfl), kk _ _ l6 g6 (Nat.ne_of_beq_eq_false rfl) (Nat.ne_of_beq_eq_false rfl), kk _ _ l7 g7 (Nat.ne_of_beq_eq_false rfl) (Nat.ne_of_beq_eq_false rfl)⟩, g8⟩, h5, fun k hk9 => ?_, fun i j hi hj e9 => ?_, ⟨by omega, h8.2⟩, h9⟩
  · by_cases e : k = n
    · subst e; rw [va_up_self]; exact hfn
    · rw [va_up_ne _ _ e]; exact hf k (by omega)
  · unfold upF
    by_cases e : k = n
    · subst e; rw [va_up_self, if_pos rfl]; exact ⟨hq1, hFq, hr, fun m9 => hq (hM _ m9)⟩
    · rw [va_up_ne _ _ e, if_neg e]
      obtain ⟨q1, q2, q3, q4⟩ := h6 k (by omega)
      exact ⟨hLs _ q1, kk _ _ q1 q2 (Nat.ne_of_beq_eq_false rfl) (Nat.ne_of_beq_eq_false rfl), q3, q4⟩
  · by_cases ei : i = n <;> by_cases ej : j = n
    · omega
    · subst ei; rw [va_up_self, va_up_ne _ _ ej] at e9; exact absurd e9.symm (hqa j (by omega))
    · subst ej; rw [va_up_self, va_up_ne _ _ ei] at e9; exact absurd e9 (hqa i (by omega))
    · rw [va_up_ne _ _ ei, va_up_ne _ _ ej] at e9; exact h7 i j (by omega) (by omega) e9

set_option maxRecDepth 100000 in
theorem hin_X2_feeder_X0 : ∀ w ∈ u_ws RX0 TX0 7, w ∈ wsX2_feeder := by decide +kernel
set_option maxRecDepth 100000 in
theorem hin_X2_feeder_X2 : ∀ w ∈ u_ws RX2 TX2 4, w ∈ wsX2_feeder := by decide +kernel
set_option maxHeartbeats 4000000 in
set_option maxRecDepth 100000 in
theorem c_X2_feeder (l : Launch) (hlst : l.stackTraces = false) (G : zGt) (L : List Nat) (F : Nat → va_E) (M : Nat → Prop) (a0 a1 a2 b4 b5 b6 b7 : Nat) (ad : Nat → Nat) (n now sl : Nat) (fd : Nat → FdT) (hco : zCo G M L F a0 a1 a2 b4 b5 b6 b7 ad n now sl fd) (v1 v3 : Int32) (c9 : Nat) (hc9b : c9 ≤ 1) (hML : ∀ b, M b → b ∈ L) : zX l yX2_feeder wsX2_feeder 8 155 4 34 G L F [.ref a0, .int v1, .int (nI c9), .int v3] (fun rv L1 F1 => ∃ j1 j3 : Nat, v1 = nI j1 ∧ 1 ≤ j1 ∧ j1 ≤ 999 ∧ v3 = nI j3 ∧ j3 ≤ 3 ∧ n < 12 ∧ rv = some (.int (nI n)) ∧ (∀ b, b ∈ L → b ∈ L1) ∧ (∃ ad' : Nat → Nat, zCo G M L1 F1 a0 a1 a2 b4 b5 b6 b7 ad' (n + 1) now sl (upF fd n (j3, j1, c9, 0, 0, 0, 0))) ∧ ∀ b, M b → F1 b = F b) (fun E L1 F1 => L1 = L ∧ F1 = F ∧ ((E = "java/lang/IllegalArgumentException" ∧ ¬ (zIn 1 999 v1 ∧ zIn 0 3 v3)) ∨ (E = "java/lang/IllegalStateException" ∧ zIn 1 999 v1 ∧ zIn 0 3 v3 ∧ n = 12))) := by
  obtain ⟨⟨hL0, hL1, hL2, hL4, hL5, hL6, hL7⟩, hF0, ⟨mo, ea, nn, fe, hF1, hFe, hfe, hMe⟩, hSr, hNb, hFd, hIj, ⟨hn, hnow, hsl⟩, hM0, hM1, hM2, hM4, hM5, hM6, hM7⟩ := id hco
  refine z_ofX (cc := cX2_feeder) (nL := 4) (ret := (some .int)) (own := RX2) hlst (by decide +kernel) rfl rfl (Nat.le_of_ble_eq_true rfl) ?_
  intro p e s m below meth c A hout C
  refine z_lvs (lv' := [(0, .ref a0), (1, .int v1), (2, .int (nI c9)), (3, .int v3)]) rfl ?_
  refine z_tout C (fun hT0 => ?_)
  refine z_iload_n C dX2_feeder_0 rfl 1 rfl ?_
  refine z_iconst C (nI 1) dX2_feeder_1 (by decide) ?_
  refine z_sipush C (nI 999) dX2_feeder_2 (by decide) ?_
  refine z_callSX (As := [.int v1, .int (nI 1), .int (nI 999)]) (st := []) (mc := 1) (ms := 6) C (c_X2_requireWithin l hlst G L F v1 1 999 (by decide) (by decide)) (va_cwS 3 C.1.2.2.2.2 gX2_feeder_X2_requireWithin rfl rfl rfl (by decide +kernel) ⟨Nat.le_of_ble_eq_true rfl, Nat.le_of_ble_eq_true rfl⟩) rfl (Nat.le_of_ble_eq_true rfl) ⟨Nat.le_of_ble_eq_true rfl, Nat.le_of_ble_eq_true rfl⟩ dX2_feeder_5 (z_xo C hout (Nat.le_of_ble_eq_true rfl) (Nat.le_of_ble_eq_true rfl) (fun E9 L9 F9 hx => ⟨hx.1, hx.2.1, Or.inl ⟨hx.2.2.1, fun h9 => hx.2.2.2 h9.1⟩⟩)) (z_pp (fun hin5 => ?_))
  refine z_stk (st' := []) rfl ?_
  obtain ⟨j1, hvj1, hj11, hj12⟩ := zIn_of hin5
  refine z_lvs (lv' := [(0, .ref a0), (1, .int (nI j1)), (2, .int (nI c9)), (3, .int v3)]) (by rw [hvj1]) ?_
  refine z_iload_n C dX2_feeder_8 rfl 3 rfl ?_
  refine z_iconst C (nI 0) dX2_feeder_9 (by decide) ?_
  refine z_iconst C (nI 3) dX2_feeder_10 (by decide) ?_
  refine z_callSX (As := [.int v3, .int (nI 0), .int (nI 3)]) (st := []) (mc := 1) (ms := 6) C (c_X2_requireWithin l hlst G L F v3 0 3 (by decide) (by decide)) (va_cwS 3 C.1.2.2.2.2 gX2_feeder_X2_requireWithin rfl rfl rfl (by decide +kernel) ⟨Nat.le_of_ble_eq_true rfl, Nat.le_of_ble_eq_true rfl⟩) rfl (Nat.le_of_ble_eq_true rfl) ⟨Nat.le_of_ble_eq_true rfl, Nat.le_of_ble_eq_true rfl⟩ dX2_feeder_11 (z_xo C hout (Nat.le_of_ble_eq_true rfl) (Nat.le_of_ble_eq_true rfl) (fun E9 L9 F9 hx => ⟨hx.1, hx.2.1, Or.inl ⟨hx.2.2.1, fun h9 => hx.2.2.2 h9.2⟩⟩)) (z_pp (fun hin11 => ?_))
  refine z_stk (st' := []) rfl ?_
  obtain ⟨j3, hvj3, hj31, hj32⟩ := zIn_of hin11
  refine z_lvs (lv' := [(0, .ref a0), (1, .int (nI j1)), (2, .int (nI c9)), (3, .int (nI j3))]) (by rw [hvj3]) ?_
  refine z_aload_n C dX2_feeder_14 rfl 0 rfl ?_
  refine z_get (ref := "Shedwheel") (v := .ref a1) C hin_X2_feeder_X2 hL0 hF0 rfl 0 (by decide) (by decide +kernel) (fun _ h9 => h9) rfl dX2_feeder_15 ?_
  refine z_callV (As := []) (st := []) (mc := 0) (ms := 0) C hL1 hF1 rfl (c_Jx4a65c_size_8abf5 l hlst G L F a1 mo ea n hL1 hF1 ) (cwV 0 C.1.2.2.2.2 gX2_feeder_Jx4a65c_size_8abf5 rfl rfl rfl (by decide +kernel) ⟨Nat.le_of_ble_eq_true rfl, Nat.le_of_ble_eq_true rfl⟩) rfl (Nat.le_of_ble_eq_true rfl) ⟨Nat.le_of_ble_eq_true rfl, Nat.le_of_ble_eq_true rfl⟩ dX2_feeder_18 (z_p ?_)
  refine z_stk (st' := [.int (nI n)]) rfl ?_
  refine z_bipush C (nI 12) dX2_feeder_21 (by decide) ?_
  refine z_icmp_lt C 36 (((n : Nat) : Int) < ((12 : Nat) : Int)) (zi_lt (zi_N (n := n) (by omega)) (zi_N (n := 12) (by omega))) dX2_feeder_23 (by decide) (fun c1_ => ?_) (fun c1_ => ?_)
  · -- 23 taken
    refine z_aload_n C dX2_feeder_36 rfl 0 rfl ?_
    refine z_get (ref := "Shedwheel") (v := .ref a1) C hin_X2_feeder_X2 hL0 hF0 rfl 0 (by decide) (by decide +kernel) (fun _ h9 => h9) rfl dX2_feeder_37 ?_
    refine z_newO (ci := 1) (fs := [.int (nI 0), .int (nI 0), .int (nI 0), .int (nI 0), .int (nI 0), .int (nI 0), .int (nI 0)]) C hin_X2_feeder_X0 tyX0 tyX0_ok (by decide +kernel) (by decide +kernel) (by decide +kernel) rfl (fun j9 h9 => by rcases (show j9 = 0 ∨ j9 = 1 ∨ j9 = 2 ∨ j9 = 3 ∨ j9 = 4 ∨ j9 = 5 ∨ j9 = 6 by omega) with rfl | rfl | rfl | rfl | rfl | rfl | rfl <;> rfl) (Nat.le_of_ble_eq_true rfl) (Nat.le_of_ble_eq_true rfl) dX2_feeder_40 (fun q2_ F3_ hq4_ h5_ k6_ => ?_)
    have hL7_ : a0 ∈ (L ++ [q2_]) := List.mem_append_left _ hL0
    have nq8_ : a0 ≠ q2_ := fun h9 => hq4_ (h9 ▸ hL0)
    have hL9_ : a1 ∈ (L ++ [q2_]) := List.mem_append_left _ hL1
    have nq10_ : a1 ≠ q2_ := fun h9 => hq4_ (h9 ▸ hL1)
    have hL11_ : q2_ ∈ (L ++ [q2_]) := List.mem_append_right _ (List.mem_singleton.mpr rfl)
    have h12_ : F3_ a0 = .inr (3, [.ref a1, .ref a2, .int (nI now), .int (nI sl)]) := (k6_ a0 nq8_).trans hF0
    have h13_ : F3_ a1 = .inr (0, [.int mo, .ref ea, .int (nI n)]) := (k6_ a1 nq10_).trans hF1
    have kc14_ : ∀ b, b ≠ q2_ → F3_ b = F b := fun b q0 => k6_ b q0
    refine z_dup C dX2_feeder_43 rfl ?_
    refine z_iload_n C dX2_feeder_44 rfl 1 rfl ?_
    refine z_iload_n C dX2_feeder_45 rfl 2 rfl ?_
    refine z_iload_n C dX2_feeder_46 rfl 3 rfl ?_
    refine z_callIN (As := [.int (nI j1), .int (nI c9), .int (nI j3)]) (st := [.ref q2_, .ref a1]) (mc := 0) (ms := 0) C (c_X0_init l hlst G (L ++ [q2_]) F3_ q2_ 0 0 0 0 0 0 0 hL11_ h5_ j1 c9 j3 (by omega)) ⟨va_cnB 3 C.1.2.2.2.2 gX2_feeder_X0_init_n47 rfl rfl rfl (z_nl (host := RX2) C (by decide +kernel)) (C.1.2.2.2.2 _ (show Cond.initialized RX0 ∈ _ from (by decide +kernel))) (by decide +kernel) ⟨Nat.le_of_ble_eq_true rfl, Nat.le_of_ble_eq_true rfl⟩, rfl, C.1.2.2.2.2 _ (show Cond.instanceMethod yX0_init ∈ _ from (by decide +kernel))⟩ rfl (Nat.le_of_ble_eq_true rfl) ⟨Nat.le_of_ble_eq_true rfl, Nat.le_of_ble_eq_true rfl⟩ dX2_feeder_47 (fun rv15_ L16_ F17_ hp18_ => ?_)
    obtain ⟨e19_, e20_, h21_, k22_⟩ := hp18_
    rw [e19_, e20_]
    have h23_ : F17_ a0 = .inr (3, [.ref a1, .ref a2, .int (nI now), .int (nI sl)]) := (k22_ a0 nq8_).trans h12_
    have h24_ : F17_ a1 = .inr (0, [.int mo, .ref ea, .int (nI n)]) := (k22_ a1 nq10_).trans h13_
    have kc25_ : ∀ b, b ≠ q2_ → F17_ b = F b := fun b q0 => (k22_ b q0).trans (kc14_ b q0)
    refine z_stk (st' := [.ref q2_, .ref a1]) rfl ?_
    have hnq : ∀ b, b ∈ L → b ≠ q2_ := fun b hb e9 => hq4_ (e9 ▸ hb)
    have hok' : ((n = 0 ∧ ea = G.2.2.2.2.1) ∨ (ea ∈ (L ++ [q2_]) ∧ F17_ ea = .inl (G.2.2.1, nn, .inr (.inr (.inr (.inr fe)))) ∧ n ≤ nn ∧ (nn = 10 ∨ nn = 15))) := by
      rcases hFe with h9 | ⟨g1, g2, g3⟩
      · exact Or.inl h9
      · exact Or.inr ⟨List.mem_append_left _ g1, (kc25_ ea (hnq ea g1)).trans g2, g3⟩
    have hel' : ∀ i, i < n → ∀ y, fe i = some y → y ∈ (L ++ [q2_]) ∧ ∃ fs, F17_ y = .inr (1, fs) := fun i hi y hy => by
      rw [hfe i hi] at hy
      cases hy
      exact ⟨List.mem_append_left _ (hFd i hi).1, _, (kc25_ _ (hnq _ (hFd i hi).1)).trans (hFd i hi).2.1⟩
    refine z_tout C (fun hT9 => ?_)
    refine z_callV (As := [.ref q2_]) (st := []) (mc := 1) (ms := 15) C hL9_ h24_ rfl (c_Jx4a65c_add_9ea2d l hlst G (L ++ [q2_]) F17_ a1 mo ea n hL9_ h24_ nn fe (by omega) hok' hel' q2_ _ hL11_ h21_) (cwV 1 C.1.2.2.2.2 gX2_feeder_Jx4a65c_add_9ea2d rfl rfl rfl (by decide +kernel) ⟨Nat.le_of_ble_eq_true rfl, Nat.le_of_ble_eq_true rfl⟩) rfl (Nat.le_of_ble_eq_true rfl) ⟨Nat.le_of_ble_eq_true rfl, Nat.le_of_ble_eq_true rfl⟩ dX2_feeder_50 (fun rv9 L9 F9 hp9 => ?_)
    obtain ⟨ea9, nn9, f9, e91, hl9, hm9, hf9, hz9, hc9, ho9, hv9, h09, k9, hx9⟩ := hp9
    rw [e91]
    have hLs : ∀ b, b ∈ (L ++ [q2_]) → b ∈ L9 := fun b hb => (by rcases hl9 with rfl | ⟨q9, -, rfl⟩; exact hb; exact List.mem_append_left _ hb)
    have hne9 : ∀ b, b ∈ L → zk (F b) ≠ 102 → b ≠ ea := fun b hb hz e9 => (by
      rcases hFe with ⟨-, g2⟩ | ⟨-, g2, -⟩
      · exact hT0 b hb (e9.trans g2)
      · exact hz (by rw [e9, g2]; rfl))
    have hqe : q2_ ≠ ea := fun e9 => (by
      rcases hFe with ⟨-, g2⟩ | ⟨g1, -, -⟩
      · exact hT9 q2_ hL11_ (e9.trans g2)
      · exact hq4_ (e9 ▸ g1))
    have hk9 : ∀ b, b ∈ L → b ≠ a1 → zk (F b) ≠ 102 → F9 b = F b := fun b hb g1 g2 => (k9 b (List.mem_append_left _ hb) g1 (hne9 b hb g2)).trans (kc25_ b (hnq b hb))
    have hFq9 : F9 q2_ = .inr (1, [.int (nI j3), .int (nI j1), .int (nI c9), .int (nI 0), .int (nI 0), .int (nI 0), .int (nI 0)]) := (k9 q2_ hL11_ (Ne.symm nq10_) hqe).trans h21_
    have hF09 : F9 a0 = .inr (3, [.ref a1, .ref a2, .int (nI now), .int (nI sl)]) := (hk9 a0 hL0 (zne hF0 hF1 rfl) (by rw [hF0]; exact Nat.ne_of_beq_eq_false rfl)).trans hF0
    have hL09 := hLs a0 (List.mem_append_left _ hL0)
    have hL19 := hLs a1 (List.mem_append_left _ hL1)
    refine z_stk (st' := [.int (nI 1)]) rfl ?_
    refine z_pop C dX2_feeder_53 rfl ?_
    refine z_aload_n C dX2_feeder_54 rfl 0 rfl ?_
    refine z_get (ref := "Shedwheel") (v := .ref a1) C hin_X2_feeder_X2 hL09 hF09 rfl 0 (by decide) (by decide +kernel) (fun _ h9 => h9) rfl dX2_feeder_55 ?_
    refine z_callV (As := []) (st := []) (mc := 0) (ms := 0) C hL19 h09 rfl (c_Jx4a65c_size_8abf5 l hlst G L9 F9 a1 ((mo + nI 1)) ea9 (n + 1) hL19 h09 ) (cwV 0 C.1.2.2.2.2 gX2_feeder_Jx4a65c_size_8abf5 rfl rfl rfl (by decide +kernel) ⟨Nat.le_of_ble_eq_true rfl, Nat.le_of_ble_eq_true rfl⟩) rfl (Nat.le_of_ble_eq_true rfl) ⟨Nat.le_of_ble_eq_true rfl, Nat.le_of_ble_eq_true rfl⟩ dX2_feeder_58 (z_p ?_)
    refine z_stk (st' := [.int (nI (n + 1))]) rfl ?_
    refine z_iconst C (nI 1) dX2_feeder_61 (by decide) ?_
    refine z_isub C (nI n) dX2_feeder_62 (pk_sub (a := n + 1) (b := 1) (by omega)) ?_
    refine z_iret C rfl rfl (by decide) (by decide) dX2_feeder_63 ?_
    have hMe9 : ¬ M ea9 := fun m9 => (by
      rcases hx9 with rfl | g1
      · rcases hFe with ⟨-, g2⟩ | ⟨g1, -, -⟩
        · exact hT0 _ (hML _ m9) g2
        · exact hMe g1 m9
      · exact g1 (List.mem_append_left _ (hML _ m9)))
    have hco9 := hco.grow hML hq4_ (fun b hb => hLs b (List.mem_append_left _ hb)) (hLs q2_ hL11_) hm9 hf9 hz9 hc9 (fun k hk => (ho9 k hk).trans (hfe k hk)) hv9 h09 hk9 (r := (j3, j1, c9, 0, 0, 0, 0)) hFq9 ⟨hj32, hj11, hj12, hc9b, Nat.zero_le _, Nat.zero_le _, Nat.zero_le _, Nat.zero_le _⟩ (by omega) hMe9
    have hM102 : ∀ b, M b → b ≠ a1 := fun b hb e9 => hM1 (e9 ▸ hb)
    exact ⟨j1, j3, hvj1, hj11, hj12, hvj3, hj32, by omega, rfl, fun b hb => hLs b (List.mem_append_left _ hb), ⟨_, hco9⟩, fun b hb => (k9 b (List.mem_append_left _ (hML b hb)) (hM102 b hb) (fun e9 => (by
      rcases hFe with ⟨-, g2⟩ | ⟨g1, -, -⟩
      · exact hT0 b (hML b hb) (e9.trans g2)
      · exact hMe g1 (e9 ▸ hb)))).trans (kc25_ b (hnq b (hML b hb)))⟩
  · -- 23 not taken
    refine z_throw (cls := "java/lang/IllegalStateException") (text := "there are 12 feeders") (ik := 38) (is := 40) (ic := 42) C rfl (by decide +kernel) (by decide +kernel) (by decide +kernel) (by decide +kernel) ["java/lang/RuntimeException", "java/lang/Exception"] (by decide +kernel) (by decide +kernel) (by decide +kernel) (by decide +kernel) (by decide +kernel) dX2_feeder_26 dX2_feeder_29 dX2_feeder_30 dX2_feeder_32 dX2_feeder_35 hout (Nat.le_of_ble_eq_true rfl) (Nat.le_of_ble_eq_true rfl) (Nat.le_of_ble_eq_true rfl) (Nat.le_of_ble_eq_true rfl) (Nat.le_of_ble_eq_true rfl) (Nat.le_of_ble_eq_true rfl) ?_
    exact ⟨rfl, rfl, Or.inr ⟨rfl, hin5, hin11, by omega⟩⟩

set_option maxRecDepth 100000 in
theorem hin_X2_init_Jx4a65c : ∀ w ∈ u_ws RJx4a65c TJx4a65c 3, w ∈ wsX2_init := by decide +kernel
set_option maxRecDepth 100000 in
theorem hin_X2_init_X1 : ∀ w ∈ u_ws RX1 TX1 10, w ∈ wsX2_init := by decide +kernel
set_option maxRecDepth 100000 in
theorem hin_X2_init_X2 : ∀ w ∈ u_ws RX2 TX2 4, w ∈ wsX2_init := by decide +kernel
set_option maxHeartbeats 4000000 in
set_option maxRecDepth 100000 in
theorem c_X2_init (l : Launch) (hlst : l.stackTraces = false) (G : zGt) (L : List Nat) (F : Nat → va_E) (M : Nat → Prop) (a0 : Nat) (hL0 : a0 ∈ L) (hF0 : F a0 = .inr (3, [.null, .null, .int (nI 0), .int (nI 0)])) (hMs : ∀ b, M b → b ∈ L ∧ b ≠ a0) : zM l yX2_init wsX2_init 4 84 6 62 G L F [.ref a0] (fun rv L1 F1 => ∃ (a1 a2 b4 b5 b6 b7 : Nat) (ad : Nat → Nat), rv = none ∧ (∀ b, b ∈ L → b ∈ L1) ∧ (∀ fd : Nat → FdT, zCo G M L1 F1 a0 a1 a2 b4 b5 b6 b7 ad 0 0 0 fd) ∧ ∀ b, b ∈ L → b ≠ a0 → F1 b = F b) := by
  refine z_of (cc := cX2_init) (nL := 1) (ret := none) (own := RX2) hlst (by decide +kernel) rfl rfl (Nat.le_of_ble_eq_true rfl) ?_
  intro p e s m below meth c A hnm C
  refine z_lvs (lv' := [(0, .ref a0)]) rfl ?_
  refine z_aload_n C dX2_init_0 rfl 0 rfl ?_
  refine z_obj (T9 := []) C (by decide +kernel) (by decide +kernel) (by decide +kernel) (Nat.le_of_ble_eq_true rfl) (Nat.le_of_ble_eq_true rfl) dX2_init_1 ?_
  refine z_aload_n C dX2_init_4 rfl 0 rfl ?_
  refine z_newO (ci := 0) (fs := [.int (nI 0), .null, .int (nI 0)]) C hin_X2_init_Jx4a65c tyJx4a65c tyJx4a65c_ok (by decide +kernel) (by decide +kernel) (by decide +kernel) rfl (fun j9 h9 => by rcases (show j9 = 0 ∨ j9 = 1 ∨ j9 = 2 by omega) with rfl | rfl | rfl <;> rfl) (Nat.le_of_ble_eq_true rfl) (Nat.le_of_ble_eq_true rfl) dX2_init_5 (fun q1_ F2_ hq3_ h4_ k5_ => ?_)
  have hL6_ : a0 ∈ (L ++ [q1_]) := List.mem_append_left _ hL0
  have nq7_ : a0 ≠ q1_ := fun h9 => hq3_ (h9 ▸ hL0)
  have hL8_ : q1_ ∈ (L ++ [q1_]) := List.mem_append_right _ (List.mem_singleton.mpr rfl)
  have h9_ : F2_ a0 = .inr (3, [.null, .null, .int (nI 0), .int (nI 0)]) := (k5_ a0 nq7_).trans hF0
  have kc10_ : ∀ b, b ≠ q1_ → F2_ b = F b := fun b q0 => k5_ b q0
  refine z_dup C dX2_init_8 rfl ?_
  refine z_callI (As := []) (st := [.ref q1_, .ref a0]) (mc := 0) (ms := 0) C (c_Jx4a65c_init_da8c8 l hlst G (L ++ [q1_]) F2_ q1_ hL8_ h4_) (cwI 0 C.1.2.2.2.2 gX2_init_Jx4a65c_init_da8c8 rfl rfl rfl (C.1.2.2.2.2 _ (show Cond.initialized RJx4a65c ∈ _ from (by decide +kernel))) (C.1.2.2.2.2 _ (show Cond.methodLink RX2 9 yJx4a65c_init_da8c8 ∈ _ from (by decide +kernel))) (C.1.2.2.2.2 _ (show Cond.instanceMethod yJx4a65c_init_da8c8 ∈ _ from (by decide +kernel))) rfl (by decide +kernel) ⟨Nat.le_of_ble_eq_true rfl, Nat.le_of_ble_eq_true rfl⟩) rfl (Nat.le_of_ble_eq_true rfl) ⟨Nat.le_of_ble_eq_true rfl, Nat.le_of_ble_eq_true rfl⟩ dX2_init_9 (fun rv11_ L12_ F13_ hp14_ => ?_)
  obtain ⟨e15_, e16_, h17_, k18_⟩ := hp14_
  rw [e15_, e16_]
  have h19_ : F13_ a0 = .inr (3, [.null, .null, .int (nI 0), .int (nI 0)]) := (k18_ a0 nq7_).trans h9_
  have kc20_ : ∀ b, b ≠ q1_ → F13_ b = F b := fun b q0 => (k18_ b q0).trans (kc10_ b q0)
  refine z_stk (st' := [.ref q1_, .ref a0]) rfl ?_
  refine z_putF (ref := "Shedwheel") (v := .ref q1_) (fs' := [.ref q1_, .null, .int (nI 0), .int (nI 0)]) C hin_X2_init_X2 tyX2 tyX2_ok nmX2 hL6_ h19_ rfl 0 (by decide) (by decide +kernel) (fun _ h9 => h9) rfl hnm rfl rfl rfl (Nat.le_of_ble_eq_true rfl) rfl dX2_init_12 (fun F21_ h22_ k23_ => ?_)
  have h24_ : F21_ q1_ = .inr (0, [.int ((nI 0)), .ref G.2.2.2.2.1, .int (nI 0)]) := (k23_ q1_ (Ne.symm nq7_)).trans h17_
  have kc25_ : ∀ b, b ≠ a0 → b ≠ q1_ → F21_ b = F b := fun b q0 q1 => (k23_ b q0).trans (kc20_ b q1)
  refine z_aload_n C dX2_init_15 rfl 0 rfl ?_
  refine z_newO (ci := 2) (fs := [.null, .null, .null, .null, .int (nI 0), .int (nI 0), .int (nI 0), .int (nI 0), .int (nI 0), .int (nI 0)]) C hin_X2_init_X1 tyX1 tyX1_ok (by decide +kernel) (by decide +kernel) (by decide +kernel) rfl (fun j9 h9 => by rcases (show j9 = 0 ∨ j9 = 1 ∨ j9 = 2 ∨ j9 = 3 ∨ j9 = 4 ∨ j9 = 5 ∨ j9 = 6 ∨ j9 = 7 ∨ j9 = 8 ∨ j9 = 9 by omega) with rfl | rfl | rfl | rfl | rfl | rfl | rfl | rfl | rfl | rfl <;> rfl) (Nat.le_of_ble_eq_true rfl) (Nat.le_of_ble_eq_true rfl) dX2_init_16 (fun q26_ F27_ hq28_ h29_ k30_ => ?_)
  have hL31_ : a0 ∈ ((L ++ [q1_]) ++ [q26_]) := List.mem_append_left _ hL6_
  have nq32_ : a0 ≠ q26_ := fun h9 => hq28_ (h9 ▸ hL6_)
  have hL33_ : q1_ ∈ ((L ++ [q1_]) ++ [q26_]) := List.mem_append_left _ hL8_
  have nq34_ : q1_ ≠ q26_ := fun h9 => hq28_ (h9 ▸ hL8_)
  have hL35_ : q26_ ∈ ((L ++ [q1_]) ++ [q26_]) := List.mem_append_right _ (List.mem_singleton.mpr rfl)
  have h36_ : F27_ a0 = .inr (3, [.ref q1_, .null, .int (nI 0), .int (nI 0)]) := (k30_ a0 nq32_).trans h22_
  have h37_ : F27_ q1_ = .inr (0, [.int ((nI 0)), .ref G.2.2.2.2.1, .int (nI 0)]) := (k30_ q1_ nq34_).trans h24_
  have kc38_ : ∀ b, b ≠ a0 → b ≠ q1_ → b ≠ q26_ → F27_ b = F b := fun b q0 q1 q2 => (k30_ b q2).trans (kc25_ b q0 q1)
  refine z_dup C dX2_init_19 rfl ?_
  refine z_callIN (As := []) (st := [.ref q26_, .ref a0]) (mc := 4) (ms := 49) C (c_X1_init l hlst G ((L ++ [q1_]) ++ [q26_]) F27_ q26_ hL35_ h29_) ⟨va_cnB 0 C.1.2.2.2.2 gX2_init_X1_init_n18 rfl rfl rfl (z_nl (host := RX2) C (by decide +kernel)) (C.1.2.2.2.2 _ (show Cond.initialized RX1 ∈ _ from (by decide +kernel))) (by decide +kernel) ⟨Nat.le_of_ble_eq_true rfl, Nat.le_of_ble_eq_true rfl⟩, rfl, C.1.2.2.2.2 _ (show Cond.instanceMethod yX1_init ∈ _ from (by decide +kernel))⟩ rfl (Nat.le_of_ble_eq_true rfl) ⟨Nat.le_of_ble_eq_true rfl, Nat.le_of_ble_eq_true rfl⟩ dX2_init_20 (fun rv9 L9 F9 hp9 => ?_)
  obtain ⟨b4, b5, b6, b7, e91, e92, ⟨nb4, nb5, nb6, nb7⟩, hNb, hF29, hF39, k9⟩ := hp9
  rw [e91, e92]
  have hLs9 : ∀ b, b ∈ ((L ++ [q1_]) ++ [q26_]) → b ∈ ((((((L ++ [q1_]) ++ [q26_]) ++ [b4]) ++ [b5]) ++ [b6]) ++ [b7]) := fun b hb => List.mem_append_left _ (List.mem_append_left _ (List.mem_append_left _ (List.mem_append_left _ hb)))
  have hB4 : b4 ∈ ((((((L ++ [q1_]) ++ [q26_]) ++ [b4]) ++ [b5]) ++ [b6]) ++ [b7]) := List.mem_append_left _ (List.mem_append_left _ (List.mem_append_left _ (List.mem_append_right _ (List.mem_singleton.mpr rfl))))
  have hB5 : b5 ∈ ((((((L ++ [q1_]) ++ [q26_]) ++ [b4]) ++ [b5]) ++ [b6]) ++ [b7]) := List.mem_append_left _ (List.mem_append_left _ (List.mem_append_right _ (List.mem_singleton.mpr rfl)))
  have hB6 : b6 ∈ ((((((L ++ [q1_]) ++ [q26_]) ++ [b4]) ++ [b5]) ++ [b6]) ++ [b7]) := List.mem_append_left _ (List.mem_append_right _ (List.mem_singleton.mpr rfl))
  have hB7 : b7 ∈ ((((((L ++ [q1_]) ++ [q26_]) ++ [b4]) ++ [b5]) ++ [b6]) ++ [b7]) := List.mem_append_right _ (List.mem_singleton.mpr rfl)
  have h39_ : F9 a0 = .inr (3, [.ref q1_, .null, .int (nI 0), .int (nI 0)]) := (k9 a0 hL31_ nq32_).trans h36_
  have h40_ : F9 q1_ = .inr (0, [.int ((nI 0)), .ref G.2.2.2.2.1, .int (nI 0)]) := (k9 q1_ hL33_ nq34_).trans h37_
  have hL41_ := hLs9 a0 hL31_
  have hL42_ := hLs9 q1_ hL33_
  have hL43_ := hLs9 q26_ hL35_
  refine z_stk (st' := [.ref q26_, .ref a0]) rfl ?_
  refine z_putF (ref := "Shedwheel") (v := .ref q26_) (fs' := [.ref q1_, .ref q26_, .int (nI 0), .int (nI 0)]) C hin_X2_init_X2 tyX2 tyX2_ok nmX2 hL41_ h39_ rfl 1 (by decide) (by decide +kernel) (fun _ h9 => h9) rfl hnm rfl rfl rfl (Nat.le_of_ble_eq_true rfl) rfl dX2_init_23 (fun F44_ h45_ k46_ => ?_)
  have h47_ : F44_ q1_ = .inr (0, [.int ((nI 0)), .ref G.2.2.2.2.1, .int (nI 0)]) := (k46_ q1_ (Ne.symm nq7_)).trans h40_
  have h48_ : F44_ q26_ = .inr (2, [.ref b4, .ref b5, .ref b6, .ref b7, .int (nI 0), .int (nI 0), .int (nI 0), .int (nI 0), .int (nI 0), .int (nI 0)]) := (k46_ q26_ (Ne.symm nq32_)).trans hF29
  have kc49_ : ∀ b, b ≠ a0 → F44_ b = F9 b := fun b q0 => k46_ b q0
  refine z_aload_n C dX2_init_26 rfl 0 rfl ?_
  refine z_iconst C (nI 0) dX2_init_27 (by decide) ?_
  refine z_put (ref := "Shedwheel") (v := .int (nI 0)) (fs' := [.ref q1_, .ref q26_, .int (nI 0), .int (nI 0)]) C hin_X2_init_X2 tyX2 tyX2_ok nmX2 hL41_ h45_ rfl 2 (by decide) (by decide +kernel) (fun _ h9 => h9) rfl rfl rfl (Nat.le_of_ble_eq_true rfl) rfl dX2_init_28 (fun F50_ h51_ k52_ => ?_)
  have h53_ : F50_ q1_ = .inr (0, [.int ((nI 0)), .ref G.2.2.2.2.1, .int (nI 0)]) := (k52_ q1_ (Ne.symm nq7_)).trans h47_
  have h54_ : F50_ q26_ = .inr (2, [.ref b4, .ref b5, .ref b6, .ref b7, .int (nI 0), .int (nI 0), .int (nI 0), .int (nI 0), .int (nI 0), .int (nI 0)]) := (k52_ q26_ (Ne.symm nq32_)).trans h48_
  have kc55_ : ∀ b, b ≠ a0 → F50_ b = F9 b := fun b q0 => (k52_ b q0).trans (kc49_ b q0)
  refine z_aload_n C dX2_init_31 rfl 0 rfl ?_
  refine z_iconst C (nI 0) dX2_init_32 (by decide) ?_
  refine z_put (ref := "Shedwheel") (v := .int (nI 0)) (fs' := [.ref q1_, .ref q26_, .int (nI 0), .int (nI 0)]) C hin_X2_init_X2 tyX2 tyX2_ok nmX2 hL41_ h51_ rfl 3 (by decide) (by decide +kernel) (fun _ h9 => h9) rfl rfl rfl (Nat.le_of_ble_eq_true rfl) rfl dX2_init_33 (fun F56_ h57_ k58_ => ?_)
  have h59_ : F56_ q1_ = .inr (0, [.int ((nI 0)), .ref G.2.2.2.2.1, .int (nI 0)]) := (k58_ q1_ (Ne.symm nq7_)).trans h53_
  have h60_ : F56_ q26_ = .inr (2, [.ref b4, .ref b5, .ref b6, .ref b7, .int (nI 0), .int (nI 0), .int (nI 0), .int (nI 0), .int (nI 0), .int (nI 0)]) := (k58_ q26_ (Ne.symm nq32_)).trans h54_
  have kc61_ : ∀ b, b ≠ a0 → F56_ b = F9 b := fun b q0 => (k58_ b q0).trans (kc55_ b q0)
  refine z_tout C (fun hT9 => ?_)
  refine z_vret0 C rfl (by decide) (by decide) dX2_init_36 ?_
  have hq0 : ∀ b, b ∈ ((L ++ [q1_]) ++ [q26_]) → b ≠ a0 → b ≠ q26_ → F56_ b = F27_ b := fun b hb g1 g2 => (kc61_ b g1).trans (k9 b hb g2)
  have hB0 : ∀ b, b ∉ ((L ++ [q1_]) ++ [q26_]) → b ≠ a0 := fun b hb e9 => hb (e9 ▸ hL31_)
  obtain ⟨g4, g5, g6, g7⟩ := hF39
  have hML4 : ∀ b, M b → b ∈ ((L ++ [q1_]) ++ [q26_]) := fun b hb => List.mem_append_left _ (List.mem_append_left _ ((hMs b hb).1))
  refine ⟨q1_, q26_, b4, b5, b6, b7, fun _ => 0, rfl, fun b hb => hLs9 b (List.mem_append_left _ (List.mem_append_left _ (hb))), fun fd => ⟨⟨hL41_, hL42_, hL43_, hB4, hB5, hB6, hB7⟩, h57_, ⟨_, _, 0, fun _ => none, h59_, Or.inl ⟨rfl, rfl⟩, fun k hk => absurd hk (Nat.not_lt_zero k), fun h9 => ?_⟩, ⟨fun _ => 0, fun _ => 0, fun _ => 0, fun _ => 0, 0, 0, 0, 0, 0, 0, h60_, ⟨(kc61_ b4 (hB0 b4 nb4)).trans g4, (kc61_ b5 (hB0 b5 nb5)).trans g5, (kc61_ b6 (hB0 b6 nb6)).trans g6, (kc61_ b7 (hB0 b7 nb7)).trans g7⟩, rfl, by decide, by decide⟩, hNb, fun k hk => absurd hk (Nat.not_lt_zero k), fun i j hi => absurd hi (Nat.not_lt_zero i), ⟨by decide, by decide, by decide⟩, ⟨fun m9 => (hMs _ m9).2 rfl, fun m9 => hq3_ (hMs _ m9).1, fun m9 => hq28_ (List.mem_append_left _ (hMs _ m9).1), fun m9 => nb4 (hML4 _ m9), fun m9 => nb5 (hML4 _ m9), fun m9 => nb6 (hML4 _ m9), fun m9 => nb7 (hML4 _ m9)⟩⟩, fun b hb g1 => ?_⟩
  · exact absurd rfl (hT9 _ h9)
  · exact (hq0 b (List.mem_append_left _ (List.mem_append_left _ (hb))) g1 (fun e9 => hq28_ (List.mem_append_left _ (e9 ▸ hb)))).trans (kc38_ b g1 (fun e9 => hq3_ (e9 ▸ hb)) (fun e9 => hq28_ (List.mem_append_left _ (e9 ▸ hb))))
