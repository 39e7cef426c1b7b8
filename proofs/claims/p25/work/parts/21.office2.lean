set_option maxRecDepth 100000 in
theorem hin_X2_prepareSearch_X0 : ∀ w ∈ u_ws RX0 TX0 7, w ∈ wsX2_prepareSearch := by decide +kernel
set_option maxRecDepth 100000 in
theorem hin_X2_prepareSearch_X2 : ∀ w ∈ u_ws RX2 TX2 4, w ∈ wsX2_prepareSearch := by decide +kernel
set_option maxHeartbeats 4000000 in
set_option maxRecDepth 100000 in
theorem c_X2_prepareSearch (l : Launch) (hlst : l.stackTraces = false) (G : zGt) (L : List Nat) (F : Nat → va_E) (M : Nat → Prop) (a0 a1 a2 b4 b5 b6 b7 : Nat) (ad : Nat → Nat) (n now sl : Nat) (fd : Nat → FdT) (hco : zCo G M L F a0 a1 a2 b4 b5 b6 b7 ad n now sl fd) (sf : Nat) (hsf : 1 ≤ sf ∧ sf ≤ 30000) : zM l yX2_prepareSearch wsX2_prepareSearch 10 154 0 0 G L F [.ref a0, .int (nI sf)] (fun rv L1 F1 => ∃ (cnt bt bh : Nat) (nu tk hr : Nat → Nat) (f4 f5 f6 f7 : Nat → Int32), rv = none ∧ L1 = L ∧ Lst fd nu tk hr n cnt ∧ F1 a2 = .inr (2, [.ref b4, .ref b5, .ref b6, .ref b7, .int (nI cnt), .int (nI sf), .int (nI (sf + sl)), .int (nI 0), .int (nI bt), .int (nI bh)]) ∧ (F1 b4 = .inl (G.2.1, 12, .inl f4) ∧ F1 b5 = .inl (G.2.1, 12, .inl f5) ∧ F1 b6 = .inl (G.2.1, 12, .inl f6) ∧ F1 b7 = .inl (G.2.1, 13, .inl f7)) ∧ (∀ i, i < cnt → f4 i = nI (2 ^ nu i) ∧ f5 i = nI (tk i) ∧ f6 i = nI (hr i)) ∧ (∀ i, i ≤ cnt → f7 i = nI (smV tk i)) ∧ (bt < 1048576 ∧ bh < 1048576) ∧ ∀ b, b ≠ a2 → b ≠ b4 → b ≠ b5 → b ≠ b6 → b ≠ b7 → F1 b = F b) := by
  obtain ⟨⟨hL0, hL1, hL2, hL4, hL5, hL6, hL7⟩, hF0, ⟨mo, ea, nn, fe, hF1, hFe, hfe, hMe⟩, hSr, hNb, hFd, hIj, ⟨hn, hnow, hsl⟩, hM0, hM1, hM2, hM4, hM5, hM6, hM7⟩ := id hco
  obtain ⟨f4, f5, f6, f7, cnt0, sf0, nl0, bs0, bt, bh, hF2, ⟨hF4, hF5, hF6, hF7⟩, h70, hbt, hbh⟩ := hSr
  obtain ⟨n45, n46, n47, n56, n57, n67⟩ := hNb
  refine z_of (cc := cX2_prepareSearch) (nL := 4) (ret := none) (own := RX2) hlst (by decide +kernel) rfl rfl (Nat.le_of_ble_eq_true rfl) ?_
  intro p e s m below meth c A hnm C
  refine z_lvs (lv' := [(0, .ref a0), (1, .int (nI sf))]) rfl ?_
  refine z_aload_n C dX2_prepareSearch_0 rfl 0 rfl ?_
  refine z_get (ref := "Shedwheel") (v := .ref a2) C hin_X2_prepareSearch_X2 hL0 hF0 rfl 1 (by decide) (by decide +kernel) (fun _ h9 => h9) rfl dX2_prepareSearch_1 ?_
  refine z_iload_n C dX2_prepareSearch_4 rfl 1 rfl ?_
  refine z_aload_n C dX2_prepareSearch_5 rfl 0 rfl ?_
  refine z_get (ref := "Shedwheel") (v := .int (nI sl)) C hin_X2_prepareSearch_X2 hL0 hF0 rfl 3 (by decide) (by decide +kernel) (fun _ h9 => h9) rfl dX2_prepareSearch_6 ?_
  refine z_callVN (As := [.int (nI sf), .int (nI sl)]) (st := []) (mc := 0) (ms := 0) C hL2 hF2 rfl (c_X1_begin l hlst G L F a2 b4 b5 b6 b7 cnt0 sf0 nl0 bs0 bt bh hL2 hF2 sf sl) ⟨va_cnB 2 C.1.2.2.2.2 gX2_prepareSearch_X1_begin_n162 rfl rfl rfl (z_nl (host := RX2) C (by decide +kernel)) (C.1.2.2.2.2 _ (show Cond.initialized RX1 ∈ _ from (by decide +kernel))) (by decide +kernel) ⟨Nat.le_of_ble_eq_true rfl, Nat.le_of_ble_eq_true rfl⟩, C.1.2.2.2.2 _ (show Cond.instanceMethod yX1_begin ∈ _ from (by decide +kernel)), C.1.2.2.2.2 _ (show Cond.selects RX1 yX1_begin yX1_begin ∈ _ from (by decide +kernel))⟩ rfl (Nat.le_of_ble_eq_true rfl) ⟨Nat.le_of_ble_eq_true rfl, Nat.le_of_ble_eq_true rfl⟩ dX2_prepareSearch_9 (fun rv1_ L2_ F3_ hp4_ => ?_)
  obtain ⟨e5_, e6_, h7_, k8_⟩ := hp4_
  rw [e5_, e6_]
  have h9_ : F3_ a0 = .inr (3, [.ref a1, .ref a2, .int (nI now), .int (nI sl)]) := (k8_ a0 (zne hF0 hF2 rfl)).trans hF0
  have h10_ : F3_ a1 = .inr (0, [.int mo, .ref ea, .int (nI n)]) := (k8_ a1 (zne hF1 hF2 rfl)).trans hF1
  have h11_ : F3_ b4 = .inl (G.2.1, 12, .inl f4) := (k8_ b4 (zne hF4 hF2 rfl)).trans hF4
  have h12_ : F3_ b5 = .inl (G.2.1, 12, .inl f5) := (k8_ b5 (zne hF5 hF2 rfl)).trans hF5
  have h13_ : F3_ b6 = .inl (G.2.1, 12, .inl f6) := (k8_ b6 (zne hF6 hF2 rfl)).trans hF6
  have h14_ : F3_ b7 = .inl (G.2.1, 13, .inl f7) := (k8_ b7 (zne hF7 hF2 rfl)).trans hF7
  have kc15_ : ∀ b, b ≠ a2 → F3_ b = F b := fun b q0 => k8_ b q0
  refine z_stk (st' := []) rfl ?_
  refine z_iconst C (nI 0) dX2_prepareSearch_12 (by decide) ?_
  refine z_istore_n (lv' := [(2, .int (nI 0)), (0, .ref a0), (1, .int (nI sf))]) C dX2_prepareSearch_13 rfl (by decide) rfl ?_
  refine z_sub (lv' := [(0, .ref a0), (1, .int (nI sf)), (2, .int (nI 0))]) [1, 2, 0] rfl ?_
  have lp14 : ∀ (N9 : Nat) (k cnt : Nat) (nu tk hr : Nat → Nat) (f4 f5 f6 f7 : Nat → Int32) (F2 : Nat → va_E) (hk : k ≤ n) (hls : Lst fd nu tk hr k cnt) (hF2_w : F2 a2 = .inr (2, [.ref b4, .ref b5, .ref b6, .ref b7, .int (nI cnt), .int (nI sf), .int (nI (sf + sl)), .int (nI 0), .int (nI bt), .int (nI bh)])) (hF4_w : F2 b4 = .inl (G.2.1, 12, .inl f4)) (hF5_w : F2 b5 = .inl (G.2.1, 12, .inl f5)) (hF6_w : F2 b6 = .inl (G.2.1, 12, .inl f6)) (hF7_w : F2 b7 = .inl (G.2.1, 13, .inl f7)) (g4 : ∀ i, i < cnt → f4 i = nI (2 ^ nu i) ∧ f5 i = nI (tk i) ∧ f6 i = nI (hr i)) (g7 : ∀ i, i ≤ cnt → f7 i = nI (smV tk i)) (hkp : ∀ b, b ≠ a2 → b ≠ b4 → b ≠ b5 → b ≠ b6 → b ≠ b7 → F2 b = F b) (h9 : n - k < N9), zW p l e { frames := 10, cells := 0, slots := 0, locals := 154 } s m [.ref a0, .int (nI sf)].toArray below meth c 4 G A (MQ below (zQ G (fun rv L1 F1 => ∃ (cnt bt bh : Nat) (nu tk hr : Nat → Nat) (f4 f5 f6 f7 : Nat → Int32), rv = none ∧ L1 = L ∧ Lst fd nu tk hr n cnt ∧ F1 a2 = .inr (2, [.ref b4, .ref b5, .ref b6, .ref b7, .int (nI cnt), .int (nI sf), .int (nI (sf + sl)), .int (nI 0), .int (nI bt), .int (nI bh)]) ∧ (F1 b4 = .inl (G.2.1, 12, .inl f4) ∧ F1 b5 = .inl (G.2.1, 12, .inl f5) ∧ F1 b6 = .inl (G.2.1, 12, .inl f6) ∧ F1 b7 = .inl (G.2.1, 13, .inl f7)) ∧ (∀ i, i < cnt → f4 i = nI (2 ^ nu i) ∧ f5 i = nI (tk i) ∧ f6 i = nI (hr i)) ∧ (∀ i, i ≤ cnt → f7 i = nI (smV tk i)) ∧ (bt < 1048576 ∧ bh < 1048576) ∧ ∀ b, b ≠ a2 → b ≠ b4 → b ≠ b5 → b ≠ b6 → b ≠ b7 → F1 b = F b) A) [.ref a0, .int (nI sf)].toArray s 0 0 A) 0 0 L F2 14 [(0, .ref a0), (1, .int (nI sf)), (2, .int (nI k))] [] := by
    intro N9
    induction N9 with
    | zero => intro k cnt nu tk hr f4 f5 f6 f7 F2 hk hls hF2_w hF4_w hF5_w hF6_w hF7_w g4 g7 hkp h9; exact absurd h9 (Nat.not_lt_zero _)
    | succ N9 ih14 =>
      intro k cnt nu tk hr f4 f5 f6 f7 F2 hk hls hF2_w hF4_w hF5_w hF6_w hF7_w g4 g7 hkp hN14
      refine z_iload_n C dX2_prepareSearch_14 rfl 2 rfl ?_
      have hcl9 := Lst_le hls
      have hco2 := hco.srch hkp ⟨f4, f5, f6, f7, cnt, sf, sf + sl, 0, bt, bh, hF2_w, ⟨hF4_w, hF5_w, hF6_w, hF7_w⟩, g7 0 (Nat.zero_le _), hbt, hbh⟩
      obtain ⟨⟨hL0_2, hL1_2, hL2_2, hL4_2, hL5_2, hL6_2, hL7_2⟩, hF0_2, ⟨mo_2, ea_2, nn_2, fe_2, hF1_2, hFe_2, hfe_2, hMe_2⟩, hSr_2, hNb_2, hFd_2, hIj_2, ⟨hn_2, hnow_2, hsl_2⟩, hM0_2, hM1_2, hM2_2, hM4_2, hM5_2, hM6_2, hM7_2⟩ := id hco2
      refine z_aload_n C dX2_prepareSearch_15 rfl 0 rfl ?_
      refine z_get (ref := "Shedwheel") (v := .ref a1) C hin_X2_prepareSearch_X2 hL0_2 hF0_2 rfl 0 (by decide) (by decide +kernel) (fun _ h9 => h9) rfl dX2_prepareSearch_16 ?_
      refine z_callV (As := []) (st := [.int (nI k)]) (mc := 0) (ms := 0) C hL1_2 hF1_2 rfl (c_Jx4a65c_size_8abf5 l hlst G L F2 a1 mo_2 ea_2 n hL1_2 hF1_2 ) (cwV 0 C.1.2.2.2.2 gX2_prepareSearch_Jx4a65c_size_8abf5 rfl rfl rfl (by decide +kernel) ⟨Nat.le_of_ble_eq_true rfl, Nat.le_of_ble_eq_true rfl⟩) rfl (Nat.le_of_ble_eq_true rfl) ⟨Nat.le_of_ble_eq_true rfl, Nat.le_of_ble_eq_true rfl⟩ dX2_prepareSearch_19 (z_p ?_)
      refine z_stk (st' := [.int (nI n), .int (nI k)]) rfl ?_
      refine z_icmp_ge C 66 (((n : Nat) : Int) ≤ ((k : Nat) : Int)) (zi_le (zi_N (n := n) (by omega)) (zi_N (n := k) (by omega))) dX2_prepareSearch_22 (by decide) (fun c16_ => ?_) (fun c16_ => ?_)
      · -- 22 taken
        refine z_vret0 C rfl (by decide) (by decide) dX2_prepareSearch_66 ?_
        obtain rfl : n = k := by omega
        exact ⟨cnt, bt, bh, nu, tk, hr, f4, f5, f6, f7, rfl, rfl, hls, hF2_w, ⟨hF4_w, hF5_w, hF6_w, hF7_w⟩, g4, g7, ⟨hbt, hbh⟩, hkp⟩
      · -- 22 not taken
        refine z_aload_n C dX2_prepareSearch_25 rfl 0 rfl ?_
        refine z_get (ref := "Shedwheel") (v := .ref a1) C hin_X2_prepareSearch_X2 hL0_2 hF0_2 rfl 0 (by decide) (by decide +kernel) (fun _ h9 => h9) rfl dX2_prepareSearch_26 ?_
        refine z_iload_n C dX2_prepareSearch_29 rfl 2 rfl ?_
        have hlt : k < n := by omega
        obtain ⟨hLe_2, hGe_2, hnn_2, hcap_2⟩ : ea_2 ∈ L ∧ F2 ea_2 = .inl (G.2.2.1, nn_2, .inr (.inr (.inr (.inr fe_2)))) ∧ n ≤ nn_2 ∧ (nn_2 = 10 ∨ nn_2 = 15) := by
          rcases hFe_2 with ⟨h9, -⟩ | h9
          · omega
          · exact h9
        refine z_callV (As := [.int (nI k)]) (st := []) (mc := 0) (ms := 0) C hL1_2 hF1_2 rfl (c_Jx4a65c_get_915e3 l hlst G L F2 a1 mo_2 ea_2 n hL1_2 hF1_2 nn_2 k (ad k) fe_2 hLe_2 hGe_2 (by omega) (by omega) (hfe_2 k (by omega)) (by omega) (by omega)) (cwV 1 C.1.2.2.2.2 gX2_prepareSearch_Jx4a65c_get_915e3 rfl rfl rfl (by decide +kernel) ⟨Nat.le_of_ble_eq_true rfl, Nat.le_of_ble_eq_true rfl⟩) rfl (Nat.le_of_ble_eq_true rfl) ⟨Nat.le_of_ble_eq_true rfl, Nat.le_of_ble_eq_true rfl⟩ dX2_prepareSearch_30 (z_p ?_)
        refine z_stk (st' := [.ref ((ad k))]) rfl ?_
        have hLa := (hFd_2 k hlt).1
        have hFa : F2 (ad k) = fdE (fd k) := (hFd_2 k hlt).2.1
        have hOk : fOk now (fd k) := (hFd k hlt).2.2.1
        obtain ⟨u1, u2, u3, u4, u5, u6, u7, u8⟩ := id hOk
        refine z_castX0 C hLa hFa (by decide +kernel) dX2_prepareSearch_33 ?_
        refine z_astore_n (lv' := [(3, .ref ((ad k))), (0, .ref a0), (1, .int (nI sf)), (2, .int (nI k))]) C dX2_prepareSearch_36 rfl (by decide) rfl ?_
        refine z_aload_n C dX2_prepareSearch_37 rfl 0 rfl ?_
        refine z_callVN (As := []) (st := []) (mc := 0) (ms := 0) C hLa hFa rfl (c_X0_mayBeCut l hlst G L F2 (ad k) (fSg (fd k)) (fMw (fd k)) (fCr (fd k)) (fOf (fd k)) (fHo (fd k)) (fTh (fd k)) (fCo (fd k)) hLa hFa (by omega) (by omega)) ⟨va_cnB 0 C.1.2.2.2.2 gX2_prepareSearch_X0_mayBeCut_n97 rfl rfl rfl (z_nl (host := RX2) C (by decide +kernel)) (C.1.2.2.2.2 _ (show Cond.initialized RX0 ∈ _ from (by decide +kernel))) (by decide +kernel) ⟨Nat.le_of_ble_eq_true rfl, Nat.le_of_ble_eq_true rfl⟩, C.1.2.2.2.2 _ (show Cond.instanceMethod yX0_mayBeCut ∈ _ from (by decide +kernel)), C.1.2.2.2.2 _ (show Cond.selects RX0 yX0_mayBeCut yX0_mayBeCut ∈ _ from (by decide +kernel))⟩ rfl (Nat.le_of_ble_eq_true rfl) ⟨Nat.le_of_ble_eq_true rfl, Nat.le_of_ble_eq_true rfl⟩ dX2_prepareSearch_38 (z_p ?_)
        refine z_stk (st' := [.int (nI (if fOf (fd k) = 0 ∧ fCr (fd k) = 0 then 1 else 0))]) rfl ?_
        refine z_if_eq C 60 (¬ (fOf (fd k) = 0 ∧ fCr (fd k) = 0)) (zif_iff) dX2_prepareSearch_41 (by decide) (fun c17_ => ?_) (fun c17_ => ?_)
        · -- 41 taken
          refine z_iinc (v := nI (k + 1)) (lv' := [(2, .int (nI (k + 1))), (3, .ref ((ad k))), (0, .ref a0), (1, .int (nI sf))]) C dX2_prepareSearch_60 3 rfl (nI_add k 1) (by decide) rfl ?_
          refine z_goto C 14 dX2_prepareSearch_63 (by decide) ?_
          refine z_sub (lv' := [(0, .ref a0), (1, .int (nI sf)), (2, .int (nI (k + 1)))]) [2, 3, 0] rfl ?_
          exact ih14 (k + 1) cnt nu tk hr f4 f5 f6 f7 F2 (by omega) (Lst_skip (by omega) hls) hF2_w hF4_w hF5_w hF6_w hF7_w g4 g7 hkp (by omega)
        · -- 41 not taken
          refine z_aload_n C dX2_prepareSearch_44 rfl 1 rfl ?_
          refine z_get (ref := "Shedwheel") (v := .ref a2) C hin_X2_prepareSearch_X2 hL0_2 hF0_2 rfl 1 (by decide) (by decide +kernel) (fun _ h9 => h9) rfl dX2_prepareSearch_45 ?_
          refine z_iload_n C dX2_prepareSearch_48 rfl 3 rfl ?_
          refine z_aload_n C dX2_prepareSearch_49 rfl 0 rfl ?_
          refine z_callVN (As := []) (st := [.int (nI k), .ref a2]) (mc := 0) (ms := 0) C hLa hFa rfl (c_X0_taken l hlst G L F2 (ad k) (fSg (fd k)) (fMw (fd k)) (fCr (fd k)) (fOf (fd k)) (fHo (fd k)) (fTh (fd k)) (fCo (fd k)) hLa hFa (by omega) (by omega) (by omega)) ⟨va_cnB 0 C.1.2.2.2.2 gX2_prepareSearch_X0_taken_n112 rfl rfl rfl (z_nl (host := RX2) C (by decide +kernel)) (C.1.2.2.2.2 _ (show Cond.initialized RX0 ∈ _ from (by decide +kernel))) (by decide +kernel) ⟨Nat.le_of_ble_eq_true rfl, Nat.le_of_ble_eq_true rfl⟩, C.1.2.2.2.2 _ (show Cond.instanceMethod yX0_taken ∈ _ from (by decide +kernel)), C.1.2.2.2.2 _ (show Cond.selects RX0 yX0_taken yX0_taken ∈ _ from (by decide +kernel))⟩ rfl (Nat.le_of_ble_eq_true rfl) ⟨Nat.le_of_ble_eq_true rfl, Nat.le_of_ble_eq_true rfl⟩ dX2_prepareSearch_50 (z_p ?_)
          refine z_stk (st' := [.int (nI (tkV (fMw (fd k)) (fOf (fd k)) (fCo (fd k)))), .int (nI k), .ref a2]) rfl ?_
          refine z_aload_n C dX2_prepareSearch_53 rfl 0 rfl ?_
          refine z_getN (host := RX2) (ref := "Shedwheel$Feeder") (v := .int (nI (fHo (fd k)))) C hin_X2_prepareSearch_X0 hLa hFa rfl 4 (by decide) (by decide +kernel) (fun _ h9 => h9) rfl dX2_prepareSearch_54 ?_
          refine z_callVN (As := [.int (nI k), .int (nI (tkV (fMw (fd k)) (fOf (fd k)) (fCo (fd k)))), .int (nI (fHo (fd k)))]) (st := []) (mc := 0) (ms := 0) C hL2 hF2_w rfl (c_X1_offer l hlst G L F2 a2 b4 b5 b6 b7 cnt sf (sf + sl) 0 bt bh hL2 hF2_w f4 f5 f6 f7 hL4 hF4_w hL5 hF5_w hL6 hF6_w hL7 hF7_w n45 n46 n47 n56 n57 n67 k (tkV (fMw (fd k)) (fOf (fd k)) (fCo (fd k))) (fHo (fd k)) (smV tk cnt) (by omega) (by omega) (g7 cnt (Nat.le_refl _))) ⟨va_cnB 3 C.1.2.2.2.2 gX2_prepareSearch_X1_offer_n166 rfl rfl rfl (z_nl (host := RX2) C (by decide +kernel)) (C.1.2.2.2.2 _ (show Cond.initialized RX1 ∈ _ from (by decide +kernel))) (by decide +kernel) ⟨Nat.le_of_ble_eq_true rfl, Nat.le_of_ble_eq_true rfl⟩, C.1.2.2.2.2 _ (show Cond.instanceMethod yX1_offer ∈ _ from (by decide +kernel)), C.1.2.2.2.2 _ (show Cond.selects RX1 yX1_offer yX1_offer ∈ _ from (by decide +kernel))⟩ rfl (Nat.le_of_ble_eq_true rfl) ⟨Nat.le_of_ble_eq_true rfl, Nat.le_of_ble_eq_true rfl⟩ dX2_prepareSearch_57 (fun rv18_ L19_ F20_ hp21_ => ?_)
          obtain ⟨e22_, e23_, h25_, h26_, h27_, h28_, h29_, k24_⟩ := hp21_
          rw [e22_, e23_]
          have h30_ : F20_ a0 = .inr (3, [.ref a1, .ref a2, .int (nI now), .int (nI sl)]) := (k24_ a0 (zne hF0_2 hF4_w rfl) (zne hF0_2 hF5_w rfl) (zne hF0_2 hF6_w rfl) (zne hF0_2 hF7_w rfl) (zne hF0_2 hF2_w rfl)).trans hF0_2
          have h31_ : F20_ a1 = .inr (0, [.int mo_2, .ref ea_2, .int (nI n)]) := (k24_ a1 (zne hF1_2 hF4_w rfl) (zne hF1_2 hF5_w rfl) (zne hF1_2 hF6_w rfl) (zne hF1_2 hF7_w rfl) (zne hF1_2 hF2_w rfl)).trans hF1_2
          have h32_ : F20_ (ad k) = .inr (1, [.int (nI (fSg (fd k))), .int (nI (fMw (fd k))), .int (nI (fCr (fd k))), .int (nI (fOf (fd k))), .int (nI (fHo (fd k))), .int (nI (fTh (fd k))), .int (nI (fCo (fd k)))]) := (k24_ (ad k) (zne hFa hF4_w rfl) (zne hFa hF5_w rfl) (zne hFa hF6_w rfl) (zne hFa hF7_w rfl) (zne hFa hF2_w rfl)).trans hFa
          have kc33_ : ∀ b, b ≠ b4 → b ≠ b5 → b ≠ b6 → b ≠ b7 → b ≠ a2 → F20_ b = F2 b := fun b q0 q1 q2 q3 q4 => k24_ b q0 q1 q2 q3 q4
          refine z_stk (st' := []) rfl ?_
          refine z_iinc (v := nI (k + 1)) (lv' := [(2, .int (nI (k + 1))), (3, .ref ((ad k))), (0, .ref a0), (1, .int (nI sf))]) C dX2_prepareSearch_60 3 rfl (nI_add k 1) (by decide) rfl ?_
          refine z_goto C 14 dX2_prepareSearch_63 (by decide) ?_
          refine z_sub (lv' := [(0, .ref a0), (1, .int (nI sf)), (2, .int (nI (k + 1)))]) [2, 3, 0] rfl ?_
          exact ih14 (k + 1) (cnt + 1) (va_up nu cnt k) (va_up tk cnt (fTk (fd k))) (va_up hr cnt (fHo (fd k))) _ _ _ _ F20_ (by omega) (Lst_add (by omega) hls) h29_ h25_ h26_ h27_ h28_ (prep_g4 g4) (prep_g7 g7) (fun b g1 g2 g3 g5 g6 => (kc33_ b g2 g3 g5 g6 g1).trans (hkp b g1 g2 g3 g5 g6)) (by omega)
  exact lp14 _ 0 0 (fun _ => 0) (fun _ => 0) (fun _ => 0) f4 f5 f6 f7 F3_ (Nat.zero_le _) rfl h7_ h11_ h12_ h13_ h14_ (fun i hi => absurd hi (Nat.not_lt_zero i)) (fun i hi => by have e9 : i = 0 := (by omega); subst e9; exact h70) (fun b g1 _ _ _ _ => kc15_ b g1) (Nat.lt_succ_self _)

set_option maxRecDepth 100000 in
theorem hin_X2_chosenFor_X2 : ∀ w ∈ u_ws RX2 TX2 4, w ∈ wsX2_chosenFor := by decide +kernel
set_option maxHeartbeats 4000000 in
set_option maxRecDepth 100000 in
theorem c_X2_chosenFor (l : Launch) (hlst : l.stackTraces = false) (G : zGt) (L : List Nat) (F : Nat → va_E) (M : Nat → Prop) (a0 a1 a2 b4 b5 b6 b7 : Nat) (ad : Nat → Nat) (n now sl : Nat) (fd : Nat → FdT) (hco : zCo G M L F a0 a1 a2 b4 b5 b6 b7 ad n now sl fd) (sf : Nat) (hsf : 1 ≤ sf ∧ sf ≤ 30000) : zM l yX2_chosenFor wsX2_chosenFor 21 640 0 0 G L F [.ref a0, .int (nI sf)] (fun rv L1 F1 => ∃ b : Nat, rv = some (.int (nI b)) ∧ isB n fd sl sf b ∧ b < 4096 ∧ L1 = L ∧ zCo G M L F1 a0 a1 a2 b4 b5 b6 b7 ad n now sl fd ∧ ∀ b, M b → F1 b = F b) := by
  obtain ⟨⟨hL0, hL1, hL2, hL4, hL5, hL6, hL7⟩, hF0, ⟨mo, ea, nn, fe, hF1, hFe, hfe, hMe⟩, hSr, hNb, hFd, hIj, ⟨hn, hnow, hsl⟩, hM0, hM1, hM2, hM4, hM5, hM6, hM7⟩ := id hco
  refine z_of (cc := cX2_chosenFor) (nL := 2) (ret := (some .int)) (own := RX2) hlst (by decide +kernel) rfl rfl (Nat.le_of_ble_eq_true rfl) ?_
  intro p e s m below meth c A hnm C
  refine z_lvs (lv' := [(0, .ref a0), (1, .int (nI sf))]) rfl ?_
  refine z_aload_n C dX2_chosenFor_0 rfl 0 rfl ?_
  refine z_iload_n C dX2_chosenFor_1 rfl 1 rfl ?_
  refine z_callV (As := [.int (nI sf)]) (st := []) (mc := 0) (ms := 0) C hL0 hF0 rfl (c_X2_prepareSearch l hlst G L F M a0 a1 a2 b4 b5 b6 b7 ad n now sl fd hco sf hsf) (cwV 1 C.1.2.2.2.2 gX2_chosenFor_X2_prepareSearch rfl rfl rfl (by decide +kernel) ⟨Nat.le_of_ble_eq_true rfl, Nat.le_of_ble_eq_true rfl⟩) rfl (Nat.le_of_ble_eq_true rfl) ⟨Nat.le_of_ble_eq_true rfl, Nat.le_of_ble_eq_true rfl⟩ dX2_chosenFor_2 (fun rv8 L8 F8 hp8 => ?_)
  obtain ⟨cnt, bt, bh, nu, tk, hr, f4, f5, f6, f7, e81, e82, hls, hF2_w, ⟨hF4_w, hF5_w, hF6_w, hF7_w⟩, g4, g7, ⟨hbt, hbh⟩, hkp⟩ := hp8
  rw [e81, e82]
  refine z_stk (st' := []) rfl ?_
  have hco2 := hco.srch hkp ⟨f4, f5, f6, f7, cnt, sf, sf + sl, 0, bt, bh, hF2_w, ⟨hF4_w, hF5_w, hF6_w, hF7_w⟩, g7 0 (Nat.zero_le _), hbt, hbh⟩
  have hwk := (Lst_ok hnow (by omega) (fun j hj => (hFd j hj).2.2.1) hls).1
  obtain ⟨⟨hL0_2, hL1_2, hL2_2, hL4_2, hL5_2, hL6_2, hL7_2⟩, hF0_2, ⟨mo_2, ea_2, nn_2, fe_2, hF1_2, hFe_2, hfe_2, hMe_2⟩, hSr_2, hNb_2, hFd_2, hIj_2, ⟨hn_2, hnow_2, hsl_2⟩, hM0_2, hM1_2, hM2_2, hM4_2, hM5_2, hM6_2, hM7_2⟩ := id hco2
  refine z_aload_n C dX2_chosenFor_5 rfl 0 rfl ?_
  refine z_get (ref := "Shedwheel") (v := .ref a2) C hin_X2_chosenFor_X2 hL0_2 hF0_2 rfl 1 (by decide) (by decide +kernel) (fun _ h9 => h9) rfl dX2_chosenFor_6 ?_
  refine z_callVN (As := []) (st := []) (mc := 0) (ms := 0) C hL2 hF2_w rfl (c_X1_bestByWalking l hlst G L F8 a2 b4 b5 b6 b7 cnt sf (sf + sl) f4 f5 f6 f7 nu tk hr hL2 hL4 hL5 hL6 hL7 hwk g4 g7 ⟨by omega, by omega⟩ (by omega) 0 bt bh hF2_w hF4_w hF5_w hF6_w hF7_w ⟨(by show 0 < 4096; decide), hbt, hbh⟩) ⟨va_cnB 0 C.1.2.2.2.2 gX2_chosenFor_X1_bestByWalking_n159 rfl rfl rfl (z_nl (host := RX2) C (by decide +kernel)) (C.1.2.2.2.2 _ (show Cond.initialized RX1 ∈ _ from (by decide +kernel))) (by decide +kernel) ⟨Nat.le_of_ble_eq_true rfl, Nat.le_of_ble_eq_true rfl⟩, C.1.2.2.2.2 _ (show Cond.instanceMethod yX1_bestByWalking ∈ _ from (by decide +kernel)), C.1.2.2.2.2 _ (show Cond.selects RX1 yX1_bestByWalking yX1_bestByWalking ∈ _ from (by decide +kernel))⟩ rfl (Nat.le_of_ble_eq_true rfl) ⟨Nat.le_of_ble_eq_true rfl, Nat.le_of_ble_eq_true rfl⟩ dX2_chosenFor_9 (fun rv1_ L2_ F3_ hp4_ => ?_)
  obtain ⟨e5_, e6_, h7_, k8_⟩ := hp4_
  rw [e5_, e6_]
  have h9_ : F3_ a0 = .inr (3, [.ref a1, .ref a2, .int (nI now), .int (nI sl)]) := (k8_ a0 (zne hF0_2 hF2_w rfl)).trans hF0_2
  have h10_ : F3_ a1 = .inr (0, [.int mo_2, .ref ea_2, .int (nI n)]) := (k8_ a1 (zne hF1_2 hF2_w rfl)).trans hF1_2
  have h11_ : F3_ b4 = .inl (G.2.1, 12, .inl f4) := (k8_ b4 (zne hF4_w hF2_w rfl)).trans hF4_w
  have h12_ : F3_ b5 = .inl (G.2.1, 12, .inl f5) := (k8_ b5 (zne hF5_w hF2_w rfl)).trans hF5_w
  have h13_ : F3_ b6 = .inl (G.2.1, 12, .inl f6) := (k8_ b6 (zne hF6_w hF2_w rfl)).trans hF6_w
  have h14_ : F3_ b7 = .inl (G.2.1, 13, .inl f7) := (k8_ b7 (zne hF7_w hF2_w rfl)).trans hF7_w
  have kc15_ : ∀ b, b ≠ a2 → F3_ b = F8 b := fun b q0 => k8_ b q0
  refine z_stk (st' := [.int (nI ((wkV (sf + sl) sf nu tk hr cnt (0, 0, 0) (0, bt, bh)).1))]) rfl ?_
  refine z_iret0 C rfl rfl (by decide) (by decide) dX2_chosenFor_12 ?_
  have hB := best_walk (bt := bt) (bh := bh) (n := n) (now := now) (fd := fd) (sl := sl) (sf := sf) hn hnow (fun j hj => (hFd j hj).2.2.1) hls (by omega) (by omega)
  have hbd : bdV (wkV (sf + sl) sf nu tk hr cnt (0, 0, 0) (0, bt, bh)) := bdV_wk hwk _ _ _ (Nat.le_refl _) (xOk0 _ _ hwk.1) ⟨(by show 0 < 4096; decide), hbt, hbh⟩
  have hco3 := hco2.srch (fun b g1 _ _ _ _ => kc15_ b g1) ⟨f4, f5, f6, f7, cnt, sf, sf + sl, _, _, _, h7_, ⟨h11_, h12_, h13_, h14_⟩, g7 0 (Nat.zero_le _), hbd.2.1, hbd.2.2⟩
  exact ⟨(wkV (sf + sl) sf nu tk hr cnt (0, 0, 0) (0, bt, bh)).1, rfl, hB.1, hB.2, rfl, hco3, fun b hb => (kc15_ b (fun e9 => hM2 (e9 ▸ hb))).trans (hkp b (fun e9 => hM2 (e9 ▸ hb)) (fun e9 => hM4 (e9 ▸ hb)) (fun e9 => hM5 (e9 ▸ hb)) (fun e9 => hM6 (e9 ▸ hb)) (fun e9 => hM7 (e9 ▸ hb)))⟩

set_option maxHeartbeats 4000000 in
set_option maxRecDepth 100000 in
theorem c_X2_choice (l : Launch) (hlst : l.stackTraces = false) (G : zGt) (L : List Nat) (F : Nat → va_E) (M : Nat → Prop) (a0 a1 a2 b4 b5 b6 b7 : Nat) (ad : Nat → Nat) (n now sl : Nat) (fd : Nat → FdT) (hco : zCo G M L F a0 a1 a2 b4 b5 b6 b7 ad n now sl fd) (v : Int32) : zX l yX2_choice wsX2_choice 22 661 1 6 G L F [.ref a0, .int v] (fun rv L1 F1 => ∃ sf b : Nat, v = nI sf ∧ 1 ≤ sf ∧ sf ≤ 20000 ∧ rv = some (.int (nI b)) ∧ isB n fd sl sf b ∧ L1 = L ∧ zCo G M L F1 a0 a1 a2 b4 b5 b6 b7 ad n now sl fd ∧ ∀ b, M b → F1 b = F b) (fun E L1 F1 => L1 = L ∧ F1 = F ∧ E = "java/lang/IllegalArgumentException" ∧ ¬ zIn 1 20000 v) := by
  obtain ⟨⟨hL0, hL1, hL2, hL4, hL5, hL6, hL7⟩, hF0, ⟨mo, ea, nn, fe, hF1, hFe, hfe, hMe⟩, hSr, hNb, hFd, hIj, ⟨hn, hnow, hsl⟩, hM0, hM1, hM2, hM4, hM5, hM6, hM7⟩ := id hco
  refine z_ofX (cc := cX2_choice) (nL := 2) (ret := (some .int)) (own := RX2) hlst (by decide +kernel) rfl rfl (Nat.le_of_ble_eq_true rfl) ?_
  intro p e s m below meth c A hout C
  refine z_lvs (lv' := [(0, .ref a0), (1, .int v)]) rfl ?_
  refine z_iload_n C dX2_choice_0 rfl 1 rfl ?_
  refine z_iconst C (nI 1) dX2_choice_1 (by decide) ?_
  refine z_sipush C (nI 20000) dX2_choice_2 (by decide) ?_
  refine z_callSX (As := [.int v, .int (nI 1), .int (nI 20000)]) (st := []) (mc := 1) (ms := 6) C (c_X2_requireWithin l hlst G L F v 1 20000 (by decide) (by decide)) (va_cwS 3 C.1.2.2.2.2 gX2_choice_X2_requireWithin rfl rfl rfl (by decide +kernel) ⟨Nat.le_of_ble_eq_true rfl, Nat.le_of_ble_eq_true rfl⟩) rfl (Nat.le_of_ble_eq_true rfl) ⟨Nat.le_of_ble_eq_true rfl, Nat.le_of_ble_eq_true rfl⟩ dX2_choice_5 (z_xo C hout (Nat.le_of_ble_eq_true rfl) (Nat.le_of_ble_eq_true rfl) (fun E9 L9 F9 hx => ⟨hx.1, hx.2.1, hx.2.2⟩)) (z_pp (fun hin5 => ?_))
  refine z_stk (st' := []) rfl ?_
  obtain ⟨sf, hvsf, hsf1, hsf2⟩ := zIn_of hin5
  refine z_lvs (lv' := [(0, .ref a0), (1, .int (nI sf))]) (by rw [hvsf]) ?_
  refine z_aload_n C dX2_choice_8 rfl 0 rfl ?_
  refine z_iload_n C dX2_choice_9 rfl 1 rfl ?_
  refine z_callV (As := [.int (nI sf)]) (st := []) (mc := 0) (ms := 0) C hL0 hF0 rfl (c_X2_chosenFor l hlst G L F M a0 a1 a2 b4 b5 b6 b7 ad n now sl fd hco sf ⟨by omega, by omega⟩) (cwV 1 C.1.2.2.2.2 gX2_choice_X2_chosenFor rfl rfl rfl (by decide +kernel) ⟨Nat.le_of_ble_eq_true rfl, Nat.le_of_ble_eq_true rfl⟩) rfl (Nat.le_of_ble_eq_true rfl) ⟨Nat.le_of_ble_eq_true rfl, Nat.le_of_ble_eq_true rfl⟩ dX2_choice_10 (fun rv8 L8 F8 hp8 => ?_)
  obtain ⟨sb, e81, hB, hsb, e82, hco2, hkM⟩ := hp8
  rw [e81, e82]
  refine z_stk (st' := [.int (nI sb)]) rfl ?_
  obtain ⟨⟨hL0_8, hL1_8, hL2_8, hL4_8, hL5_8, hL6_8, hL7_8⟩, hF0_8, ⟨mo_8, ea_8, nn_8, fe_8, hF1_8, hFe_8, hfe_8, hMe_8⟩, hSr_8, hNb_8, hFd_8, hIj_8, ⟨hn_8, hnow_8, hsl_8⟩, hM0_8, hM1_8, hM2_8, hM4_8, hM5_8, hM6_8, hM7_8⟩ := id hco2
  refine z_iret C rfl rfl (by decide) (by decide) dX2_choice_13 ?_
  exact ⟨sf, sb, hvsf, hsf1, hsf2, rfl, hB, rfl, hco2, hkM⟩

set_option maxRecDepth 100000 in
theorem hin_X2_relieve_X2 : ∀ w ∈ u_ws RX2 TX2 4, w ∈ wsX2_relieve := by decide +kernel
set_option maxHeartbeats 4000000 in
set_option maxRecDepth 100000 in
theorem c_X2_relieve (l : Launch) (hlst : l.stackTraces = false) (G : zGt) (L : List Nat) (F : Nat → va_E) (M : Nat → Prop) (a0 a1 a2 b4 b5 b6 b7 : Nat) (ad : Nat → Nat) (n now sl : Nat) (fd : Nat → FdT) (hco : zCo G M L F a0 a1 a2 b4 b5 b6 b7 ad n now sl fd) (v : Int32) : zX l yX2_relieve wsX2_relieve 22 661 2 12 G L F [.ref a0, .int v] (fun rv L1 F1 => ∃ sf b : Nat, v = nI sf ∧ 1 ≤ sf ∧ sf ≤ 20000 ∧ rv = some (.int (nI (smV (fun i => reT b i (fd i)) n))) ∧ isB n fd sl sf b ∧ b ≠ 0 ∧ L1 = L ∧ zCo G M L F1 a0 a1 a2 b4 b5 b6 b7 ad n now sl (fdK (fun i r => reG b i r) fd n) ∧ ∀ b, M b → F1 b = F b) (fun E L1 F1 => (L1 = L ∧ F1 = F ∧ E = "java/lang/IllegalArgumentException" ∧ ¬ zIn 1 20000 v) ∨ (∃ sf : Nat, v = nI sf ∧ 1 ≤ sf ∧ sf ≤ 20000 ∧ E = "java/util/NoSuchElementException" ∧ isB n fd sl sf 0 ∧ L1 = L ∧ zCo G M L F1 a0 a1 a2 b4 b5 b6 b7 ad n now sl fd ∧ ∀ b, M b → F1 b = F b)) := by
  obtain ⟨⟨hL0, hL1, hL2, hL4, hL5, hL6, hL7⟩, hF0, ⟨mo, ea, nn, fe, hF1, hFe, hfe, hMe⟩, hSr, hNb, hFd, hIj, ⟨hn, hnow, hsl⟩, hM0, hM1, hM2, hM4, hM5, hM6, hM7⟩ := id hco
  refine z_ofX (cc := cX2_relieve) (nL := 5) (ret := (some .int)) (own := RX2) hlst (by decide +kernel) rfl rfl (Nat.le_of_ble_eq_true rfl) ?_
  intro p e s m below meth c A hout C
  refine z_lvs (lv' := [(0, .ref a0), (1, .int v)]) rfl ?_
  refine z_iload_n C dX2_relieve_0 rfl 1 rfl ?_
  refine z_iconst C (nI 1) dX2_relieve_1 (by decide) ?_
  refine z_sipush C (nI 20000) dX2_relieve_2 (by decide) ?_
  refine z_callSX (As := [.int v, .int (nI 1), .int (nI 20000)]) (st := []) (mc := 1) (ms := 6) C (c_X2_requireWithin l hlst G L F v 1 20000 (by decide) (by decide)) (va_cwS 3 C.1.2.2.2.2 gX2_relieve_X2_requireWithin rfl rfl rfl (by decide +kernel) ⟨Nat.le_of_ble_eq_true rfl, Nat.le_of_ble_eq_true rfl⟩) rfl (Nat.le_of_ble_eq_true rfl) ⟨Nat.le_of_ble_eq_true rfl, Nat.le_of_ble_eq_true rfl⟩ dX2_relieve_5 (z_xo C hout (Nat.le_of_ble_eq_true rfl) (Nat.le_of_ble_eq_true rfl) (fun E9 L9 F9 hx => Or.inl hx)) (z_pp (fun hin5 => ?_))
  refine z_stk (st' := []) rfl ?_
  obtain ⟨sf, hvsf, hsf1, hsf2⟩ := zIn_of hin5
  refine z_lvs (lv' := [(0, .ref a0), (1, .int (nI sf))]) (by rw [hvsf]) ?_
  refine z_aload_n C dX2_relieve_8 rfl 0 rfl ?_
  refine z_iload_n C dX2_relieve_9 rfl 1 rfl ?_
  refine z_callV (As := [.int (nI sf)]) (st := []) (mc := 0) (ms := 0) C hL0 hF0 rfl (c_X2_chosenFor l hlst G L F M a0 a1 a2 b4 b5 b6 b7 ad n now sl fd hco sf ⟨by omega, by omega⟩) (cwV 1 C.1.2.2.2.2 gX2_relieve_X2_chosenFor rfl rfl rfl (by decide +kernel) ⟨Nat.le_of_ble_eq_true rfl, Nat.le_of_ble_eq_true rfl⟩) rfl (Nat.le_of_ble_eq_true rfl) ⟨Nat.le_of_ble_eq_true rfl, Nat.le_of_ble_eq_true rfl⟩ dX2_relieve_10 (fun rv8 L8 F8 hp8 => ?_)
  obtain ⟨sb, e81, hB, hsb, e82, hco2, hkM⟩ := hp8
  rw [e81, e82]
  refine z_stk (st' := [.int (nI sb)]) rfl ?_
  obtain ⟨⟨hL0_8, hL1_8, hL2_8, hL4_8, hL5_8, hL6_8, hL7_8⟩, hF0_8, ⟨mo_8, ea_8, nn_8, fe_8, hF1_8, hFe_8, hfe_8, hMe_8⟩, hSr_8, hNb_8, hFd_8, hIj_8, ⟨hn_8, hnow_8, hsl_8⟩, hM0_8, hM1_8, hM2_8, hM4_8, hM5_8, hM6_8, hM7_8⟩ := id hco2
  refine z_istore_n (lv' := [(2, .int (nI sb)), (0, .ref a0), (1, .int (nI sf))]) C dX2_relieve_13 rfl (by decide) rfl ?_
  refine z_iload_n C dX2_relieve_14 rfl 0 rfl ?_
  refine z_if_ne C 28 (((sb : Nat) : Int) = (0 : Int)) (zi_eq (zi_N (n := sb) (by omega)) zi_0) dX2_relieve_15 (by decide) (fun c1_ => ?_) (fun c1_ => ?_)
  · -- 15 taken
    refine z_iconst C (nI 0) dX2_relieve_28 (by decide) ?_
    refine z_istore_n (lv' := [(3, .int (nI 0)), (2, .int (nI sb)), (0, .ref a0), (1, .int (nI sf))]) C dX2_relieve_29 rfl (by decide) rfl ?_
    refine z_iconst C (nI 0) dX2_relieve_30 (by decide) ?_
    refine z_istore (lv' := [(4, .int (nI 0)), (3, .int (nI 0)), (2, .int (nI sb)), (0, .ref a0), (1, .int (nI sf))]) C dX2_relieve_31 (by decide) rfl ?_
    refine z_lvs (lv' := [(4, .int (nI 0)), (3, .int (nI (smV (fun i => reT sb i (fd i)) 0))), (2, .int (nI sb)), (0, .ref a0), (1, .int (nI sf))]) rfl ?_
    refine z_sub (lv' := [(0, .ref a0), (1, .int (nI sf)), (2, .int (nI sb)), (3, .int (nI (smV (fun i => reT sb i (fd i)) 0))), (4, .int (nI 0))]) [3, 4, 2, 1, 0] rfl ?_
    have hcoA := hco2
    rw [← fdK_0 (fun i r => reG sb i r) fd] at hcoA
    have lp33 : ∀ (N9 : Nat) (k : Nat) (F2 : Nat → va_E) (hk : k ≤ n) (hco2 : zCo G M L F2 a0 a1 a2 b4 b5 b6 b7 ad n now sl (fdK (fun i r => reG sb i r) fd k)) (hkM : ∀ b, M b → F2 b = F b) (h9 : n - k < N9), zW p l e { frames := 22, cells := 2, slots := 12, locals := 661 } s m [.ref a0, .int v].toArray below meth c 5 G A (vx_MQ below (zQ G (fun rv L1 F1 => ∃ sf b : Nat, v = nI sf ∧ 1 ≤ sf ∧ sf ≤ 20000 ∧ rv = some (.int (nI (smV (fun i => reT b i (fd i)) n))) ∧ isB n fd sl sf b ∧ b ≠ 0 ∧ L1 = L ∧ zCo G M L F1 a0 a1 a2 b4 b5 b6 b7 ad n now sl (fdK (fun i r => reG b i r) fd n) ∧ ∀ b, M b → F1 b = F b) A) (zE G (fun E L1 F1 => (L1 = L ∧ F1 = F ∧ E = "java/lang/IllegalArgumentException" ∧ ¬ zIn 1 20000 v) ∨ (∃ sf : Nat, v = nI sf ∧ 1 ≤ sf ∧ sf ≤ 20000 ∧ E = "java/util/NoSuchElementException" ∧ isB n fd sl sf 0 ∧ L1 = L ∧ zCo G M L F1 a0 a1 a2 b4 b5 b6 b7 ad n now sl fd ∧ ∀ b, M b → F1 b = F b)) A) [.ref a0, .int v].toArray s 2 12 A) (0 + 1) (0 + 6) L F2 33 [(0, .ref a0), (1, .int (nI sf)), (2, .int (nI sb)), (3, .int (nI (smV (fun i => reT sb i (fd i)) k))), (4, .int (nI k))] [] := by
      intro N9
      induction N9 with
      | zero => intro k F2 hk hco2 hkM h9; exact absurd h9 (Nat.not_lt_zero _)
      | succ N9 ih33 =>
        intro k F2 hk hco2 hkM hN33
        refine z_iload C dX2_relieve_33 4 rfl ?_
        obtain ⟨⟨hL0_2, hL1_2, hL2_2, hL4_2, hL5_2, hL6_2, hL7_2⟩, hF0_2, ⟨mo_2, ea_2, nn_2, fe_2, hF1_2, hFe_2, hfe_2, hMe_2⟩, hSr_2, hNb_2, hFd_2, hIj_2, ⟨hn_2, hnow_2, hsl_2⟩, hM0_2, hM1_2, hM2_2, hM4_2, hM5_2, hM6_2, hM7_2⟩ := id hco2
        have hbv := bitV_le sb k
        refine z_aload_n C dX2_relieve_35 rfl 0 rfl ?_
        refine z_get (ref := "Shedwheel") (v := .ref a1) C hin_X2_relieve_X2 hL0_2 hF0_2 rfl 0 (by decide) (by decide +kernel) (fun _ h9 => h9) rfl dX2_relieve_36 ?_
        refine z_callV (As := []) (st := [.int (nI k)]) (mc := 0) (ms := 0) C hL1_2 hF1_2 rfl (c_Jx4a65c_size_8abf5 l hlst G L F2 a1 mo_2 ea_2 n hL1_2 hF1_2 ) (cwV 0 C.1.2.2.2.2 gX2_relieve_Jx4a65c_size_8abf5 rfl rfl rfl (by decide +kernel) ⟨Nat.le_of_ble_eq_true rfl, Nat.le_of_ble_eq_true rfl⟩) rfl (Nat.le_of_ble_eq_true rfl) ⟨Nat.le_of_ble_eq_true rfl, Nat.le_of_ble_eq_true rfl⟩ dX2_relieve_39 (z_p ?_)
        refine z_stk (st' := [.int (nI n), .int (nI k)]) rfl ?_
        refine z_icmp_ge C 78 (((n : Nat) : Int) ≤ ((k : Nat) : Int)) (zi_le (zi_N (n := n) (by omega)) (zi_N (n := k) (by omega))) dX2_relieve_42 (by decide) (fun c2_ => ?_) (fun c2_ => ?_)
        · -- 42 taken
          refine z_iload_n C dX2_relieve_78 rfl 3 rfl ?_
          refine z_iret C rfl rfl (by decide) (by decide) dX2_relieve_79 ?_
          obtain rfl : n = k := by omega
          exact ⟨sf, sb, hvsf, hsf1, hsf2, rfl, hB, by omega, rfl, hco2, hkM⟩
        · -- 42 not taken
          refine z_iload_n C dX2_relieve_45 rfl 2 rfl ?_
          refine z_iload C dX2_relieve_46 4 rfl ?_
          refine z_callS (As := [.int (nI sb), .int (nI k)]) (st := []) (mc := 0) (ms := 0) C (c_X2_holds l hlst G L F2 sb k (by omega) (by omega)) (va_cwS 2 C.1.2.2.2.2 gX2_relieve_X2_holds rfl rfl rfl (by decide +kernel) ⟨Nat.le_of_ble_eq_true rfl, Nat.le_of_ble_eq_true rfl⟩) rfl (Nat.le_of_ble_eq_true rfl) ⟨Nat.le_of_ble_eq_true rfl, Nat.le_of_ble_eq_true rfl⟩ dX2_relieve_48 (z_p ?_)
          refine z_stk (st' := [.int (nI (bitV sb k))]) rfl ?_
          refine z_if_eq C 72 (((bitV sb k : Nat) : Int) = (0 : Int)) (zi_eq (zi_N (n := bitV sb k) (by omega)) zi_0) dX2_relieve_51 (by decide) (fun c3_ => ?_) (fun c3_ => ?_)
          · -- 51 taken
            refine z_iinc (v := nI (k + 1)) (lv' := [(4, .int (nI (k + 1))), (0, .ref a0), (1, .int (nI sf)), (2, .int (nI sb)), (3, .int (nI (smV (fun i => reT sb i (fd i)) k)))]) C dX2_relieve_72 4 rfl (nI_add k 1) (by decide) rfl ?_
            refine z_goto C 33 dX2_relieve_75 (by decide) ?_
            refine z_lvs (lv' := [(4, .int (nI (k + 1))), (0, .ref a0), (1, .int (nI sf)), (2, .int (nI sb)), (3, .int (nI (smV (fun i => reT sb i (fd i)) (k + 1))))]) (by rw [smV_s, show reT sb k (fd k) = 0 from by rw [reT, if_neg (by omega)]]; rfl) ?_
            have hco3 := hco2
            rw [fdK_n (fun i r => reG sb i r) fd k (by show reG sb k (fd k) = fd k; rw [reG, if_neg (by omega)])] at hco3
            refine z_sub (lv' := [(0, .ref a0), (1, .int (nI sf)), (2, .int (nI sb)), (3, .int (nI (smV (fun i => reT sb i (fd i)) (k + 1)))), (4, .int (nI (k + 1)))]) [1, 2, 3, 4, 0] rfl ?_
            exact ih33 (k + 1) F2 (by omega) hco3 hkM (by omega)
          · -- 51 not taken
            refine z_iload_n C dX2_relieve_54 rfl 3 rfl ?_
            refine z_aload_n C dX2_relieve_55 rfl 0 rfl ?_
            refine z_get (ref := "Shedwheel") (v := .ref a1) C hin_X2_relieve_X2 hL0_2 hF0_2 rfl 0 (by decide) (by decide +kernel) (fun _ h9 => h9) rfl dX2_relieve_56 ?_
            refine z_iload C dX2_relieve_59 4 rfl ?_
            have hlt : k < n := by omega
            obtain ⟨hLe_2, hGe_2, hnn_2, hcap_2⟩ : ea_2 ∈ L ∧ F2 ea_2 = .inl (G.2.2.1, nn_2, .inr (.inr (.inr (.inr fe_2)))) ∧ n ≤ nn_2 ∧ (nn_2 = 10 ∨ nn_2 = 15) := by
              rcases hFe_2 with ⟨h9, -⟩ | h9
              · omega
              · exact h9
            refine z_callV (As := [.int (nI k)]) (st := [.int (nI (smV (fun i => reT sb i (fd i)) k))]) (mc := 0) (ms := 0) C hL1_2 hF1_2 rfl (c_Jx4a65c_get_915e3 l hlst G L F2 a1 mo_2 ea_2 n hL1_2 hF1_2 nn_2 k (ad k) fe_2 hLe_2 hGe_2 (by omega) (by omega) (hfe_2 k (by omega)) (by omega) (by omega)) (cwV 1 C.1.2.2.2.2 gX2_relieve_Jx4a65c_get_915e3 rfl rfl rfl (by decide +kernel) ⟨Nat.le_of_ble_eq_true rfl, Nat.le_of_ble_eq_true rfl⟩) rfl (Nat.le_of_ble_eq_true rfl) ⟨Nat.le_of_ble_eq_true rfl, Nat.le_of_ble_eq_true rfl⟩ dX2_relieve_61 (z_p ?_)
            refine z_stk (st' := [.ref ((ad k)), .int (nI (smV (fun i => reT sb i (fd i)) k))]) rfl ?_
            have hLa := (hFd_2 k hlt).1
            have hFa : F2 (ad k) = fdE (fd k) := by
              have h9 := (hFd_2 k hlt).2.1
              rw [fdK_at] at h9
              exact h9
            have hOk : fOk now (fd k) := (hFd k hlt).2.2.1
            obtain ⟨u1, u2, u3, u4, u5, u6, u7, u8⟩ := id hOk
            refine z_castX0 C hLa hFa (by decide +kernel) dX2_relieve_64 ?_
            refine z_callVN (As := []) (st := [.int (nI (smV (fun i => reT sb i (fd i)) k))]) (mc := 0) (ms := 0) C hLa hFa rfl (c_X0_switchOff l hlst G L F2 (ad k) (fSg (fd k)) (fMw (fd k)) (fCr (fd k)) (fOf (fd k)) (fHo (fd k)) (fTh (fd k)) (fCo (fd k)) hLa hFa (by omega) (by omega) (by omega)) ⟨va_cnB 0 C.1.2.2.2.2 gX2_relieve_X0_switchOff_n86 rfl rfl rfl (z_nl (host := RX2) C (by decide +kernel)) (C.1.2.2.2.2 _ (show Cond.initialized RX0 ∈ _ from (by decide +kernel))) (by decide +kernel) ⟨Nat.le_of_ble_eq_true rfl, Nat.le_of_ble_eq_true rfl⟩, C.1.2.2.2.2 _ (show Cond.instanceMethod yX0_switchOff ∈ _ from (by decide +kernel)), C.1.2.2.2.2 _ (show Cond.selects RX0 yX0_switchOff yX0_switchOff ∈ _ from (by decide +kernel))⟩ rfl (Nat.le_of_ble_eq_true rfl) ⟨Nat.le_of_ble_eq_true rfl, Nat.le_of_ble_eq_true rfl⟩ dX2_relieve_67 (fun rv4_ L5_ F6_ hp7_ => ?_)
            obtain ⟨e8_, e9_, h10_, k11_⟩ := hp7_
            rw [e8_, e9_]
            have h12_ : F6_ a0 = .inr (3, [.ref a1, .ref a2, .int (nI now), .int (nI sl)]) := (k11_ a0 (zne hF0_2 hFa rfl)).trans hF0_2
            have h13_ : F6_ a1 = .inr (0, [.int mo_2, .ref ea_2, .int (nI n)]) := (k11_ a1 (zne hF1_2 hFa rfl)).trans hF1_2
            have kc14_ : ∀ b, b ≠ (ad k) → F6_ b = F2 b := fun b q0 => k11_ b q0
            refine z_stk (st' := [.int (nI (tkV (fMw (fd k)) (fOf (fd k)) (fCo (fd k)))), .int (nI (smV (fun i => reT sb i (fd i)) k))]) rfl ?_
            refine z_iadd C (nI (smV (fun i => reT sb i (fd i)) k + tkV (fMw (fd k)) (fOf (fd k)) (fCo (fd k)))) dX2_relieve_70 (nI_add (smV (fun i => reT sb i (fd i)) k) (tkV (fMw (fd k)) (fOf (fd k)) (fCo (fd k)))) ?_
            refine z_istore_n (lv' := [(3, .int (nI (smV (fun i => reT sb i (fd i)) k + tkV (fMw (fd k)) (fOf (fd k)) (fCo (fd k))))), (0, .ref a0), (1, .int (nI sf)), (2, .int (nI sb)), (4, .int (nI k))]) C dX2_relieve_71 rfl (by decide) rfl ?_
            refine z_iinc (v := nI (k + 1)) (lv' := [(4, .int (nI (k + 1))), (3, .int (nI (smV (fun i => reT sb i (fd i)) k + tkV (fMw (fd k)) (fOf (fd k)) (fCo (fd k))))), (0, .ref a0), (1, .int (nI sf)), (2, .int (nI sb))]) C dX2_relieve_72 4 rfl (nI_add k 1) (by decide) rfl ?_
            refine z_goto C 33 dX2_relieve_75 (by decide) ?_
            refine z_lvs (lv' := [(4, .int (nI (k + 1))), (3, .int (nI (smV (fun i => reT sb i (fd i)) (k + 1)))), (0, .ref a0), (1, .int (nI sf)), (2, .int (nI sb))]) (by rw [smV_s, show reT sb k (fd k) = fTk (fd k) from by rw [reT, if_pos (by omega)]]; rfl) ?_
            have hco3 := hco2.one hlt (fOff_ok hOk) h10_ kc14_
            rw [fdK_s (fun i r => reG sb i r) fd k (by show reG sb k (fd k) = fOff (fd k); rw [reG, if_pos (by omega)])] at hco3
            refine z_sub (lv' := [(0, .ref a0), (1, .int (nI sf)), (2, .int (nI sb)), (3, .int (nI (smV (fun i => reT sb i (fd i)) (k + 1)))), (4, .int (nI (k + 1)))]) [2, 3, 4, 1, 0] rfl ?_
            exact ih33 (k + 1) F6_ (by omega) hco3 (fun b hb => (kc14_ b (hco2.apart hb k hlt)).trans (hkM b hb)) (by omega)
    exact lp33 _ 0 F8 (Nat.zero_le _) hcoA hkM (Nat.lt_succ_self _)
  · -- 15 not taken
    refine z_throwN (text := "all feeders that are on and not critical take less") (ik := 77) (is := 79) (ic := 81) C rfl (by decide +kernel) (by decide +kernel) (by decide +kernel) (by decide +kernel) (by decide +kernel) (by decide +kernel) (by decide +kernel) dX2_relieve_18 dX2_relieve_21 dX2_relieve_22 dX2_relieve_24 dX2_relieve_27 hout (Nat.le_of_ble_eq_true rfl) (Nat.le_of_ble_eq_true rfl) (Nat.le_of_ble_eq_true rfl) (Nat.le_of_ble_eq_true rfl) (Nat.le_of_ble_eq_true rfl) (Nat.le_of_ble_eq_true rfl) ?_
    obtain rfl : sb = 0 := by omega
    exact Or.inr ⟨sf, hvsf, hsf1, hsf2, rfl, hB, rfl, hco2, hkM⟩

set_option maxHeartbeats 4000000 in
set_option maxRecDepth 100000 in
theorem c_X2_rotate (l : Launch) (hlst : l.stackTraces = false) (G : zGt) (L : List Nat) (F : Nat → va_E) (M : Nat → Prop) (a0 a1 a2 b4 b5 b6 b7 : Nat) (ad : Nat → Nat) (n now sl : Nat) (fd : Nat → FdT) (hco : zCo G M L F a0 a1 a2 b4 b5 b6 b7 ad n now sl fd)  : zX l yX2_rotate wsX2_rotate 22 661 1 6 G L F [.ref a0] (fun rv L1 F1 => ∃ b : Nat, 0 < (smV (fun j => rtV (fd j)) n) ∧ rv = some (.int (nI (smV (fun i => swT (fd i)) n))) ∧ isB n fd sl (smV (fun j => rtV (fd j)) n) b ∧ b ≠ 0 ∧ L1 = L ∧ zCo G M L F1 a0 a1 a2 b4 b5 b6 b7 ad n now sl (fdK (fun i r => swG b i r) fd n) ∧ ∀ b, M b → F1 b = F b) (fun E L1 F1 => (L1 = L ∧ F1 = F ∧ E = "java/lang/IllegalStateException" ∧ (smV (fun j => rtV (fd j)) n) = 0) ∨ (E = "java/util/NoSuchElementException" ∧ 0 < (smV (fun j => rtV (fd j)) n) ∧ isB n fd sl (smV (fun j => rtV (fd j)) n) 0 ∧ L1 = L ∧ zCo G M L F1 a0 a1 a2 b4 b5 b6 b7 ad n now sl fd ∧ ∀ b, M b → F1 b = F b)) := by
  obtain ⟨⟨hL0, hL1, hL2, hL4, hL5, hL6, hL7⟩, hF0, ⟨mo, ea, nn, fe, hF1, hFe, hfe, hMe⟩, hSr, hNb, hFd, hIj, ⟨hn, hnow, hsl⟩, hM0, hM1, hM2, hM4, hM5, hM6, hM7⟩ := id hco
  refine z_ofX (cc := cX2_rotate) (nL := 3) (ret := (some .int)) (own := RX2) hlst (by decide +kernel) rfl rfl (Nat.le_of_ble_eq_true rfl) ?_
  intro p e s m below meth c A hout C
  refine z_lvs (lv' := [(0, .ref a0)]) rfl ?_
  have hrs : smV (fun j => rtV (fd j)) n ≤ n * 1998 := smV_le (fun j hj => by
    have h9 := fRs_le (hFd j hj).2.2.1
    show rtV (fd j) ≤ 1998
    unfold rtV; split <;> omega)
  refine z_aload_n C dX2_rotate_0 rfl 0 rfl ?_
  refine z_callV (As := []) (st := []) (mc := 0) (ms := 0) C hL0 hF0 rfl (c_X2_takenByReturning l hlst G L F M a0 a1 a2 b4 b5 b6 b7 ad n now sl fd hco) (cwV 0 C.1.2.2.2.2 gX2_rotate_X2_takenByReturning rfl rfl rfl (by decide +kernel) ⟨Nat.le_of_ble_eq_true rfl, Nat.le_of_ble_eq_true rfl⟩) rfl (Nat.le_of_ble_eq_true rfl) ⟨Nat.le_of_ble_eq_true rfl, Nat.le_of_ble_eq_true rfl⟩ dX2_rotate_1 (z_p ?_)
  refine z_stk (st' := [.int (nI (smV (fun j => rtV (fd j)) n))]) rfl ?_
  refine z_istore_n (lv' := [(1, .int (nI (smV (fun j => rtV (fd j)) n))), (0, .ref a0)]) C dX2_rotate_4 rfl (by decide) rfl ?_
  refine z_iload_n C dX2_rotate_5 rfl 0 rfl ?_
  refine z_if_ne C 19 (((smV (fun j => rtV (fd j)) n : Nat) : Int) = (0 : Int)) (zi_eq (zi_N (n := smV (fun j => rtV (fd j)) n) (by omega)) zi_0) dX2_rotate_6 (by decide) (fun c1_ => ?_) (fun c1_ => ?_)
  · -- 6 taken
    refine z_aload_n C dX2_rotate_19 rfl 1 rfl ?_
    refine z_iload_n C dX2_rotate_20 rfl 0 rfl ?_
    refine z_callV (As := [.int (nI (smV (fun j => rtV (fd j)) n))]) (st := []) (mc := 0) (ms := 0) C hL0 hF0 rfl (c_X2_chosenFor l hlst G L F M a0 a1 a2 b4 b5 b6 b7 ad n now sl fd hco (smV (fun j => rtV (fd j)) n) ⟨by omega, by omega⟩) (cwV 1 C.1.2.2.2.2 gX2_rotate_X2_chosenFor rfl rfl rfl (by decide +kernel) ⟨Nat.le_of_ble_eq_true rfl, Nat.le_of_ble_eq_true rfl⟩) rfl (Nat.le_of_ble_eq_true rfl) ⟨Nat.le_of_ble_eq_true rfl, Nat.le_of_ble_eq_true rfl⟩ dX2_rotate_21 (fun rv8 L8 F8 hp8 => ?_)
    obtain ⟨sb, e81, hB, hsb, e82, hco2, hkM⟩ := hp8
    rw [e81, e82]
    refine z_stk (st' := [.int (nI sb)]) rfl ?_
    obtain ⟨⟨hL0_8, hL1_8, hL2_8, hL4_8, hL5_8, hL6_8, hL7_8⟩, hF0_8, ⟨mo_8, ea_8, nn_8, fe_8, hF1_8, hFe_8, hfe_8, hMe_8⟩, hSr_8, hNb_8, hFd_8, hIj_8, ⟨hn_8, hnow_8, hsl_8⟩, hM0_8, hM1_8, hM2_8, hM4_8, hM5_8, hM6_8, hM7_8⟩ := id hco2
    refine z_istore_n (lv' := [(2, .int (nI sb)), (1, .int (nI (smV (fun j => rtV (fd j)) n))), (0, .ref a0)]) C dX2_rotate_24 rfl (by decide) rfl ?_
    refine z_iload_n C dX2_rotate_25 rfl 0 rfl ?_
    refine z_if_ne C 39 (((sb : Nat) : Int) = (0 : Int)) (zi_eq (zi_N (n := sb) (by omega)) zi_0) dX2_rotate_26 (by decide) (fun c2_ => ?_) (fun c2_ => ?_)
    · -- 26 taken
      refine z_aload_n C dX2_rotate_39 rfl 2 rfl ?_
      refine z_iload_n C dX2_rotate_40 rfl 0 rfl ?_
      refine z_callV (As := [.int (nI sb)]) (st := []) (mc := 0) (ms := 0) C hL0_8 hF0_8 rfl (c_X2_swapFor l hlst G L F8 M a0 a1 a2 b4 b5 b6 b7 ad n now sl fd hco2 sb hsb) (cwV 1 C.1.2.2.2.2 gX2_rotate_X2_swapFor rfl rfl rfl (by decide +kernel) ⟨Nat.le_of_ble_eq_true rfl, Nat.le_of_ble_eq_true rfl⟩) rfl (Nat.le_of_ble_eq_true rfl) ⟨Nat.le_of_ble_eq_true rfl, Nat.le_of_ble_eq_true rfl⟩ dX2_rotate_41 (fun rv9 L9 F9 hp9 => ?_)
      obtain ⟨e91, e92, hco9, hk9⟩ := hp9
      rw [e91, e92]
      refine z_stk (st' := [.int (nI (smV (fun i => swT (fd i)) n))]) rfl ?_
      refine z_iret C rfl rfl (by decide) (by decide) dX2_rotate_44 ?_
      exact ⟨sb, by omega, rfl, hB, by omega, rfl, hco9, fun b hb => (hk9 b hb).trans (hkM b hb)⟩
    · -- 26 not taken
      refine z_throwN (text := "all feeders that are on and not critical take less") (ik := 77) (is := 79) (ic := 81) C rfl (by decide +kernel) (by decide +kernel) (by decide +kernel) (by decide +kernel) (by decide +kernel) (by decide +kernel) (by decide +kernel) dX2_rotate_29 dX2_rotate_32 dX2_rotate_33 dX2_rotate_35 dX2_rotate_38 hout (Nat.le_of_ble_eq_true rfl) (Nat.le_of_ble_eq_true rfl) (Nat.le_of_ble_eq_true rfl) (Nat.le_of_ble_eq_true rfl) (Nat.le_of_ble_eq_true rfl) (Nat.le_of_ble_eq_true rfl) ?_
      obtain rfl : sb = 0 := by omega
      exact Or.inr ⟨rfl, by omega, hB, rfl, hco2, hkM⟩
  · -- 6 not taken
    refine z_throw (cls := "java/lang/IllegalStateException") (text := "no feeder is cut that is not critical") (ik := 38) (is := 92) (ic := 42) C rfl (by decide +kernel) (by decide +kernel) (by decide +kernel) (by decide +kernel) ["java/lang/RuntimeException", "java/lang/Exception"] (by decide +kernel) (by decide +kernel) (by decide +kernel) (by decide +kernel) (by decide +kernel) dX2_rotate_9 dX2_rotate_12 dX2_rotate_13 dX2_rotate_15 dX2_rotate_18 hout (Nat.le_of_ble_eq_true rfl) (Nat.le_of_ble_eq_true rfl) (Nat.le_of_ble_eq_true rfl) (Nat.le_of_ble_eq_true rfl) (Nat.le_of_ble_eq_true rfl) (Nat.le_of_ble_eq_true rfl) ?_
    exact Or.inl ⟨rfl, rfl, rfl, by omega⟩
