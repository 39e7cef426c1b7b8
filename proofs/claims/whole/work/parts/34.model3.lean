set_option maxRecDepth 100000 in
theorem hin_X3_pass_X3 : ∀ w ∈ u_ws RX3 TX3 11, w ∈ wsX3_pass := by decide +kernel
set_option maxHeartbeats 4000000 in
set_option maxRecDepth 100000 in
theorem c_X3_pass (l : Launch) (hlst : l.stackTraces = false) (G : zGt) (L : List Nat) (F : Nat → va_E) (m0 c0 c1 c2 c3 c4 c5 c6 : Nat) (n now sl thr : Nat) (g : Nat → FdT) (hmo : zMo G L F m0 c0 c1 c2 c3 c4 c5 c6 n now sl thr g) (v : Int32) (hn9 : now ≤ 59900) : zM l yX3_pass wsX3_pass 2 46 0 0 G L F [.ref m0, .int v] (fun rv L1 F1 => ∃ r : Int32, rv = some (.int r) ∧ L1 = L ∧ (∀ b, b ≠ m0 → b ≠ c0 → b ≠ c1 → b ≠ c2 → b ≠ c3 → b ≠ c4 → b ≠ c5 → b ≠ c6 → F1 b = F b) ∧ ((∃ ps : Nat, v = nI ps ∧ 1 ≤ ps ∧ ps ≤ 100 ∧ r = nI (now + ps) ∧ zMo G L F1 m0 c0 c1 c2 c3 c4 c5 c6 n ((now + ps)) sl 0 ((fdK (fun _ r => fPs ps r) g n))) ∨ (¬ zIn 1 100 v ∧ zMo G L F1 m0 c0 c1 c2 c3 c4 c5 c6 n now sl 1 g))) := by
  obtain ⟨⟨hLm, hLc0, hLc1, hLc2, hLc3, hLc4, hLc5, hLc6⟩, ⟨hFm, hFc0, hFc1, hFc2, hFc3, hFc4, hFc5, hFc6⟩, hNc, hGg, ⟨hn, hnow, hsl, hthr⟩⟩ := id hmo
  refine z_of (cc := cX3_pass) (nL := 3) (ret := (some .int)) (own := RX3) hlst (by decide +kernel) rfl rfl (Nat.le_of_ble_eq_true rfl) ?_
  intro p e s m below meth c A hnm C
  refine z_lvs (lv' := [(0, .ref m0), (1, .int v)]) rfl ?_
  refine z_aload_n C dX3_pass_0 rfl 0 rfl ?_
  refine z_iconst C (nI 0) dX3_pass_1 (by decide) ?_
  refine z_put (ref := "ShedwheelModel") (v := .int (nI 0)) (fs' := [.ref c0, .ref c1, .ref c2, .ref c3, .ref c4, .ref c5, .ref c6, .int (nI n), .int (nI sl), .int (nI now), .int (nI 0)]) C hin_X3_pass_X3 tyX3 tyX3_ok nmX3 hLm hFm rfl 10 (by decide) (by decide +kernel) (fun _ h9 => h9) rfl rfl rfl (Nat.le_of_ble_eq_true rfl) rfl dX3_pass_2 (fun F1_ h2_ k3_ => ?_)
  have h4_ : F1_ c0 = .inl (G.2.1, 12, .inl (fun i9 => nI (fMw (g i9)))) := (k3_ c0 (zne hFc0 hFm rfl)).trans hFc0
  have h5_ : F1_ c1 = .inl (G.2.1, 12, .inl (fun i9 => nI (fCr (g i9)))) := (k3_ c1 (zne hFc1 hFm rfl)).trans hFc1
  have h6_ : F1_ c2 = .inl (G.2.1, 12, .inl (fun i9 => nI (fSg (g i9)))) := (k3_ c2 (zne hFc2 hFm rfl)).trans hFc2
  have h7_ : F1_ c3 = .inl (G.2.1, 12, .inl (fun i9 => nI (fOf (g i9)))) := (k3_ c3 (zne hFc3 hFm rfl)).trans hFc3
  have h8_ : F1_ c4 = .inl (G.2.1, 12, .inl (fun i9 => nI (fHo (g i9)))) := (k3_ c4 (zne hFc4 hFm rfl)).trans hFc4
  have h9_ : F1_ c5 = .inl (G.2.1, 12, .inl (fun i9 => nI (fTh (g i9)))) := (k3_ c5 (zne hFc5 hFm rfl)).trans hFc5
  have h10_ : F1_ c6 = .inl (G.2.1, 12, .inl (fun i9 => nI (fCo (g i9)))) := (k3_ c6 (zne hFc6 hFm rfl)).trans hFc6
  have kc11_ : ∀ b, b ≠ m0 → F1_ b = F b := fun b q0 => k3_ b q0
  have hmoT : zMo G L F1_ m0 c0 c1 c2 c3 c4 c5 c6 n now sl 0 g := ⟨⟨hLm, hLc0, hLc1, hLc2, hLc3, hLc4, hLc5, hLc6⟩, ⟨h2_, h4_, h5_, h6_, h7_, h8_, h9_, h10_⟩, hNc, hGg, ⟨hn, hnow, hsl, by omega⟩⟩
  refine z_iload_n C dX3_pass_5 rfl 1 rfl ?_
  refine z_iconst C (nI 1) dX3_pass_6 (by decide) ?_
  refine z_bipush C (nI 100) dX3_pass_7 (by decide) ?_
  refine z_callS (As := [.int v, .int (nI 1), .int (nI 100)]) (st := []) (mc := 0) (ms := 0) C (c_X3_in l hlst G L F1_ v (nI 1) (nI 100) (((1 : Nat) : Int)) (((100 : Nat) : Int)) (zi_N (n := 1) (by omega)) (zi_N (n := 100) (by omega))) (va_cwS 3 C.1.2.2.2.2 gX3_pass_X3_in rfl rfl rfl (by decide +kernel) ⟨Nat.le_of_ble_eq_true rfl, Nat.le_of_ble_eq_true rfl⟩) rfl (Nat.le_of_ble_eq_true rfl) ⟨Nat.le_of_ble_eq_true rfl, Nat.le_of_ble_eq_true rfl⟩ dX3_pass_9 (z_p ?_)
  refine z_stk (st' := [.int (nI (if ((1 : Nat) : Int) ≤ (v).toInt ∧ (v).toInt ≤ ((100 : Nat) : Int) then 1 else 0))]) rfl ?_
  refine z_if_ne C 21 (¬ (((1 : Nat) : Int) ≤ (v).toInt ∧ (v).toInt ≤ ((100 : Nat) : Int))) (zif_iff) dX3_pass_12 (by decide) (fun c12_ => ?_) (fun c12_ => ?_)
  · -- 12 taken
    obtain ⟨ps, hvps, hps1, hps2⟩ := zIn_of (lo := 1) (hi := 100) (v := v) ⟨by omega, by omega⟩
    refine z_lvs (lv' := [(0, .ref m0), (1, .int (nI ps))]) (by rw [hvps]) ?_
    refine z_aload_n C dX3_pass_21 rfl 0 rfl ?_
    refine z_dup C dX3_pass_22 rfl ?_
    refine z_get (ref := "ShedwheelModel") (v := .int (nI now)) C hin_X3_pass_X3 hLm h2_ rfl 9 (by decide) (by decide +kernel) (fun _ h9 => h9) rfl dX3_pass_23 ?_
    refine z_iload_n C dX3_pass_26 rfl 1 rfl ?_
    refine z_iadd C (nI (now + ps)) dX3_pass_27 (nI_add now ps) ?_
    refine z_put (ref := "ShedwheelModel") (v := .int (nI (now + ps))) (fs' := [.ref c0, .ref c1, .ref c2, .ref c3, .ref c4, .ref c5, .ref c6, .int (nI n), .int (nI sl), .int (nI (now + ps)), .int (nI 0)]) C hin_X3_pass_X3 tyX3 tyX3_ok nmX3 hLm h2_ rfl 9 (by decide) (by decide +kernel) (fun _ h9 => h9) rfl rfl rfl (Nat.le_of_ble_eq_true rfl) rfl dX3_pass_28 (fun F13_ h14_ k15_ => ?_)
    have h16_ : F13_ c0 = .inl (G.2.1, 12, .inl (fun i9 => nI (fMw (g i9)))) := (k15_ c0 (zne h4_ h2_ rfl)).trans h4_
    have h17_ : F13_ c1 = .inl (G.2.1, 12, .inl (fun i9 => nI (fCr (g i9)))) := (k15_ c1 (zne h5_ h2_ rfl)).trans h5_
    have h18_ : F13_ c2 = .inl (G.2.1, 12, .inl (fun i9 => nI (fSg (g i9)))) := (k15_ c2 (zne h6_ h2_ rfl)).trans h6_
    have h19_ : F13_ c3 = .inl (G.2.1, 12, .inl (fun i9 => nI (fOf (g i9)))) := (k15_ c3 (zne h7_ h2_ rfl)).trans h7_
    have h20_ : F13_ c4 = .inl (G.2.1, 12, .inl (fun i9 => nI (fHo (g i9)))) := (k15_ c4 (zne h8_ h2_ rfl)).trans h8_
    have h21_ : F13_ c5 = .inl (G.2.1, 12, .inl (fun i9 => nI (fTh (g i9)))) := (k15_ c5 (zne h9_ h2_ rfl)).trans h9_
    have h22_ : F13_ c6 = .inl (G.2.1, 12, .inl (fun i9 => nI (fCo (g i9)))) := (k15_ c6 (zne h10_ h2_ rfl)).trans h10_
    have kc23_ : ∀ b, b ≠ m0 → F13_ b = F b := fun b q0 => (k15_ b q0).trans (kc11_ b q0)
    refine z_iconst C (nI 0) dX3_pass_31 (by decide) ?_
    refine z_istore_n (lv' := [(2, .int (nI 0)), (0, .ref m0), (1, .int (nI ps))]) C dX3_pass_32 rfl (by decide) rfl ?_
    refine z_sub (lv' := [(0, .ref m0), (1, .int (nI ps)), (2, .int (nI 0))]) [1, 2, 0] rfl ?_
    have hmoA : zMo G L F13_ m0 c0 c1 c2 c3 c4 c5 c6 n (now + ps) sl 0 g := ⟨⟨hLm, hLc0, hLc1, hLc2, hLc3, hLc4, hLc5, hLc6⟩, ⟨h14_, h16_, h17_, h18_, h19_, h20_, h21_, h22_⟩, hNc, (hGg.up (by omega)), ⟨hn, by omega, hsl, by decide⟩⟩
    rw [← fdK_0 (fun _ r => fPs ps r) g] at hmoA
    have lp33 : ∀ (N9 : Nat) (k : Nat) (F2 : Nat → va_E) (hk : k ≤ n) (hm2 : zMo G L F2 m0 c0 c1 c2 c3 c4 c5 c6 n ((now + ps)) sl 0 ((fdK (fun _ r => fPs ps r) g k))) (hk2 : ∀ b, b ≠ m0 → b ≠ c0 → b ≠ c1 → b ≠ c2 → b ≠ c3 → b ≠ c4 → b ≠ c5 → b ≠ c6 → F2 b = F b) (h9 : n - k < N9), zW p l e { frames := 2, cells := 0, slots := 0, locals := 46 } s m [.ref m0, .int v].toArray below meth c 3 G A (MQ below (zQ G (fun rv L1 F1 => ∃ r : Int32, rv = some (.int r) ∧ L1 = L ∧ (∀ b, b ≠ m0 → b ≠ c0 → b ≠ c1 → b ≠ c2 → b ≠ c3 → b ≠ c4 → b ≠ c5 → b ≠ c6 → F1 b = F b) ∧ ((∃ ps : Nat, v = nI ps ∧ 1 ≤ ps ∧ ps ≤ 100 ∧ r = nI (now + ps) ∧ zMo G L F1 m0 c0 c1 c2 c3 c4 c5 c6 n ((now + ps)) sl 0 ((fdK (fun _ r => fPs ps r) g n))) ∨ (¬ zIn 1 100 v ∧ zMo G L F1 m0 c0 c1 c2 c3 c4 c5 c6 n now sl 1 g))) A) [.ref m0, .int v].toArray s 0 0 A) 0 0 L F2 33 [(0, .ref m0), (1, .int (nI ps)), (2, .int (nI k))] [] := by
      intro N9
      induction N9 with
      | zero => intro k F2 hk hm2 hk2 h9; exact absurd h9 (Nat.not_lt_zero _)
      | succ N9 ih33 =>
        intro k F2 hk hm2 hk2 hN33
        refine z_iload_n C dX3_pass_33 rfl 2 rfl ?_
        obtain ⟨⟨hLm_2, hLc0_2, hLc1_2, hLc2_2, hLc3_2, hLc4_2, hLc5_2, hLc6_2⟩, ⟨hFm_2, hFc0_2, hFc1_2, hFc2_2, hFc3_2, hFc4_2, hFc5_2, hFc6_2⟩, hNc, hGg_2, ⟨hn_2, hnow_2, hsl_2, hthr_2⟩⟩ := id hm2
        have hlt9 : k < n ∨ n = k := by omega
        refine z_aload_n C dX3_pass_34 rfl 0 rfl ?_
        refine z_get (ref := "ShedwheelModel") (v := .int (nI n)) C hin_X3_pass_X3 hLm_2 hFm_2 rfl 7 (by decide) (by decide +kernel) (fun _ h9 => h9) rfl dX3_pass_35 ?_
        refine z_icmp_ge C 114 (((n : Nat) : Int) ≤ ((k : Nat) : Int)) (zi_le (zi_N (n := n) (by omega)) (zi_N (n := k) (by omega))) dX3_pass_38 (by decide) (fun c24_ => ?_) (fun c24_ => ?_)
        · -- 38 taken
          refine z_aload_n C dX3_pass_114 rfl 0 rfl ?_
          refine z_get (ref := "ShedwheelModel") (v := .int (nI (now + ps))) C hin_X3_pass_X3 hLm_2 hFm_2 rfl 9 (by decide) (by decide +kernel) (fun _ h9 => h9) rfl dX3_pass_115 ?_
          refine z_iret0 C rfl rfl (by decide) (by decide) dX3_pass_118 ?_
          obtain rfl : n = k := by omega
          exact ⟨_, rfl, rfl, hk2, Or.inl ⟨ps, hvps, hps1, hps2, rfl, hm2⟩⟩
        · -- 38 not taken
          have hlt : k < n := by omega
          have hOk := hGg.1 k hlt
          obtain ⟨u1, u2, u3, u4, u5, u6, u7, u8⟩ := id hOk
          refine z_aload_n C dX3_pass_41 rfl 0 rfl ?_
          refine z_get (ref := "ShedwheelModel") (v := .ref c3) C hin_X3_pass_X3 hLm_2 hFm_2 rfl 3 (by decide) (by decide +kernel) (fun _ h9 => h9) rfl dX3_pass_42 ?_
          refine z_iload_n C dX3_pass_45 rfl 2 rfl ?_
          refine z_iald C hLc3_2 hFc3_2 (by omega) (by omega) dX3_pass_46 (nI (fOf (g k))) ((by show nI (fOf ((fdK (fun _ r => fPs ps r) g k) k)) = _; rw [fdK_at])) ?_
          refine z_iconst C (nI 1) dX3_pass_47 (by decide) ?_
          refine z_icmp_ne C 74 (((fOf (g k) : Nat) : Int) = ((1 : Nat) : Int)) (zi_eq (zi_N (n := fOf (g k)) (by omega)) (zi_N (n := 1) (by omega))) dX3_pass_48 (by decide) (fun c25_ => ?_) (fun c25_ => ?_)
          · -- 48 taken
            refine z_aload_n C dX3_pass_74 rfl 0 rfl ?_
            refine z_get (ref := "ShedwheelModel") (v := .ref c6) C hin_X3_pass_X3 hLm_2 hFm_2 rfl 6 (by decide) (by decide +kernel) (fun _ h9 => h9) rfl dX3_pass_75 ?_
            refine z_iload_n C dX3_pass_78 rfl 2 rfl ?_
            refine z_aload_n C dX3_pass_79 rfl 0 rfl ?_
            refine z_get (ref := "ShedwheelModel") (v := .ref c6) C hin_X3_pass_X3 hLm_2 hFm_2 rfl 6 (by decide) (by decide +kernel) (fun _ h9 => h9) rfl dX3_pass_80 ?_
            refine z_iload_n C dX3_pass_83 rfl 2 rfl ?_
            refine z_iald C hLc6_2 hFc6_2 (by omega) (by omega) dX3_pass_84 (nI (fCo (g k))) ((by show nI (fCo ((fdK (fun _ r => fPs ps r) g k) k)) = _; rw [fdK_at])) ?_
            refine z_bipush C (nI 20) dX3_pass_85 (by decide) ?_
            refine z_iload_n C dX3_pass_87 rfl 1 rfl ?_
            refine z_imul C (nI (20 * ps)) dX3_pass_88 (pk_mul 20 ps) ?_
            refine z_icmp_le C 106 (((fCo (g k) : Nat) : Int) ≤ ((20 * ps : Nat) : Int)) (zi_le (zi_N (n := fCo (g k)) (by omega)) (zi_N (n := 20 * ps) (by omega))) dX3_pass_89 (by decide) (fun c26_ => ?_) (fun c26_ => ?_)
            · -- 89 taken
              refine z_iconst C (nI 0) dX3_pass_106 (by decide) ?_
              refine z_iast C hLc6_2 hFc6_2 (by omega) (by omega) dX3_pass_107 (fun F27_ h28_ k29_ => ?_)
              have h30_ : F27_ m0 = .inr (4, [.ref c0, .ref c1, .ref c2, .ref c3, .ref c4, .ref c5, .ref c6, .int (nI n), .int (nI sl), .int (nI (now + ps)), .int (nI 0)]) := (k29_ m0 (zne hFm_2 hFc6_2 rfl)).trans hFm_2
              have h31_ : F27_ c0 = .inl (G.2.1, 12, .inl (fun i9 => nI (fMw ((fdK (fun _ r => fPs ps r) g k) i9)))) := (k29_ c0 hNc.1.2.2.2.2.2).trans hFc0_2
              have h32_ : F27_ c1 = .inl (G.2.1, 12, .inl (fun i9 => nI (fCr ((fdK (fun _ r => fPs ps r) g k) i9)))) := (k29_ c1 hNc.2.1.2.2.2.2).trans hFc1_2
              have h33_ : F27_ c2 = .inl (G.2.1, 12, .inl (fun i9 => nI (fSg ((fdK (fun _ r => fPs ps r) g k) i9)))) := (k29_ c2 hNc.2.2.1.2.2.2).trans hFc2_2
              have h34_ : F27_ c3 = .inl (G.2.1, 12, .inl (fun i9 => nI (fOf ((fdK (fun _ r => fPs ps r) g k) i9)))) := (k29_ c3 hNc.2.2.2.1.2.2).trans hFc3_2
              have h35_ : F27_ c4 = .inl (G.2.1, 12, .inl (fun i9 => nI (fHo ((fdK (fun _ r => fPs ps r) g k) i9)))) := (k29_ c4 hNc.2.2.2.2.1.2).trans hFc4_2
              have h36_ : F27_ c5 = .inl (G.2.1, 12, .inl (fun i9 => nI (fTh ((fdK (fun _ r => fPs ps r) g k) i9)))) := (k29_ c5 hNc.2.2.2.2.2).trans hFc5_2
              have kc37_ : ∀ b, b ≠ c6 → F27_ b = F2 b := fun b q0 => k29_ b q0
              refine z_iinc (v := nI (k + 1)) (lv' := [(2, .int (nI (k + 1))), (0, .ref m0), (1, .int (nI ps))]) C dX3_pass_108 2 rfl (nI_add k 1) (by decide) rfl ?_
              refine z_goto C 33 dX3_pass_111 (by decide) ?_
              have hpf : fPs ps (g k) = (fSg (g k), fMw (g k), fCr (g k), fOf (g k), fHo (g k), fTh (g k), 0) := by unfold fPs; simp only [if_pos (show fOf (g k) = 0 by omega)]; rw [show fCo (g k) - 20 * ps = 0 by omega]
              have hrok : fOk (now + ps) (fSg (g k), fMw (g k), fCr (g k), fOf (g k), fHo (g k), fTh (g k), 0) := by rw [← hpf]; exact fPs_ok hOk
              have hmo3 : zMo G L F27_ m0 c0 c1 c2 c3 c4 c5 c6 n (now + ps) sl 0 (upF (fdK (fun _ r => fPs ps r) g k) k (fSg (g k), fMw (g k), fCr (g k), fOf (g k), fHo (g k), fTh (g k), 0)) := ⟨⟨hLm_2, hLc0_2, hLc1_2, hLc2_2, hLc3_2, hLc4_2, hLc5_2, hLc6_2⟩, ⟨h30_, (h31_).trans (by rw [show (fun i9 => nI (fMw ((fdK (fun _ r => fPs ps r) g k) i9))) = (fun i9 => nI (fMw (upF (fdK (fun _ r => fPs ps r) g k) k (fSg (g k), fMw (g k), fCr (g k), fOf (g k), fHo (g k), fTh (g k), 0) i9))) from fl_same (g := (fdK (fun _ r => fPs ps r) g k)) (k := k) (r := (fSg (g k), fMw (g k), fCr (g k), fOf (g k), fHo (g k), fTh (g k), 0)) fMw (by rw [fdK_at])]), (h32_).trans (by rw [show (fun i9 => nI (fCr ((fdK (fun _ r => fPs ps r) g k) i9))) = (fun i9 => nI (fCr (upF (fdK (fun _ r => fPs ps r) g k) k (fSg (g k), fMw (g k), fCr (g k), fOf (g k), fHo (g k), fTh (g k), 0) i9))) from fl_same (g := (fdK (fun _ r => fPs ps r) g k)) (k := k) (r := (fSg (g k), fMw (g k), fCr (g k), fOf (g k), fHo (g k), fTh (g k), 0)) fCr (by rw [fdK_at])]), (h33_).trans (by rw [show (fun i9 => nI (fSg ((fdK (fun _ r => fPs ps r) g k) i9))) = (fun i9 => nI (fSg (upF (fdK (fun _ r => fPs ps r) g k) k (fSg (g k), fMw (g k), fCr (g k), fOf (g k), fHo (g k), fTh (g k), 0) i9))) from fl_same (g := (fdK (fun _ r => fPs ps r) g k)) (k := k) (r := (fSg (g k), fMw (g k), fCr (g k), fOf (g k), fHo (g k), fTh (g k), 0)) fSg (by rw [fdK_at])]), (h34_).trans (by rw [show (fun i9 => nI (fOf ((fdK (fun _ r => fPs ps r) g k) i9))) = (fun i9 => nI (fOf (upF (fdK (fun _ r => fPs ps r) g k) k (fSg (g k), fMw (g k), fCr (g k), fOf (g k), fHo (g k), fTh (g k), 0) i9))) from fl_same (g := (fdK (fun _ r => fPs ps r) g k)) (k := k) (r := (fSg (g k), fMw (g k), fCr (g k), fOf (g k), fHo (g k), fTh (g k), 0)) fOf (by rw [fdK_at])]), (h35_).trans (by rw [show (fun i9 => nI (fHo ((fdK (fun _ r => fPs ps r) g k) i9))) = (fun i9 => nI (fHo (upF (fdK (fun _ r => fPs ps r) g k) k (fSg (g k), fMw (g k), fCr (g k), fOf (g k), fHo (g k), fTh (g k), 0) i9))) from fl_same (g := (fdK (fun _ r => fPs ps r) g k)) (k := k) (r := (fSg (g k), fMw (g k), fCr (g k), fOf (g k), fHo (g k), fTh (g k), 0)) fHo (by rw [fdK_at])]), (h36_).trans (by rw [show (fun i9 => nI (fTh ((fdK (fun _ r => fPs ps r) g k) i9))) = (fun i9 => nI (fTh (upF (fdK (fun _ r => fPs ps r) g k) k (fSg (g k), fMw (g k), fCr (g k), fOf (g k), fHo (g k), fTh (g k), 0) i9))) from fl_same (g := (fdK (fun _ r => fPs ps r) g k)) (k := k) (r := (fSg (g k), fMw (g k), fCr (g k), fOf (g k), fHo (g k), fTh (g k), 0)) fTh (by rw [fdK_at])]), (h28_).trans (by rw [show (upd (fun i9 => nI (fCo ((fdK (fun _ r => fPs ps r) g k) i9))) k (nI 0)) = (fun i9 => nI (fCo (upF (fdK (fun _ r => fPs ps r) g k) k (fSg (g k), fMw (g k), fCr (g k), fOf (g k), fHo (g k), fTh (g k), 0) i9))) from fl_upd (g := (fdK (fun _ r => fPs ps r) g k)) (k := k) (r := (fSg (g k), fMw (g k), fCr (g k), fOf (g k), fHo (g k), fTh (g k), 0)) fCo])⟩, hNc, hGg_2.one hlt hrok, ⟨hn, by omega, hsl, by decide⟩⟩
              rw [fdK_s (fun _ r => fPs ps r) g k hpf] at hmo3
              refine z_sub (lv' := [(0, .ref m0), (1, .int (nI ps)), (2, .int (nI (k + 1)))]) [1, 2, 0] rfl ?_
              exact ih33 (k + 1) F27_ (by omega) hmo3 (fun b q0 q1 q2 q3 q4 q5 q6 q7 => (kc37_ b q7).trans (hk2 b q0 q1 q2 q3 q4 q5 q6 q7)) (by omega)
            · -- 89 not taken
              refine z_aload_n C dX3_pass_92 rfl 0 rfl ?_
              refine z_get (ref := "ShedwheelModel") (v := .ref c6) C hin_X3_pass_X3 hLm_2 hFm_2 rfl 6 (by decide) (by decide +kernel) (fun _ h9 => h9) rfl dX3_pass_93 ?_
              refine z_iload_n C dX3_pass_96 rfl 2 rfl ?_
              refine z_iald C hLc6_2 hFc6_2 (by omega) (by omega) dX3_pass_97 (nI (fCo (g k))) ((by show nI (fCo ((fdK (fun _ r => fPs ps r) g k) k)) = _; rw [fdK_at])) ?_
              refine z_bipush C (nI 20) dX3_pass_98 (by decide) ?_
              refine z_iload_n C dX3_pass_100 rfl 1 rfl ?_
              refine z_imul C (nI (20 * ps)) dX3_pass_101 (pk_mul 20 ps) ?_
              refine z_isub C (nI ((fCo (g k)) - (20 * ps))) dX3_pass_102 (pk_sub (a := fCo (g k)) (b := 20 * ps) (by omega)) ?_
              refine z_goto C 107 dX3_pass_103 (by decide) ?_
              refine z_iast C hLc6_2 hFc6_2 (by omega) (by omega) dX3_pass_107 (fun F38_ h39_ k40_ => ?_)
              have h41_ : F38_ m0 = .inr (4, [.ref c0, .ref c1, .ref c2, .ref c3, .ref c4, .ref c5, .ref c6, .int (nI n), .int (nI sl), .int (nI (now + ps)), .int (nI 0)]) := (k40_ m0 (zne hFm_2 hFc6_2 rfl)).trans hFm_2
              have h42_ : F38_ c0 = .inl (G.2.1, 12, .inl (fun i9 => nI (fMw ((fdK (fun _ r => fPs ps r) g k) i9)))) := (k40_ c0 hNc.1.2.2.2.2.2).trans hFc0_2
              have h43_ : F38_ c1 = .inl (G.2.1, 12, .inl (fun i9 => nI (fCr ((fdK (fun _ r => fPs ps r) g k) i9)))) := (k40_ c1 hNc.2.1.2.2.2.2).trans hFc1_2
              have h44_ : F38_ c2 = .inl (G.2.1, 12, .inl (fun i9 => nI (fSg ((fdK (fun _ r => fPs ps r) g k) i9)))) := (k40_ c2 hNc.2.2.1.2.2.2).trans hFc2_2
              have h45_ : F38_ c3 = .inl (G.2.1, 12, .inl (fun i9 => nI (fOf ((fdK (fun _ r => fPs ps r) g k) i9)))) := (k40_ c3 hNc.2.2.2.1.2.2).trans hFc3_2
              have h46_ : F38_ c4 = .inl (G.2.1, 12, .inl (fun i9 => nI (fHo ((fdK (fun _ r => fPs ps r) g k) i9)))) := (k40_ c4 hNc.2.2.2.2.1.2).trans hFc4_2
              have h47_ : F38_ c5 = .inl (G.2.1, 12, .inl (fun i9 => nI (fTh ((fdK (fun _ r => fPs ps r) g k) i9)))) := (k40_ c5 hNc.2.2.2.2.2).trans hFc5_2
              have kc48_ : ∀ b, b ≠ c6 → F38_ b = F2 b := fun b q0 => k40_ b q0
              refine z_iinc (v := nI (k + 1)) (lv' := [(2, .int (nI (k + 1))), (0, .ref m0), (1, .int (nI ps))]) C dX3_pass_108 2 rfl (nI_add k 1) (by decide) rfl ?_
              refine z_goto C 33 dX3_pass_111 (by decide) ?_
              have hpf : fPs ps (g k) = (fSg (g k), fMw (g k), fCr (g k), fOf (g k), fHo (g k), fTh (g k), fCo (g k) - 20 * ps) := by unfold fPs; simp only [if_pos (show fOf (g k) = 0 by omega)]
              have hrok : fOk (now + ps) (fSg (g k), fMw (g k), fCr (g k), fOf (g k), fHo (g k), fTh (g k), fCo (g k) - 20 * ps) := by rw [← hpf]; exact fPs_ok hOk
              have hmo3 : zMo G L F38_ m0 c0 c1 c2 c3 c4 c5 c6 n (now + ps) sl 0 (upF (fdK (fun _ r => fPs ps r) g k) k (fSg (g k), fMw (g k), fCr (g k), fOf (g k), fHo (g k), fTh (g k), fCo (g k) - 20 * ps)) := ⟨⟨hLm_2, hLc0_2, hLc1_2, hLc2_2, hLc3_2, hLc4_2, hLc5_2, hLc6_2⟩, ⟨h41_, (h42_).trans (by rw [show (fun i9 => nI (fMw ((fdK (fun _ r => fPs ps r) g k) i9))) = (fun i9 => nI (fMw (upF (fdK (fun _ r => fPs ps r) g k) k (fSg (g k), fMw (g k), fCr (g k), fOf (g k), fHo (g k), fTh (g k), fCo (g k) - 20 * ps) i9))) from fl_same (g := (fdK (fun _ r => fPs ps r) g k)) (k := k) (r := (fSg (g k), fMw (g k), fCr (g k), fOf (g k), fHo (g k), fTh (g k), fCo (g k) - 20 * ps)) fMw (by rw [fdK_at])]), (h43_).trans (by rw [show (fun i9 => nI (fCr ((fdK (fun _ r => fPs ps r) g k) i9))) = (fun i9 => nI (fCr (upF (fdK (fun _ r => fPs ps r) g k) k (fSg (g k), fMw (g k), fCr (g k), fOf (g k), fHo (g k), fTh (g k), fCo (g k) - 20 * ps) i9))) from fl_same (g := (fdK (fun _ r => fPs ps r) g k)) (k := k) (r := (fSg (g k), fMw (g k), fCr (g k), fOf (g k), fHo (g k), fTh (g k), fCo (g k) - 20 * ps)) fCr (by rw [fdK_at])]), (h44_).trans (by rw [show (fun i9 => nI (fSg ((fdK (fun _ r => fPs ps r) g k) i9))) = (fun i9 => nI (fSg (upF (fdK (fun _ r => fPs ps r) g k) k (fSg (g k), fMw (g k), fCr (g k), fOf (g k), fHo (g k), fTh (g k), fCo (g k) - 20 * ps) i9))) from fl_same (g := (fdK (fun _ r => fPs ps r) g k)) (k := k) (r := (fSg (g k), fMw (g k), fCr (g k), fOf (g k), fHo (g k), fTh (g k), fCo (g k) - 20 * ps)) fSg (by rw [fdK_at])]), (h45_).trans (by rw [show (fun i9 => nI (fOf ((fdK (fun _ r => fPs ps r) g k) i9))) = (fun i9 => nI (fOf (upF (fdK (fun _ r => fPs ps r) g k) k (fSg (g k), fMw (g k), fCr (g k), fOf (g k), fHo (g k), fTh (g k), fCo (g k) - 20 * ps) i9))) from fl_same (g := (fdK (fun _ r => fPs ps r) g k)) (k := k) (r := (fSg (g k), fMw (g k), fCr (g k), fOf (g k), fHo (g k), fTh (g k), fCo (g k) - 20 * ps)) fOf (by rw [fdK_at])]), (h46_).trans (by rw [show (fun i9 => nI (fHo ((fdK (fun _ r => fPs ps r) g k) i9))) = (fun i9 => nI (fHo (upF (fdK (fun _ r => fPs ps r) g k) k (fSg (g k), fMw (g k), fCr (g k), fOf (g k), fHo (g k), fTh (g k), fCo (g k) - 20 * ps) i9))) from fl_same (g := (fdK (fun _ r => fPs ps r) g k)) (k := k) (r := (fSg (g k), fMw (g k), fCr (g k), fOf (g k), fHo (g k), fTh (g k), fCo (g k) - 20 * ps)) fHo (by rw [fdK_at])]), (h47_).trans (by rw [show (fun i9 => nI (fTh ((fdK (fun _ r => fPs ps r) g k) i9))) = (fun i9 => nI (fTh (upF (fdK (fun _ r => fPs ps r) g k) k (fSg (g k), fMw (g k), fCr (g k), fOf (g k), fHo (g k), fTh (g k), fCo (g k) - 20 * ps) i9))) from fl_same (g := (fdK (fun _ r => fPs ps r) g k)) (k := k) (r := (fSg (g k), fMw (g k), fCr (g k), fOf (g k), fHo (g k), fTh (g k), fCo (g k) - 20 * ps)) fTh (by rw [fdK_at])]), (h39_).trans (by rw [show (upd (fun i9 => nI (fCo ((fdK (fun _ r => fPs ps r) g k) i9))) k (nI ((fCo (g k)) - (20 * ps)))) = (fun i9 => nI (fCo (upF (fdK (fun _ r => fPs ps r) g k) k (fSg (g k), fMw (g k), fCr (g k), fOf (g k), fHo (g k), fTh (g k), fCo (g k) - 20 * ps) i9))) from fl_upd (g := (fdK (fun _ r => fPs ps r) g k)) (k := k) (r := (fSg (g k), fMw (g k), fCr (g k), fOf (g k), fHo (g k), fTh (g k), fCo (g k) - 20 * ps)) fCo])⟩, hNc, hGg_2.one hlt hrok, ⟨hn, by omega, hsl, by decide⟩⟩
              rw [fdK_s (fun _ r => fPs ps r) g k hpf] at hmo3
              refine z_sub (lv' := [(0, .ref m0), (1, .int (nI ps)), (2, .int (nI (k + 1)))]) [1, 2, 0] rfl ?_
              exact ih33 (k + 1) F38_ (by omega) hmo3 (fun b q0 q1 q2 q3 q4 q5 q6 q7 => (kc48_ b q7).trans (hk2 b q0 q1 q2 q3 q4 q5 q6 q7)) (by omega)
          · -- 48 not taken
            refine z_aload_n C dX3_pass_51 rfl 0 rfl ?_
            refine z_get (ref := "ShedwheelModel") (v := .ref c4) C hin_X3_pass_X3 hLm_2 hFm_2 rfl 4 (by decide) (by decide +kernel) (fun _ h9 => h9) rfl dX3_pass_52 ?_
            refine z_iload_n C dX3_pass_55 rfl 2 rfl ?_
            refine z_dup2 C dX3_pass_56 rfl rfl ?_
            refine z_iald C hLc4_2 hFc4_2 (by omega) (by omega) dX3_pass_57 (nI (fHo (g k))) ((by show nI (fHo ((fdK (fun _ r => fPs ps r) g k) k)) = _; rw [fdK_at])) ?_
            refine z_iload_n C dX3_pass_58 rfl 1 rfl ?_
            refine z_iadd C (nI (fHo (g k) + ps)) dX3_pass_59 (nI_add (fHo (g k)) ps) ?_
            refine z_iast C hLc4_2 hFc4_2 (by omega) (by omega) dX3_pass_60 (fun F49_ h50_ k51_ => ?_)
            have h52_ : F49_ m0 = .inr (4, [.ref c0, .ref c1, .ref c2, .ref c3, .ref c4, .ref c5, .ref c6, .int (nI n), .int (nI sl), .int (nI (now + ps)), .int (nI 0)]) := (k51_ m0 (zne hFm_2 hFc4_2 rfl)).trans hFm_2
            have h53_ : F49_ c0 = .inl (G.2.1, 12, .inl (fun i9 => nI (fMw ((fdK (fun _ r => fPs ps r) g k) i9)))) := (k51_ c0 hNc.1.2.2.2.1).trans hFc0_2
            have h54_ : F49_ c1 = .inl (G.2.1, 12, .inl (fun i9 => nI (fCr ((fdK (fun _ r => fPs ps r) g k) i9)))) := (k51_ c1 hNc.2.1.2.2.1).trans hFc1_2
            have h55_ : F49_ c2 = .inl (G.2.1, 12, .inl (fun i9 => nI (fSg ((fdK (fun _ r => fPs ps r) g k) i9)))) := (k51_ c2 hNc.2.2.1.2.1).trans hFc2_2
            have h56_ : F49_ c3 = .inl (G.2.1, 12, .inl (fun i9 => nI (fOf ((fdK (fun _ r => fPs ps r) g k) i9)))) := (k51_ c3 hNc.2.2.2.1.1).trans hFc3_2
            have h57_ : F49_ c5 = .inl (G.2.1, 12, .inl (fun i9 => nI (fTh ((fdK (fun _ r => fPs ps r) g k) i9)))) := (k51_ c5 (Ne.symm hNc.2.2.2.2.1.1)).trans hFc5_2
            have h58_ : F49_ c6 = .inl (G.2.1, 12, .inl (fun i9 => nI (fCo ((fdK (fun _ r => fPs ps r) g k) i9)))) := (k51_ c6 (Ne.symm hNc.2.2.2.2.1.2)).trans hFc6_2
            have kc59_ : ∀ b, b ≠ c4 → F49_ b = F2 b := fun b q0 => k51_ b q0
            refine z_aload_n C dX3_pass_61 rfl 0 rfl ?_
            refine z_get (ref := "ShedwheelModel") (v := .ref c5) C hin_X3_pass_X3 hLm_2 h52_ rfl 5 (by decide) (by decide +kernel) (fun _ h9 => h9) rfl dX3_pass_62 ?_
            refine z_iload_n C dX3_pass_65 rfl 2 rfl ?_
            refine z_dup2 C dX3_pass_66 rfl rfl ?_
            refine z_iald C hLc5_2 h57_ (by omega) (by omega) dX3_pass_67 (nI (fTh (g k))) ((by show nI (fTh ((fdK (fun _ r => fPs ps r) g k) k)) = _; rw [fdK_at])) ?_
            refine z_iload_n C dX3_pass_68 rfl 1 rfl ?_
            refine z_iadd C (nI (fTh (g k) + ps)) dX3_pass_69 (nI_add (fTh (g k)) ps) ?_
            refine z_iast C hLc5_2 h57_ (by omega) (by omega) dX3_pass_70 (fun F60_ h61_ k62_ => ?_)
            have h63_ : F60_ m0 = .inr (4, [.ref c0, .ref c1, .ref c2, .ref c3, .ref c4, .ref c5, .ref c6, .int (nI n), .int (nI sl), .int (nI (now + ps)), .int (nI 0)]) := (k62_ m0 (zne h52_ h57_ rfl)).trans h52_
            have h64_ : F60_ c0 = .inl (G.2.1, 12, .inl (fun i9 => nI (fMw ((fdK (fun _ r => fPs ps r) g k) i9)))) := (k62_ c0 hNc.1.2.2.2.2.1).trans h53_
            have h65_ : F60_ c1 = .inl (G.2.1, 12, .inl (fun i9 => nI (fCr ((fdK (fun _ r => fPs ps r) g k) i9)))) := (k62_ c1 hNc.2.1.2.2.2.1).trans h54_
            have h66_ : F60_ c2 = .inl (G.2.1, 12, .inl (fun i9 => nI (fSg ((fdK (fun _ r => fPs ps r) g k) i9)))) := (k62_ c2 hNc.2.2.1.2.2.1).trans h55_
            have h67_ : F60_ c3 = .inl (G.2.1, 12, .inl (fun i9 => nI (fOf ((fdK (fun _ r => fPs ps r) g k) i9)))) := (k62_ c3 hNc.2.2.2.1.2.1).trans h56_
            have h68_ : F60_ c4 = .inl (G.2.1, 12, .inl (upd (fun i9 => nI (fHo ((fdK (fun _ r => fPs ps r) g k) i9))) k (nI (fHo (g k) + ps)))) := (k62_ c4 hNc.2.2.2.2.1.1).trans h50_
            have h69_ : F60_ c6 = .inl (G.2.1, 12, .inl (fun i9 => nI (fCo ((fdK (fun _ r => fPs ps r) g k) i9)))) := (k62_ c6 (Ne.symm hNc.2.2.2.2.2)).trans h58_
            have kc70_ : ∀ b, b ≠ c4 → b ≠ c5 → F60_ b = F2 b := fun b q0 q1 => (k62_ b q1).trans (kc59_ b q0)
            refine z_goto C 108 dX3_pass_71 (by decide) ?_
            refine z_iinc (v := nI (k + 1)) (lv' := [(2, .int (nI (k + 1))), (0, .ref m0), (1, .int (nI ps))]) C dX3_pass_108 2 rfl (nI_add k 1) (by decide) rfl ?_
            refine z_goto C 33 dX3_pass_111 (by decide) ?_
            have hpf : fPs ps (g k) = (fSg (g k), fMw (g k), fCr (g k), fOf (g k), fHo (g k) + ps, fTh (g k) + ps, fCo (g k)) := by unfold fPs; simp only [if_neg (show ¬ fOf (g k) = 0 by omega)]
            have hrok : fOk (now + ps) (fSg (g k), fMw (g k), fCr (g k), fOf (g k), fHo (g k) + ps, fTh (g k) + ps, fCo (g k)) := by rw [← hpf]; exact fPs_ok hOk
            have hmo3 : zMo G L F60_ m0 c0 c1 c2 c3 c4 c5 c6 n (now + ps) sl 0 (upF (fdK (fun _ r => fPs ps r) g k) k (fSg (g k), fMw (g k), fCr (g k), fOf (g k), fHo (g k) + ps, fTh (g k) + ps, fCo (g k))) := ⟨⟨hLm_2, hLc0_2, hLc1_2, hLc2_2, hLc3_2, hLc4_2, hLc5_2, hLc6_2⟩, ⟨h63_, (h64_).trans (by rw [show (fun i9 => nI (fMw ((fdK (fun _ r => fPs ps r) g k) i9))) = (fun i9 => nI (fMw (upF (fdK (fun _ r => fPs ps r) g k) k (fSg (g k), fMw (g k), fCr (g k), fOf (g k), fHo (g k) + ps, fTh (g k) + ps, fCo (g k)) i9))) from fl_same (g := (fdK (fun _ r => fPs ps r) g k)) (k := k) (r := (fSg (g k), fMw (g k), fCr (g k), fOf (g k), fHo (g k) + ps, fTh (g k) + ps, fCo (g k))) fMw (by rw [fdK_at])]), (h65_).trans (by rw [show (fun i9 => nI (fCr ((fdK (fun _ r => fPs ps r) g k) i9))) = (fun i9 => nI (fCr (upF (fdK (fun _ r => fPs ps r) g k) k (fSg (g k), fMw (g k), fCr (g k), fOf (g k), fHo (g k) + ps, fTh (g k) + ps, fCo (g k)) i9))) from fl_same (g := (fdK (fun _ r => fPs ps r) g k)) (k := k) (r := (fSg (g k), fMw (g k), fCr (g k), fOf (g k), fHo (g k) + ps, fTh (g k) + ps, fCo (g k))) fCr (by rw [fdK_at])]), (h66_).trans (by rw [show (fun i9 => nI (fSg ((fdK (fun _ r => fPs ps r) g k) i9))) = (fun i9 => nI (fSg (upF (fdK (fun _ r => fPs ps r) g k) k (fSg (g k), fMw (g k), fCr (g k), fOf (g k), fHo (g k) + ps, fTh (g k) + ps, fCo (g k)) i9))) from fl_same (g := (fdK (fun _ r => fPs ps r) g k)) (k := k) (r := (fSg (g k), fMw (g k), fCr (g k), fOf (g k), fHo (g k) + ps, fTh (g k) + ps, fCo (g k))) fSg (by rw [fdK_at])]), (h67_).trans (by rw [show (fun i9 => nI (fOf ((fdK (fun _ r => fPs ps r) g k) i9))) = (fun i9 => nI (fOf (upF (fdK (fun _ r => fPs ps r) g k) k (fSg (g k), fMw (g k), fCr (g k), fOf (g k), fHo (g k) + ps, fTh (g k) + ps, fCo (g k)) i9))) from fl_same (g := (fdK (fun _ r => fPs ps r) g k)) (k := k) (r := (fSg (g k), fMw (g k), fCr (g k), fOf (g k), fHo (g k) + ps, fTh (g k) + ps, fCo (g k))) fOf (by rw [fdK_at])]), (h68_).trans (by rw [show (upd (fun i9 => nI (fHo ((fdK (fun _ r => fPs ps r) g k) i9))) k (nI (fHo (g k) + ps))) = (fun i9 => nI (fHo (upF (fdK (fun _ r => fPs ps r) g k) k (fSg (g k), fMw (g k), fCr (g k), fOf (g k), fHo (g k) + ps, fTh (g k) + ps, fCo (g k)) i9))) from fl_upd (g := (fdK (fun _ r => fPs ps r) g k)) (k := k) (r := (fSg (g k), fMw (g k), fCr (g k), fOf (g k), fHo (g k) + ps, fTh (g k) + ps, fCo (g k))) fHo]), (h61_).trans (by rw [show (upd (fun i9 => nI (fTh ((fdK (fun _ r => fPs ps r) g k) i9))) k (nI (fTh (g k) + ps))) = (fun i9 => nI (fTh (upF (fdK (fun _ r => fPs ps r) g k) k (fSg (g k), fMw (g k), fCr (g k), fOf (g k), fHo (g k) + ps, fTh (g k) + ps, fCo (g k)) i9))) from fl_upd (g := (fdK (fun _ r => fPs ps r) g k)) (k := k) (r := (fSg (g k), fMw (g k), fCr (g k), fOf (g k), fHo (g k) + ps, fTh (g k) + ps, fCo (g k))) fTh]), (h69_).trans (by rw [show (fun i9 => nI (fCo ((fdK (fun _ r => fPs ps r) g k) i9))) = (fun i9 => nI (fCo (upF (fdK (fun _ r => fPs ps r) g k) k (fSg (g k), fMw (g k), fCr (g k), fOf (g k), fHo (g k) + ps, fTh (g k) + ps, fCo (g k)) i9))) from fl_same (g := (fdK (fun _ r => fPs ps r) g k)) (k := k) (r := (fSg (g k), fMw (g k), fCr (g k), fOf (g k), fHo (g k) + ps, fTh (g k) + ps, fCo (g k))) fCo (by rw [fdK_at])])⟩, hNc, hGg_2.one hlt hrok, ⟨hn, by omega, hsl, by decide⟩⟩
            rw [fdK_s (fun _ r => fPs ps r) g k hpf] at hmo3
            refine z_sub (lv' := [(0, .ref m0), (1, .int (nI ps)), (2, .int (nI (k + 1)))]) [1, 2, 0] rfl ?_
            exact ih33 (k + 1) F60_ (by omega) hmo3 (fun b q0 q1 q2 q3 q4 q5 q6 q7 => (kc70_ b q5 q6).trans (hk2 b q0 q1 q2 q3 q4 q5 q6 q7)) (by omega)
    exact lp33 _ 0 F13_ (Nat.zero_le _) hmoA (fun b q0 q1 q2 q3 q4 q5 q6 q7 => kc23_ b q0) (Nat.lt_succ_self _)
  · -- 12 not taken
    refine z_aload_n C dX3_pass_15 rfl 0 rfl ?_
    refine z_iconst C (nI 1) dX3_pass_16 (by decide) ?_
    refine z_callV (As := [.int (nI 1)]) (st := []) (mc := 0) (ms := 0) C hLm h2_ rfl (c_X3_fails l hlst G L F1_ m0 c0 c1 c2 c3 c4 c5 c6 n now sl 0 g hmoT 1 (by decide)) (cwV 1 C.1.2.2.2.2 gX3_pass_X3_fails rfl rfl rfl (by decide +kernel) ⟨Nat.le_of_ble_eq_true rfl, Nat.le_of_ble_eq_true rfl⟩) rfl (Nat.le_of_ble_eq_true rfl) ⟨Nat.le_of_ble_eq_true rfl, Nat.le_of_ble_eq_true rfl⟩ dX3_pass_17 (fun rv9 L9 F9 hp9 => ?_)
    obtain ⟨e91, e92, hmo9, k9⟩ := hp9
    rw [e91, e92]
    refine z_stk (st' := [.int (nI 0)]) rfl ?_
    refine z_iret0 C rfl rfl (by decide) (by decide) dX3_pass_20 ?_
    exact ⟨_, rfl, rfl, fun b q0 q1 q2 q3 q4 q5 q6 q7 => (k9 b q0).trans (kc11_ b q0), Or.inr ⟨(fun h9 => (by obtain ⟨g1, g2⟩ := h9; omega)), hmo9⟩⟩

set_option maxRecDepth 100000 in
theorem hin_X3_cutAll_X3 : ∀ w ∈ u_ws RX3 TX3 11, w ∈ wsX3_cutAll := by decide +kernel
set_option maxHeartbeats 4000000 in
set_option maxRecDepth 100000 in
theorem c_X3_cutAll (l : Launch) (hlst : l.stackTraces = false) (G : zGt) (L : List Nat) (F : Nat → va_E) (m0 c0 c1 c2 c3 c4 c5 c6 : Nat) (n now sl thr : Nat) (g : Nat → FdT) (hmo : zMo G L F m0 c0 c1 c2 c3 c4 c5 c6 n now sl thr g) (sb : Nat) (hsb : sb < 4096) : zM l yX3_cutAll wsX3_cutAll 4 89 0 0 G L F [.ref m0, .int (nI sb)] (fun rv L1 F1 => rv = some (.int (nI (smV (fun i => reT sb i (g i)) n))) ∧ L1 = L ∧ zMo G L F1 m0 c0 c1 c2 c3 c4 c5 c6 n now sl thr ((fdK (fun i r => reG sb i r) g n)) ∧ ∀ b, b ≠ c3 → b ≠ c5 → b ≠ c6 → F1 b = F b) := by
  obtain ⟨⟨hLm, hLc0, hLc1, hLc2, hLc3, hLc4, hLc5, hLc6⟩, ⟨hFm, hFc0, hFc1, hFc2, hFc3, hFc4, hFc5, hFc6⟩, hNc, hGg, ⟨hn, hnow, hsl, hthr⟩⟩ := id hmo
  refine z_of (cc := cX3_cutAll) (nL := 4) (ret := (some .int)) (own := RX3) hlst (by decide +kernel) rfl rfl (Nat.le_of_ble_eq_true rfl) ?_
  intro p e s m below meth c A hnm C
  refine z_lvs (lv' := [(0, .ref m0), (1, .int (nI sb))]) rfl ?_
  refine z_iconst C (nI 0) dX3_cutAll_0 (by decide) ?_
  refine z_istore_n (lv' := [(2, .int (nI 0)), (0, .ref m0), (1, .int (nI sb))]) C dX3_cutAll_1 rfl (by decide) rfl ?_
  refine z_iconst C (nI 0) dX3_cutAll_2 (by decide) ?_
  refine z_istore_n (lv' := [(3, .int (nI 0)), (2, .int (nI 0)), (0, .ref m0), (1, .int (nI sb))]) C dX3_cutAll_3 rfl (by decide) rfl ?_
  refine z_lvs (lv' := [(3, .int (nI 0)), (2, .int (nI (smV (fun i => reT sb i (g i)) 0))), (0, .ref m0), (1, .int (nI sb))]) rfl ?_
  refine z_sub (lv' := [(0, .ref m0), (1, .int (nI sb)), (2, .int (nI (smV (fun i => reT sb i (g i)) 0))), (3, .int (nI 0))]) [2, 3, 1, 0] rfl ?_
  have hmoA := hmo
  rw [← fdK_0 (fun i r => reG sb i r) g] at hmoA
  have lp4 : ∀ (N9 : Nat) (k : Nat) (F2 : Nat → va_E) (hk : k ≤ n) (hm2 : zMo G L F2 m0 c0 c1 c2 c3 c4 c5 c6 n now sl thr ((fdK (fun i r => reG sb i r) g k))) (hk2 : ∀ b, b ≠ c3 → b ≠ c5 → b ≠ c6 → F2 b = F b) (h9 : n - k < N9), zW p l e { frames := 4, cells := 0, slots := 0, locals := 89 } s m [.ref m0, .int (nI sb)].toArray below meth c 4 G A (MQ below (zQ G (fun rv L1 F1 => rv = some (.int (nI (smV (fun i => reT sb i (g i)) n))) ∧ L1 = L ∧ zMo G L F1 m0 c0 c1 c2 c3 c4 c5 c6 n now sl thr ((fdK (fun i r => reG sb i r) g n)) ∧ ∀ b, b ≠ c3 → b ≠ c5 → b ≠ c6 → F1 b = F b) A) [.ref m0, .int (nI sb)].toArray s 0 0 A) 0 0 L F2 4 [(0, .ref m0), (1, .int (nI sb)), (2, .int (nI (smV (fun i => reT sb i (g i)) k))), (3, .int (nI k))] [] := by
    intro N9
    induction N9 with
    | zero => intro k F2 hk hm2 hk2 h9; exact absurd h9 (Nat.not_lt_zero _)
    | succ N9 ih4 =>
      intro k F2 hk hm2 hk2 hN4
      refine z_iload_n C dX3_cutAll_4 rfl 3 rfl ?_
      obtain ⟨⟨hLm_2, hLc0_2, hLc1_2, hLc2_2, hLc3_2, hLc4_2, hLc5_2, hLc6_2⟩, ⟨hFm_2, hFc0_2, hFc1_2, hFc2_2, hFc3_2, hFc4_2, hFc5_2, hFc6_2⟩, hNc, hGg_2, ⟨hn_2, hnow_2, hsl_2, hthr_2⟩⟩ := id hm2
      have hlt9 : k < n ∨ n = k := by omega
      have hbv := bitV_le sb k
      refine z_aload_n C dX3_cutAll_5 rfl 0 rfl ?_
      refine z_get (ref := "ShedwheelModel") (v := .int (nI n)) C hin_X3_cutAll_X3 hLm_2 hFm_2 rfl 7 (by decide) (by decide +kernel) (fun _ h9 => h9) rfl dX3_cutAll_6 ?_
      refine z_icmp_ge C 39 (((n : Nat) : Int) ≤ ((k : Nat) : Int)) (zi_le (zi_N (n := n) (by omega)) (zi_N (n := k) (by omega))) dX3_cutAll_9 (by decide) (fun c1_ => ?_) (fun c1_ => ?_)
      · -- 9 taken
        refine z_iload_n C dX3_cutAll_39 rfl 2 rfl ?_
        refine z_iret0 C rfl rfl (by decide) (by decide) dX3_cutAll_40 ?_
        obtain rfl : n = k := by omega
        exact ⟨rfl, rfl, hm2, hk2⟩
      · -- 9 not taken
        have hlt : k < n := by omega
        have hOk := hGg.1 k hlt
        obtain ⟨u1, u2, u3, u4, u5, u6, u7, u8⟩ := id hOk
        refine z_iload_n C dX3_cutAll_12 rfl 2 rfl ?_
        refine z_iload_n C dX3_cutAll_13 rfl 1 rfl ?_
        refine z_iload_n C dX3_cutAll_14 rfl 3 rfl ?_
        refine z_ishr C (nI (sb / 2 ^ k)) dX3_cutAll_15 (bit_of (by omega) (by omega)) ?_
        refine z_iconst C (nI 1) dX3_cutAll_16 (by decide) ?_
        refine z_iand C (nI (bitV sb k)) dX3_cutAll_17 (bit_and k (by omega)) ?_
        refine z_iconst C (nI 1) dX3_cutAll_18 (by decide) ?_
        refine z_icmp_ne C 30 (((bitV sb k : Nat) : Int) = ((1 : Nat) : Int)) (zi_eq (zi_N (n := bitV sb k) (by omega)) (zi_N (n := 1) (by omega))) dX3_cutAll_19 (by decide) (fun c2_ => ?_) (fun c2_ => ?_)
        · -- 19 taken
          refine z_iconst C (nI 0) dX3_cutAll_30 (by decide) ?_
          refine z_iadd C (nI (smV (fun i => reT sb i (g i)) k + 0)) dX3_cutAll_31 (nI_add (smV (fun i => reT sb i (g i)) k) 0) ?_
          refine z_istore_n (lv' := [(2, .int (nI (smV (fun i => reT sb i (g i)) k + 0))), (0, .ref m0), (1, .int (nI sb)), (3, .int (nI k))]) C dX3_cutAll_32 rfl (by decide) rfl ?_
          refine z_iinc (v := nI (k + 1)) (lv' := [(3, .int (nI (k + 1))), (2, .int (nI (smV (fun i => reT sb i (g i)) k + 0))), (0, .ref m0), (1, .int (nI sb))]) C dX3_cutAll_33 3 rfl (nI_add k 1) (by decide) rfl ?_
          refine z_goto C 4 dX3_cutAll_36 (by decide) ?_
          refine z_lvs (lv' := [(3, .int (nI (k + 1))), (2, .int (nI (smV (fun i => reT sb i (g i)) (k + 1)))), (0, .ref m0), (1, .int (nI sb))]) (by rw [smV_s, show reT sb k (g k) = 0 from by rw [reT, if_neg (by omega)]]) ?_
          have hmo9 := hm2
          rw [fdK_n (fun i r => reG sb i r) g k (by show reG sb k (g k) = g k; rw [reG, if_neg (by omega)])] at hmo9
          refine z_sub (lv' := [(0, .ref m0), (1, .int (nI sb)), (2, .int (nI (smV (fun i => reT sb i (g i)) (k + 1)))), (3, .int (nI (k + 1)))]) [2, 3, 1, 0] rfl ?_
          exact ih4 (k + 1) F2 (by omega) hmo9 hk2 (by omega)
        · -- 19 not taken
          refine z_aload_n C dX3_cutAll_22 rfl 0 rfl ?_
          refine z_iload_n C dX3_cutAll_23 rfl 3 rfl ?_
          refine z_callV (As := [.int (nI k)]) (st := [.int (nI (smV (fun i => reT sb i (g i)) k))]) (mc := 0) (ms := 0) C hLm_2 hFm_2 rfl (c_X3_cutOff l hlst G L F2 m0 c0 c1 c2 c3 c4 c5 c6 n now sl thr ((fdK (fun i r => reG sb i r) g k)) hm2 k (by omega)) (cwV 1 C.1.2.2.2.2 gX3_cutAll_X3_cutOff rfl rfl rfl (by decide +kernel) ⟨Nat.le_of_ble_eq_true rfl, Nat.le_of_ble_eq_true rfl⟩) rfl (Nat.le_of_ble_eq_true rfl) ⟨Nat.le_of_ble_eq_true rfl, Nat.le_of_ble_eq_true rfl⟩ dX3_cutAll_24 (fun rv9 L9 F9 hp9 => ?_)
          obtain ⟨e91, e92, hmo9, k9⟩ := hp9
          rw [e91, e92]
          refine z_stk (st' := [.int (nI (fTk ((fdK (fun i r => reG sb i r) g k) k))), .int (nI (smV (fun i => reT sb i (g i)) k))]) rfl ?_
          rw [fdK_at] at hmo9
          refine z_stk (st' := [.int (nI (fTk (g k))), .int (nI (smV (fun i => reT sb i (g i)) k))]) (by rw [fdK_at]) ?_
          refine z_goto C 31 dX3_cutAll_27 (by decide) ?_
          refine z_iadd C (nI (smV (fun i => reT sb i (g i)) k + fTk (g k))) dX3_cutAll_31 (nI_add (smV (fun i => reT sb i (g i)) k) (fTk (g k))) ?_
          refine z_istore_n (lv' := [(2, .int (nI (smV (fun i => reT sb i (g i)) k + fTk (g k)))), (0, .ref m0), (1, .int (nI sb)), (3, .int (nI k))]) C dX3_cutAll_32 rfl (by decide) rfl ?_
          refine z_iinc (v := nI (k + 1)) (lv' := [(3, .int (nI (k + 1))), (2, .int (nI (smV (fun i => reT sb i (g i)) k + fTk (g k)))), (0, .ref m0), (1, .int (nI sb))]) C dX3_cutAll_33 3 rfl (nI_add k 1) (by decide) rfl ?_
          refine z_goto C 4 dX3_cutAll_36 (by decide) ?_
          refine z_lvs (lv' := [(3, .int (nI (k + 1))), (2, .int (nI (smV (fun i => reT sb i (g i)) (k + 1)))), (0, .ref m0), (1, .int (nI sb))]) (by rw [smV_s, show reT sb k (g k) = fTk (g k) from by rw [reT, if_pos (by omega)]]) ?_
          rw [fdK_s (fun i r => reG sb i r) g k (by show reG sb k (g k) = fOff (g k); rw [reG, if_pos (by omega)])] at hmo9
          refine z_sub (lv' := [(0, .ref m0), (1, .int (nI sb)), (2, .int (nI (smV (fun i => reT sb i (g i)) (k + 1)))), (3, .int (nI (k + 1)))]) [2, 3, 1, 0] rfl ?_
          exact ih4 (k + 1) F9 (by omega) hmo9 (fun b q4 q6 q7 => (k9 b q4 q6 q7).trans (hk2 b q4 q6 q7)) (by omega)
  exact lp4 _ 0 F (Nat.zero_le _) hmoA (fun _ _ _ _ => rfl) (Nat.lt_succ_self _)

set_option maxRecDepth 100000 in
theorem hin_X3_relieve_X3 : ∀ w ∈ u_ws RX3 TX3 11, w ∈ wsX3_relieve := by decide +kernel
set_option maxHeartbeats 4000000 in
set_option maxRecDepth 100000 in
theorem c_X3_relieve (l : Launch) (hlst : l.stackTraces = false) (G : zGt) (L : List Nat) (F : Nat → va_E) (m0 c0 c1 c2 c3 c4 c5 c6 : Nat) (n now sl thr : Nat) (g : Nat → FdT) (hmo : zMo G L F m0 c0 c1 c2 c3 c4 c5 c6 n now sl thr g) (v : Int32) : zM l yX3_relieve wsX3_relieve 5 112 0 0 G L F [.ref m0, .int v] (fun rv L1 F1 => ∃ r : Int32, rv = some (.int r) ∧ L1 = L ∧ (∀ b, b ≠ m0 → b ≠ c0 → b ≠ c1 → b ≠ c2 → b ≠ c3 → b ≠ c4 → b ≠ c5 → b ≠ c6 → F1 b = F b) ∧ ((∃ sf b : Nat, v = nI sf ∧ 1 ≤ sf ∧ sf ≤ 20000 ∧ isB n g sl sf b ∧ b ≠ 0 ∧ r = nI (smV (fun i => reT b i (g i)) n) ∧ zMo G L F1 m0 c0 c1 c2 c3 c4 c5 c6 n now sl 0 ((fdK (fun i r => reG b i r) g n))) ∨ (¬ zIn 1 20000 v ∧ zMo G L F1 m0 c0 c1 c2 c3 c4 c5 c6 n now sl 1 g) ∨ (∃ sf : Nat, v = nI sf ∧ 1 ≤ sf ∧ sf ≤ 20000 ∧ isB n g sl sf 0 ∧ zMo G L F1 m0 c0 c1 c2 c3 c4 c5 c6 n now sl 2 g))) := by
  obtain ⟨⟨hLm, hLc0, hLc1, hLc2, hLc3, hLc4, hLc5, hLc6⟩, ⟨hFm, hFc0, hFc1, hFc2, hFc3, hFc4, hFc5, hFc6⟩, hNc, hGg, ⟨hn, hnow, hsl, hthr⟩⟩ := id hmo
  refine z_of (cc := cX3_relieve) (nL := 3) (ret := (some .int)) (own := RX3) hlst (by decide +kernel) rfl rfl (Nat.le_of_ble_eq_true rfl) ?_
  intro p e s m below meth c A hnm C
  refine z_lvs (lv' := [(0, .ref m0), (1, .int v)]) rfl ?_
  refine z_aload_n C dX3_relieve_0 rfl 0 rfl ?_
  refine z_iconst C (nI 0) dX3_relieve_1 (by decide) ?_
  refine z_put (ref := "ShedwheelModel") (v := .int (nI 0)) (fs' := [.ref c0, .ref c1, .ref c2, .ref c3, .ref c4, .ref c5, .ref c6, .int (nI n), .int (nI sl), .int (nI now), .int (nI 0)]) C hin_X3_relieve_X3 tyX3 tyX3_ok nmX3 hLm hFm rfl 10 (by decide) (by decide +kernel) (fun _ h9 => h9) rfl rfl rfl (Nat.le_of_ble_eq_true rfl) rfl dX3_relieve_2 (fun F1_ h2_ k3_ => ?_)
  have h4_ : F1_ c0 = .inl (G.2.1, 12, .inl (fun i9 => nI (fMw (g i9)))) := (k3_ c0 (zne hFc0 hFm rfl)).trans hFc0
  have h5_ : F1_ c1 = .inl (G.2.1, 12, .inl (fun i9 => nI (fCr (g i9)))) := (k3_ c1 (zne hFc1 hFm rfl)).trans hFc1
  have h6_ : F1_ c2 = .inl (G.2.1, 12, .inl (fun i9 => nI (fSg (g i9)))) := (k3_ c2 (zne hFc2 hFm rfl)).trans hFc2
  have h7_ : F1_ c3 = .inl (G.2.1, 12, .inl (fun i9 => nI (fOf (g i9)))) := (k3_ c3 (zne hFc3 hFm rfl)).trans hFc3
  have h8_ : F1_ c4 = .inl (G.2.1, 12, .inl (fun i9 => nI (fHo (g i9)))) := (k3_ c4 (zne hFc4 hFm rfl)).trans hFc4
  have h9_ : F1_ c5 = .inl (G.2.1, 12, .inl (fun i9 => nI (fTh (g i9)))) := (k3_ c5 (zne hFc5 hFm rfl)).trans hFc5
  have h10_ : F1_ c6 = .inl (G.2.1, 12, .inl (fun i9 => nI (fCo (g i9)))) := (k3_ c6 (zne hFc6 hFm rfl)).trans hFc6
  have kc11_ : ∀ b, b ≠ m0 → F1_ b = F b := fun b q0 => k3_ b q0
  have hmoT : zMo G L F1_ m0 c0 c1 c2 c3 c4 c5 c6 n now sl 0 g := ⟨⟨hLm, hLc0, hLc1, hLc2, hLc3, hLc4, hLc5, hLc6⟩, ⟨h2_, h4_, h5_, h6_, h7_, h8_, h9_, h10_⟩, hNc, hGg, ⟨hn, hnow, hsl, by omega⟩⟩
  refine z_iload_n C dX3_relieve_5 rfl 1 rfl ?_
  refine z_iconst C (nI 1) dX3_relieve_6 (by decide) ?_
  refine z_sipush C (nI 20000) dX3_relieve_7 (by decide) ?_
  refine z_callS (As := [.int v, .int (nI 1), .int (nI 20000)]) (st := []) (mc := 0) (ms := 0) C (c_X3_in l hlst G L F1_ v (nI 1) (nI 20000) (((1 : Nat) : Int)) (((20000 : Nat) : Int)) (zi_N (n := 1) (by omega)) (zi_N (n := 20000) (by omega))) (va_cwS 3 C.1.2.2.2.2 gX3_relieve_X3_in rfl rfl rfl (by decide +kernel) ⟨Nat.le_of_ble_eq_true rfl, Nat.le_of_ble_eq_true rfl⟩) rfl (Nat.le_of_ble_eq_true rfl) ⟨Nat.le_of_ble_eq_true rfl, Nat.le_of_ble_eq_true rfl⟩ dX3_relieve_10 (z_p ?_)
  refine z_stk (st' := [.int (nI (if ((1 : Nat) : Int) ≤ (v).toInt ∧ (v).toInt ≤ ((20000 : Nat) : Int) then 1 else 0))]) rfl ?_
  refine z_if_ne C 22 (¬ (((1 : Nat) : Int) ≤ (v).toInt ∧ (v).toInt ≤ ((20000 : Nat) : Int))) (zif_iff) dX3_relieve_13 (by decide) (fun c12_ => ?_) (fun c12_ => ?_)
  · -- 13 taken
    obtain ⟨sf, hvsf, hsf1, hsf2⟩ := zIn_of (lo := 1) (hi := 20000) (v := v) ⟨by omega, by omega⟩
    refine z_lvs (lv' := [(0, .ref m0), (1, .int (nI sf))]) (by rw [hvsf]) ?_
    refine z_aload_n C dX3_relieve_22 rfl 0 rfl ?_
    refine z_iload_n C dX3_relieve_23 rfl 1 rfl ?_
    refine z_callV (As := [.int (nI sf)]) (st := []) (mc := 0) (ms := 0) C hLm h2_ rfl (c_X3_choose l hlst G L F1_ m0 c0 c1 c2 c3 c4 c5 c6 n now sl 0 g hmoT sf ⟨by omega, by omega⟩) (cwV 1 C.1.2.2.2.2 gX3_relieve_X3_choose rfl rfl rfl (by decide +kernel) ⟨Nat.le_of_ble_eq_true rfl, Nat.le_of_ble_eq_true rfl⟩) rfl (Nat.le_of_ble_eq_true rfl) ⟨Nat.le_of_ble_eq_true rfl, Nat.le_of_ble_eq_true rfl⟩ dX3_relieve_24 (fun rv9 L9 F9 hp9 => ?_)
    obtain ⟨sb, e91, hB, hsb, e92, e93⟩ := hp9
    rw [e91, e92, e93]
    refine z_stk (st' := [.int (nI sb)]) rfl ?_
    refine z_istore_n (lv' := [(2, .int (nI sb)), (0, .ref m0), (1, .int (nI sf))]) C dX3_relieve_27 rfl (by decide) rfl ?_
    refine z_iload_n C dX3_relieve_28 rfl 0 rfl ?_
    refine z_if_ne C 40 (((sb : Nat) : Int) = (0 : Int)) (zi_eq (zi_N (n := sb) (by omega)) zi_0) dX3_relieve_29 (by decide) (fun c13_ => ?_) (fun c13_ => ?_)
    · -- 29 taken
      refine z_aload_n C dX3_relieve_40 rfl 1 rfl ?_
      refine z_iload_n C dX3_relieve_41 rfl 0 rfl ?_
      refine z_callV (As := [.int (nI sb)]) (st := []) (mc := 0) (ms := 0) C hLm h2_ rfl (c_X3_cutAll l hlst G L F1_ m0 c0 c1 c2 c3 c4 c5 c6 n now sl 0 g hmoT sb hsb) (cwV 1 C.1.2.2.2.2 gX3_relieve_X3_cutAll rfl rfl rfl (by decide +kernel) ⟨Nat.le_of_ble_eq_true rfl, Nat.le_of_ble_eq_true rfl⟩) rfl (Nat.le_of_ble_eq_true rfl) ⟨Nat.le_of_ble_eq_true rfl, Nat.le_of_ble_eq_true rfl⟩ dX3_relieve_42 (fun rv9 L9 F9 hp9 => ?_)
      obtain ⟨e91, e92, hmo9, k9⟩ := hp9
      rw [e91, e92]
      refine z_stk (st' := [.int (nI (smV (fun i => reT sb i (g i)) n))]) rfl ?_
      refine z_iret0 C rfl rfl (by decide) (by decide) dX3_relieve_45 ?_
      exact ⟨_, rfl, rfl, fun b q0 q1 q2 q3 q4 q5 q6 q7 => (k9 b q4 q6 q7).trans (kc11_ b q0), Or.inl ⟨sf, sb, hvsf, hsf1, hsf2, hB, by omega, rfl, hmo9⟩⟩
    · -- 29 not taken
      refine z_aload_n C dX3_relieve_32 rfl 1 rfl ?_
      refine z_iconst C (nI 2) dX3_relieve_33 (by decide) ?_
      refine z_callV (As := [.int (nI 2)]) (st := []) (mc := 0) (ms := 0) C hLm h2_ rfl (c_X3_fails l hlst G L F1_ m0 c0 c1 c2 c3 c4 c5 c6 n now sl 0 g hmoT 2 (by decide)) (cwV 1 C.1.2.2.2.2 gX3_relieve_X3_fails rfl rfl rfl (by decide +kernel) ⟨Nat.le_of_ble_eq_true rfl, Nat.le_of_ble_eq_true rfl⟩) rfl (Nat.le_of_ble_eq_true rfl) ⟨Nat.le_of_ble_eq_true rfl, Nat.le_of_ble_eq_true rfl⟩ dX3_relieve_34 (fun rv9 L9 F9 hp9 => ?_)
      obtain ⟨e91, e92, hmo9, k9⟩ := hp9
      rw [e91, e92]
      refine z_stk (st' := [.int (nI 0)]) rfl ?_
      refine z_goto C 45 dX3_relieve_37 (by decide) ?_
      refine z_iret0 C rfl rfl (by decide) (by decide) dX3_relieve_45 ?_
      obtain rfl : sb = 0 := by omega
      exact ⟨_, rfl, rfl, fun b q0 q1 q2 q3 q4 q5 q6 q7 => (k9 b q0).trans (kc11_ b q0), Or.inr (Or.inr ⟨sf, hvsf, hsf1, hsf2, hB, hmo9⟩)⟩
  · -- 13 not taken
    refine z_aload_n C dX3_relieve_16 rfl 0 rfl ?_
    refine z_iconst C (nI 1) dX3_relieve_17 (by decide) ?_
    refine z_callV (As := [.int (nI 1)]) (st := []) (mc := 0) (ms := 0) C hLm h2_ rfl (c_X3_fails l hlst G L F1_ m0 c0 c1 c2 c3 c4 c5 c6 n now sl 0 g hmoT 1 (by decide)) (cwV 1 C.1.2.2.2.2 gX3_relieve_X3_fails rfl rfl rfl (by decide +kernel) ⟨Nat.le_of_ble_eq_true rfl, Nat.le_of_ble_eq_true rfl⟩) rfl (Nat.le_of_ble_eq_true rfl) ⟨Nat.le_of_ble_eq_true rfl, Nat.le_of_ble_eq_true rfl⟩ dX3_relieve_18 (fun rv9 L9 F9 hp9 => ?_)
    obtain ⟨e91, e92, hmo9, k9⟩ := hp9
    rw [e91, e92]
    refine z_stk (st' := [.int (nI 0)]) rfl ?_
    refine z_iret0 C rfl rfl (by decide) (by decide) dX3_relieve_21 ?_
    exact ⟨_, rfl, rfl, fun b q0 q1 q2 q3 q4 q5 q6 q7 => (k9 b q0).trans (kc11_ b q0), Or.inr (Or.inl ⟨(fun h9 => (by obtain ⟨g1, g2⟩ := h9; omega)), hmo9⟩)⟩

set_option maxRecDepth 100000 in
theorem hin_X3_choice_X3 : ∀ w ∈ u_ws RX3 TX3 11, w ∈ wsX3_choice := by decide +kernel
set_option maxHeartbeats 4000000 in
set_option maxRecDepth 100000 in
theorem c_X3_choice (l : Launch) (hlst : l.stackTraces = false) (G : zGt) (L : List Nat) (F : Nat → va_E) (m0 c0 c1 c2 c3 c4 c5 c6 : Nat) (n now sl thr : Nat) (g : Nat → FdT) (hmo : zMo G L F m0 c0 c1 c2 c3 c4 c5 c6 n now sl thr g) (v : Int32) : zM l yX3_choice wsX3_choice 4 99 0 0 G L F [.ref m0, .int v] (fun rv L1 F1 => ∃ r : Int32, rv = some (.int r) ∧ L1 = L ∧ (∀ b, b ≠ m0 → b ≠ c0 → b ≠ c1 → b ≠ c2 → b ≠ c3 → b ≠ c4 → b ≠ c5 → b ≠ c6 → F1 b = F b) ∧ ((∃ sf b : Nat, v = nI sf ∧ 1 ≤ sf ∧ sf ≤ 20000 ∧ isB n g sl sf b ∧ r = nI b ∧ zMo G L F1 m0 c0 c1 c2 c3 c4 c5 c6 n now sl 0 g) ∨ (¬ zIn 1 20000 v ∧ zMo G L F1 m0 c0 c1 c2 c3 c4 c5 c6 n now sl 1 g))) := by
  obtain ⟨⟨hLm, hLc0, hLc1, hLc2, hLc3, hLc4, hLc5, hLc6⟩, ⟨hFm, hFc0, hFc1, hFc2, hFc3, hFc4, hFc5, hFc6⟩, hNc, hGg, ⟨hn, hnow, hsl, hthr⟩⟩ := id hmo
  refine z_of (cc := cX3_choice) (nL := 2) (ret := (some .int)) (own := RX3) hlst (by decide +kernel) rfl rfl (Nat.le_of_ble_eq_true rfl) ?_
  intro p e s m below meth c A hnm C
  refine z_lvs (lv' := [(0, .ref m0), (1, .int v)]) rfl ?_
  refine z_aload_n C dX3_choice_0 rfl 0 rfl ?_
  refine z_iconst C (nI 0) dX3_choice_1 (by decide) ?_
  refine z_put (ref := "ShedwheelModel") (v := .int (nI 0)) (fs' := [.ref c0, .ref c1, .ref c2, .ref c3, .ref c4, .ref c5, .ref c6, .int (nI n), .int (nI sl), .int (nI now), .int (nI 0)]) C hin_X3_choice_X3 tyX3 tyX3_ok nmX3 hLm hFm rfl 10 (by decide) (by decide +kernel) (fun _ h9 => h9) rfl rfl rfl (Nat.le_of_ble_eq_true rfl) rfl dX3_choice_2 (fun F1_ h2_ k3_ => ?_)
  have h4_ : F1_ c0 = .inl (G.2.1, 12, .inl (fun i9 => nI (fMw (g i9)))) := (k3_ c0 (zne hFc0 hFm rfl)).trans hFc0
  have h5_ : F1_ c1 = .inl (G.2.1, 12, .inl (fun i9 => nI (fCr (g i9)))) := (k3_ c1 (zne hFc1 hFm rfl)).trans hFc1
  have h6_ : F1_ c2 = .inl (G.2.1, 12, .inl (fun i9 => nI (fSg (g i9)))) := (k3_ c2 (zne hFc2 hFm rfl)).trans hFc2
  have h7_ : F1_ c3 = .inl (G.2.1, 12, .inl (fun i9 => nI (fOf (g i9)))) := (k3_ c3 (zne hFc3 hFm rfl)).trans hFc3
  have h8_ : F1_ c4 = .inl (G.2.1, 12, .inl (fun i9 => nI (fHo (g i9)))) := (k3_ c4 (zne hFc4 hFm rfl)).trans hFc4
  have h9_ : F1_ c5 = .inl (G.2.1, 12, .inl (fun i9 => nI (fTh (g i9)))) := (k3_ c5 (zne hFc5 hFm rfl)).trans hFc5
  have h10_ : F1_ c6 = .inl (G.2.1, 12, .inl (fun i9 => nI (fCo (g i9)))) := (k3_ c6 (zne hFc6 hFm rfl)).trans hFc6
  have kc11_ : ∀ b, b ≠ m0 → F1_ b = F b := fun b q0 => k3_ b q0
  have hmoT : zMo G L F1_ m0 c0 c1 c2 c3 c4 c5 c6 n now sl 0 g := ⟨⟨hLm, hLc0, hLc1, hLc2, hLc3, hLc4, hLc5, hLc6⟩, ⟨h2_, h4_, h5_, h6_, h7_, h8_, h9_, h10_⟩, hNc, hGg, ⟨hn, hnow, hsl, by omega⟩⟩
  refine z_iload_n C dX3_choice_5 rfl 1 rfl ?_
  refine z_iconst C (nI 1) dX3_choice_6 (by decide) ?_
  refine z_sipush C (nI 20000) dX3_choice_7 (by decide) ?_
  refine z_callS (As := [.int v, .int (nI 1), .int (nI 20000)]) (st := []) (mc := 0) (ms := 0) C (c_X3_in l hlst G L F1_ v (nI 1) (nI 20000) (((1 : Nat) : Int)) (((20000 : Nat) : Int)) (zi_N (n := 1) (by omega)) (zi_N (n := 20000) (by omega))) (va_cwS 3 C.1.2.2.2.2 gX3_choice_X3_in rfl rfl rfl (by decide +kernel) ⟨Nat.le_of_ble_eq_true rfl, Nat.le_of_ble_eq_true rfl⟩) rfl (Nat.le_of_ble_eq_true rfl) ⟨Nat.le_of_ble_eq_true rfl, Nat.le_of_ble_eq_true rfl⟩ dX3_choice_10 (z_p ?_)
  refine z_stk (st' := [.int (nI (if ((1 : Nat) : Int) ≤ (v).toInt ∧ (v).toInt ≤ ((20000 : Nat) : Int) then 1 else 0))]) rfl ?_
  refine z_if_eq C 24 (¬ (((1 : Nat) : Int) ≤ (v).toInt ∧ (v).toInt ≤ ((20000 : Nat) : Int))) (zif_iff) dX3_choice_13 (by decide) (fun c12_ => ?_) (fun c12_ => ?_)
  · -- 13 taken
    refine z_aload_n C dX3_choice_24 rfl 0 rfl ?_
    refine z_iconst C (nI 1) dX3_choice_25 (by decide) ?_
    refine z_callV (As := [.int (nI 1)]) (st := []) (mc := 0) (ms := 0) C hLm h2_ rfl (c_X3_fails l hlst G L F1_ m0 c0 c1 c2 c3 c4 c5 c6 n now sl 0 g hmoT 1 (by decide)) (cwV 1 C.1.2.2.2.2 gX3_choice_X3_fails rfl rfl rfl (by decide +kernel) ⟨Nat.le_of_ble_eq_true rfl, Nat.le_of_ble_eq_true rfl⟩) rfl (Nat.le_of_ble_eq_true rfl) ⟨Nat.le_of_ble_eq_true rfl, Nat.le_of_ble_eq_true rfl⟩ dX3_choice_26 (fun rv9 L9 F9 hp9 => ?_)
    obtain ⟨e91, e92, hmo9, k9⟩ := hp9
    rw [e91, e92]
    refine z_stk (st' := [.int (nI 0)]) rfl ?_
    refine z_iret0 C rfl rfl (by decide) (by decide) dX3_choice_29 ?_
    exact ⟨_, rfl, rfl, fun b q0 q1 q2 q3 q4 q5 q6 q7 => (k9 b q0).trans (kc11_ b q0), Or.inr ⟨(fun h9 => (by obtain ⟨g1, g2⟩ := h9; omega)), hmo9⟩⟩
  · -- 13 not taken
    obtain ⟨sf, hvsf, hsf1, hsf2⟩ := zIn_of (lo := 1) (hi := 20000) (v := v) ⟨by omega, by omega⟩
    refine z_lvs (lv' := [(0, .ref m0), (1, .int (nI sf))]) (by rw [hvsf]) ?_
    refine z_aload_n C dX3_choice_16 rfl 0 rfl ?_
    refine z_iload_n C dX3_choice_17 rfl 1 rfl ?_
    refine z_callV (As := [.int (nI sf)]) (st := []) (mc := 0) (ms := 0) C hLm h2_ rfl (c_X3_choose l hlst G L F1_ m0 c0 c1 c2 c3 c4 c5 c6 n now sl 0 g hmoT sf ⟨by omega, by omega⟩) (cwV 1 C.1.2.2.2.2 gX3_choice_X3_choose rfl rfl rfl (by decide +kernel) ⟨Nat.le_of_ble_eq_true rfl, Nat.le_of_ble_eq_true rfl⟩) rfl (Nat.le_of_ble_eq_true rfl) ⟨Nat.le_of_ble_eq_true rfl, Nat.le_of_ble_eq_true rfl⟩ dX3_choice_18 (fun rv9 L9 F9 hp9 => ?_)
    obtain ⟨sb, e91, hB, hsb, e92, e93⟩ := hp9
    rw [e91, e92, e93]
    refine z_stk (st' := [.int (nI sb)]) rfl ?_
    refine z_goto C 29 dX3_choice_21 (by decide) ?_
    refine z_iret0 C rfl rfl (by decide) (by decide) dX3_choice_29 ?_
    exact ⟨_, rfl, rfl, fun b q0 q1 q2 q3 q4 q5 q6 q7 => kc11_ b q0, Or.inl ⟨sf, sb, hvsf, hsf1, hsf2, hB, rfl, hmoT⟩⟩

set_option maxRecDepth 100000 in
theorem hin_X3_choiceByListing_X3 : ∀ w ∈ u_ws RX3 TX3 11, w ∈ wsX3_choiceByListing := by decide +kernel
set_option maxHeartbeats 4000000 in
set_option maxRecDepth 100000 in
theorem c_X3_choiceByListing (l : Launch) (hlst : l.stackTraces = false) (G : zGt) (L : List Nat) (F : Nat → va_E) (m0 c0 c1 c2 c3 c4 c5 c6 : Nat) (n now sl thr : Nat) (g : Nat → FdT) (hmo : zMo G L F m0 c0 c1 c2 c3 c4 c5 c6 n now sl thr g) (v : Int32) : zM l yX3_choiceByListing wsX3_choiceByListing 4 99 0 0 G L F [.ref m0, .int v] (fun rv L1 F1 => ∃ r : Int32, rv = some (.int r) ∧ L1 = L ∧ (∀ b, b ≠ m0 → b ≠ c0 → b ≠ c1 → b ≠ c2 → b ≠ c3 → b ≠ c4 → b ≠ c5 → b ≠ c6 → F1 b = F b) ∧ ((∃ sf b : Nat, v = nI sf ∧ 1 ≤ sf ∧ sf ≤ 20000 ∧ isB n g sl sf b ∧ frC g n ≤ 8 ∧ r = nI b ∧ zMo G L F1 m0 c0 c1 c2 c3 c4 c5 c6 n now sl 0 g) ∨ (¬ zIn 1 20000 v ∧ zMo G L F1 m0 c0 c1 c2 c3 c4 c5 c6 n now sl 1 g) ∨ (∃ sf : Nat, v = nI sf ∧ 1 ≤ sf ∧ sf ≤ 20000 ∧ 8 < frC g n ∧ zMo G L F1 m0 c0 c1 c2 c3 c4 c5 c6 n now sl 2 g))) := by
  obtain ⟨⟨hLm, hLc0, hLc1, hLc2, hLc3, hLc4, hLc5, hLc6⟩, ⟨hFm, hFc0, hFc1, hFc2, hFc3, hFc4, hFc5, hFc6⟩, hNc, hGg, ⟨hn, hnow, hsl, hthr⟩⟩ := id hmo
  refine z_of (cc := cX3_choiceByListing) (nL := 4) (ret := (some .int)) (own := RX3) hlst (by decide +kernel) rfl rfl (Nat.le_of_ble_eq_true rfl) ?_
  intro p e s m below meth c A hnm C
  refine z_lvs (lv' := [(0, .ref m0), (1, .int v)]) rfl ?_
  refine z_aload_n C dX3_choiceByListing_0 rfl 0 rfl ?_
  refine z_iconst C (nI 0) dX3_choiceByListing_1 (by decide) ?_
  refine z_put (ref := "ShedwheelModel") (v := .int (nI 0)) (fs' := [.ref c0, .ref c1, .ref c2, .ref c3, .ref c4, .ref c5, .ref c6, .int (nI n), .int (nI sl), .int (nI now), .int (nI 0)]) C hin_X3_choiceByListing_X3 tyX3 tyX3_ok nmX3 hLm hFm rfl 10 (by decide) (by decide +kernel) (fun _ h9 => h9) rfl rfl rfl (Nat.le_of_ble_eq_true rfl) rfl dX3_choiceByListing_2 (fun F1_ h2_ k3_ => ?_)
  have h4_ : F1_ c0 = .inl (G.2.1, 12, .inl (fun i9 => nI (fMw (g i9)))) := (k3_ c0 (zne hFc0 hFm rfl)).trans hFc0
  have h5_ : F1_ c1 = .inl (G.2.1, 12, .inl (fun i9 => nI (fCr (g i9)))) := (k3_ c1 (zne hFc1 hFm rfl)).trans hFc1
  have h6_ : F1_ c2 = .inl (G.2.1, 12, .inl (fun i9 => nI (fSg (g i9)))) := (k3_ c2 (zne hFc2 hFm rfl)).trans hFc2
  have h7_ : F1_ c3 = .inl (G.2.1, 12, .inl (fun i9 => nI (fOf (g i9)))) := (k3_ c3 (zne hFc3 hFm rfl)).trans hFc3
  have h8_ : F1_ c4 = .inl (G.2.1, 12, .inl (fun i9 => nI (fHo (g i9)))) := (k3_ c4 (zne hFc4 hFm rfl)).trans hFc4
  have h9_ : F1_ c5 = .inl (G.2.1, 12, .inl (fun i9 => nI (fTh (g i9)))) := (k3_ c5 (zne hFc5 hFm rfl)).trans hFc5
  have h10_ : F1_ c6 = .inl (G.2.1, 12, .inl (fun i9 => nI (fCo (g i9)))) := (k3_ c6 (zne hFc6 hFm rfl)).trans hFc6
  have kc11_ : ∀ b, b ≠ m0 → F1_ b = F b := fun b q0 => k3_ b q0
  have hmoT : zMo G L F1_ m0 c0 c1 c2 c3 c4 c5 c6 n now sl 0 g := ⟨⟨hLm, hLc0, hLc1, hLc2, hLc3, hLc4, hLc5, hLc6⟩, ⟨h2_, h4_, h5_, h6_, h7_, h8_, h9_, h10_⟩, hNc, hGg, ⟨hn, hnow, hsl, by omega⟩⟩
  refine z_iload_n C dX3_choiceByListing_5 rfl 1 rfl ?_
  refine z_iconst C (nI 1) dX3_choiceByListing_6 (by decide) ?_
  refine z_sipush C (nI 20000) dX3_choiceByListing_7 (by decide) ?_
  refine z_callS (As := [.int v, .int (nI 1), .int (nI 20000)]) (st := []) (mc := 0) (ms := 0) C (c_X3_in l hlst G L F1_ v (nI 1) (nI 20000) (((1 : Nat) : Int)) (((20000 : Nat) : Int)) (zi_N (n := 1) (by omega)) (zi_N (n := 20000) (by omega))) (va_cwS 3 C.1.2.2.2.2 gX3_choiceByListing_X3_in rfl rfl rfl (by decide +kernel) ⟨Nat.le_of_ble_eq_true rfl, Nat.le_of_ble_eq_true rfl⟩) rfl (Nat.le_of_ble_eq_true rfl) ⟨Nat.le_of_ble_eq_true rfl, Nat.le_of_ble_eq_true rfl⟩ dX3_choiceByListing_10 (z_p ?_)
  refine z_stk (st' := [.int (nI (if ((1 : Nat) : Int) ≤ (v).toInt ∧ (v).toInt ≤ ((20000 : Nat) : Int) then 1 else 0))]) rfl ?_
  refine z_if_ne C 22 (¬ (((1 : Nat) : Int) ≤ (v).toInt ∧ (v).toInt ≤ ((20000 : Nat) : Int))) (zif_iff) dX3_choiceByListing_13 (by decide) (fun c12_ => ?_) (fun c12_ => ?_)
  · -- 13 taken
    obtain ⟨sf, hvsf, hsf1, hsf2⟩ := zIn_of (lo := 1) (hi := 20000) (v := v) ⟨by omega, by omega⟩
    refine z_lvs (lv' := [(0, .ref m0), (1, .int (nI sf))]) (by rw [hvsf]) ?_
    refine z_iconst C (nI 0) dX3_choiceByListing_22 (by decide) ?_
    refine z_istore_n (lv' := [(2, .int (nI 0)), (0, .ref m0), (1, .int (nI sf))]) C dX3_choiceByListing_23 rfl (by decide) rfl ?_
    refine z_iconst C (nI 0) dX3_choiceByListing_24 (by decide) ?_
    refine z_istore_n (lv' := [(3, .int (nI 0)), (2, .int (nI 0)), (0, .ref m0), (1, .int (nI sf))]) C dX3_choiceByListing_25 rfl (by decide) rfl ?_
    refine z_lvs (lv' := [(3, .int (nI 0)), (2, .int (nI (smV (fun j => frT (g j)) 0))), (0, .ref m0), (1, .int (nI sf))]) rfl ?_
    refine z_sub (lv' := [(0, .ref m0), (1, .int (nI sf)), (2, .int (nI (smV (fun j => frT (g j)) 0))), (3, .int (nI 0))]) [2, 3, 1, 0] rfl ?_
    have lp26 : ∀ (N9 : Nat) (k : Nat) (hk : k ≤ n) (h9 : n - k < N9), zW p l e { frames := 4, cells := 0, slots := 0, locals := 99 } s m [.ref m0, .int v].toArray below meth c 4 G A (MQ below (zQ G (fun rv L1 F1 => ∃ r : Int32, rv = some (.int r) ∧ L1 = L ∧ (∀ b, b ≠ m0 → b ≠ c0 → b ≠ c1 → b ≠ c2 → b ≠ c3 → b ≠ c4 → b ≠ c5 → b ≠ c6 → F1 b = F b) ∧ ((∃ sf b : Nat, v = nI sf ∧ 1 ≤ sf ∧ sf ≤ 20000 ∧ isB n g sl sf b ∧ frC g n ≤ 8 ∧ r = nI b ∧ zMo G L F1 m0 c0 c1 c2 c3 c4 c5 c6 n now sl 0 g) ∨ (¬ zIn 1 20000 v ∧ zMo G L F1 m0 c0 c1 c2 c3 c4 c5 c6 n now sl 1 g) ∨ (∃ sf : Nat, v = nI sf ∧ 1 ≤ sf ∧ sf ≤ 20000 ∧ 8 < frC g n ∧ zMo G L F1 m0 c0 c1 c2 c3 c4 c5 c6 n now sl 2 g))) A) [.ref m0, .int v].toArray s 0 0 A) 0 0 L F1_ 26 [(0, .ref m0), (1, .int (nI sf)), (2, .int (nI (smV (fun j => frT (g j)) k))), (3, .int (nI k))] [] := by
      intro N9
      induction N9 with
      | zero => intro k hk h9; exact absurd h9 (Nat.not_lt_zero _)
      | succ N9 ih26 =>
        intro k hk hN26
        refine z_iload_n C dX3_choiceByListing_26 rfl 3 rfl ?_
        refine z_aload_n C dX3_choiceByListing_27 rfl 0 rfl ?_
        refine z_get (ref := "ShedwheelModel") (v := .int (nI n)) C hin_X3_choiceByListing_X3 hLm h2_ rfl 7 (by decide) (by decide +kernel) (fun _ h9 => h9) rfl dX3_choiceByListing_28 ?_
        refine z_icmp_ge C 56 (((n : Nat) : Int) ≤ ((k : Nat) : Int)) (zi_le (zi_N (n := n) (by omega)) (zi_N (n := k) (by omega))) dX3_choiceByListing_31 (by decide) (fun c13_ => ?_) (fun c13_ => ?_)
        · -- 31 taken
          obtain rfl : n = k := by omega
          have hfc : smV (fun j => frT (g j)) n ≤ n * 1 := smV_le (fun j _ => by unfold frT; split <;> omega)
          refine z_iload_n C dX3_choiceByListing_56 rfl 2 rfl ?_
          refine z_bipush C (nI 8) dX3_choiceByListing_57 (by decide) ?_
          refine z_icmp_le C 70 (((smV (fun j => frT (g j)) n : Nat) : Int) ≤ ((8 : Nat) : Int)) (zi_le (zi_N (n := smV (fun j => frT (g j)) n) (by omega)) (zi_N (n := 8) (by omega))) dX3_choiceByListing_59 (by decide) (fun c14_ => ?_) (fun c14_ => ?_)
          · -- 59 taken
            refine z_aload_n C dX3_choiceByListing_70 rfl 0 rfl ?_
            refine z_iload_n C dX3_choiceByListing_71 rfl 1 rfl ?_
            refine z_callV (As := [.int (nI sf)]) (st := []) (mc := 0) (ms := 0) C hLm h2_ rfl (c_X3_choose l hlst G L F1_ m0 c0 c1 c2 c3 c4 c5 c6 n now sl 0 g hmoT sf ⟨by omega, by omega⟩) (cwV 1 C.1.2.2.2.2 gX3_choiceByListing_X3_choose rfl rfl rfl (by decide +kernel) ⟨Nat.le_of_ble_eq_true rfl, Nat.le_of_ble_eq_true rfl⟩) rfl (Nat.le_of_ble_eq_true rfl) ⟨Nat.le_of_ble_eq_true rfl, Nat.le_of_ble_eq_true rfl⟩ dX3_choiceByListing_72 (fun rv9 L9 F9 hp9 => ?_)
            obtain ⟨sb, e91, hB, hsb, e92, e93⟩ := hp9
            rw [e91, e92, e93]
            refine z_stk (st' := [.int (nI sb)]) rfl ?_
            refine z_iret0 C rfl rfl (by decide) (by decide) dX3_choiceByListing_75 ?_
            exact ⟨_, rfl, rfl, fun b q0 q1 q2 q3 q4 q5 q6 q7 => kc11_ b q0, Or.inl ⟨sf, sb, hvsf, hsf1, hsf2, hB, by rw [← frC_sm]; omega, rfl, hmoT⟩⟩
          · -- 59 not taken
            refine z_aload_n C dX3_choiceByListing_62 rfl 0 rfl ?_
            refine z_iconst C (nI 2) dX3_choiceByListing_63 (by decide) ?_
            refine z_callV (As := [.int (nI 2)]) (st := []) (mc := 0) (ms := 0) C hLm h2_ rfl (c_X3_fails l hlst G L F1_ m0 c0 c1 c2 c3 c4 c5 c6 n now sl 0 g hmoT 2 (by decide)) (cwV 1 C.1.2.2.2.2 gX3_choiceByListing_X3_fails rfl rfl rfl (by decide +kernel) ⟨Nat.le_of_ble_eq_true rfl, Nat.le_of_ble_eq_true rfl⟩) rfl (Nat.le_of_ble_eq_true rfl) ⟨Nat.le_of_ble_eq_true rfl, Nat.le_of_ble_eq_true rfl⟩ dX3_choiceByListing_64 (fun rv9 L9 F9 hp9 => ?_)
            obtain ⟨e91, e92, hmo9, k9⟩ := hp9
            rw [e91, e92]
            refine z_stk (st' := [.int (nI 0)]) rfl ?_
            refine z_goto C 75 dX3_choiceByListing_67 (by decide) ?_
            refine z_iret0 C rfl rfl (by decide) (by decide) dX3_choiceByListing_75 ?_
            exact ⟨_, rfl, rfl, fun b q0 q1 q2 q3 q4 q5 q6 q7 => (k9 b q0).trans (kc11_ b q0), Or.inr (Or.inr ⟨sf, hvsf, hsf1, hsf2, by rw [← frC_sm]; omega, hmo9⟩)⟩
        · -- 31 not taken
          refine z_iload_n C dX3_choiceByListing_34 rfl 2 rfl ?_
          refine z_aload_n C dX3_choiceByListing_35 rfl 0 rfl ?_
          refine z_iload_n C dX3_choiceByListing_36 rfl 3 rfl ?_
          refine z_callV (As := [.int (nI k)]) (st := [.int (nI (smV (fun j => frT (g j)) k))]) (mc := 0) (ms := 0) C hLm h2_ rfl (c_X3_isFree l hlst G L F1_ m0 c0 c1 c2 c3 c4 c5 c6 n now sl 0 g hmoT k (by omega)) (cwV 1 C.1.2.2.2.2 gX3_choiceByListing_X3_isFree rfl rfl rfl (by decide +kernel) ⟨Nat.le_of_ble_eq_true rfl, Nat.le_of_ble_eq_true rfl⟩) rfl (Nat.le_of_ble_eq_true rfl) ⟨Nat.le_of_ble_eq_true rfl, Nat.le_of_ble_eq_true rfl⟩ dX3_choiceByListing_37 (z_p ?_)
          refine z_stk (st' := [.int (nI (if fOf (g k) = 0 ∧ fCr (g k) = 0 then 1 else 0)), .int (nI (smV (fun j => frT (g j)) k))]) rfl ?_
          refine z_if_eq C 47 (¬ (fOf (g k) = 0 ∧ fCr (g k) = 0)) (zif_iff) dX3_choiceByListing_40 (by decide) (fun c15_ => ?_) (fun c15_ => ?_)
          · -- 40 taken
            refine z_iconst C (nI 0) dX3_choiceByListing_47 (by decide) ?_
            refine z_iadd C (nI (smV (fun j => frT (g j)) k + 0)) dX3_choiceByListing_48 (nI_add (smV (fun j => frT (g j)) k) 0) ?_
            refine z_istore_n (lv' := [(2, .int (nI (smV (fun j => frT (g j)) k + 0))), (0, .ref m0), (1, .int (nI sf)), (3, .int (nI k))]) C dX3_choiceByListing_49 rfl (by decide) rfl ?_
            refine z_iinc (v := nI (k + 1)) (lv' := [(3, .int (nI (k + 1))), (2, .int (nI (smV (fun j => frT (g j)) k + 0))), (0, .ref m0), (1, .int (nI sf))]) C dX3_choiceByListing_50 3 rfl (nI_add k 1) (by decide) rfl ?_
            refine z_goto C 26 dX3_choiceByListing_53 (by decide) ?_
            refine z_lvs (lv' := [(3, .int (nI (k + 1))), (2, .int (nI (smV (fun j => frT (g j)) (k + 1)))), (0, .ref m0), (1, .int (nI sf))]) (by rw [smV_s, show frT (g k) = 0 from by rw [frT, if_neg (by omega)]]) ?_
            refine z_sub (lv' := [(0, .ref m0), (1, .int (nI sf)), (2, .int (nI (smV (fun j => frT (g j)) (k + 1)))), (3, .int (nI (k + 1)))]) [2, 3, 1, 0] rfl ?_
            exact ih26 (k + 1) (by omega) (by omega)
          · -- 40 not taken
            refine z_iconst C (nI 1) dX3_choiceByListing_43 (by decide) ?_
            refine z_goto C 48 dX3_choiceByListing_44 (by decide) ?_
            refine z_iadd C (nI (smV (fun j => frT (g j)) k + 1)) dX3_choiceByListing_48 (nI_add (smV (fun j => frT (g j)) k) 1) ?_
            refine z_istore_n (lv' := [(2, .int (nI (smV (fun j => frT (g j)) k + 1))), (0, .ref m0), (1, .int (nI sf)), (3, .int (nI k))]) C dX3_choiceByListing_49 rfl (by decide) rfl ?_
            refine z_iinc (v := nI (k + 1)) (lv' := [(3, .int (nI (k + 1))), (2, .int (nI (smV (fun j => frT (g j)) k + 1))), (0, .ref m0), (1, .int (nI sf))]) C dX3_choiceByListing_50 3 rfl (nI_add k 1) (by decide) rfl ?_
            refine z_goto C 26 dX3_choiceByListing_53 (by decide) ?_
            refine z_lvs (lv' := [(3, .int (nI (k + 1))), (2, .int (nI (smV (fun j => frT (g j)) (k + 1)))), (0, .ref m0), (1, .int (nI sf))]) (by rw [smV_s, show frT (g k) = 1 from by rw [frT, if_pos (by omega)]]) ?_
            refine z_sub (lv' := [(0, .ref m0), (1, .int (nI sf)), (2, .int (nI (smV (fun j => frT (g j)) (k + 1)))), (3, .int (nI (k + 1)))]) [2, 3, 1, 0] rfl ?_
            exact ih26 (k + 1) (by omega) (by omega)
    exact lp26 _ 0 (Nat.zero_le _) (Nat.lt_succ_self _)
  · -- 13 not taken
    refine z_aload_n C dX3_choiceByListing_16 rfl 0 rfl ?_
    refine z_iconst C (nI 1) dX3_choiceByListing_17 (by decide) ?_
    refine z_callV (As := [.int (nI 1)]) (st := []) (mc := 0) (ms := 0) C hLm h2_ rfl (c_X3_fails l hlst G L F1_ m0 c0 c1 c2 c3 c4 c5 c6 n now sl 0 g hmoT 1 (by decide)) (cwV 1 C.1.2.2.2.2 gX3_choiceByListing_X3_fails rfl rfl rfl (by decide +kernel) ⟨Nat.le_of_ble_eq_true rfl, Nat.le_of_ble_eq_true rfl⟩) rfl (Nat.le_of_ble_eq_true rfl) ⟨Nat.le_of_ble_eq_true rfl, Nat.le_of_ble_eq_true rfl⟩ dX3_choiceByListing_18 (fun rv9 L9 F9 hp9 => ?_)
    obtain ⟨e91, e92, hmo9, k9⟩ := hp9
    rw [e91, e92]
    refine z_stk (st' := [.int (nI 0)]) rfl ?_
    refine z_iret0 C rfl rfl (by decide) (by decide) dX3_choiceByListing_21 ?_
    exact ⟨_, rfl, rfl, fun b q0 q1 q2 q3 q4 q5 q6 q7 => (k9 b q0).trans (kc11_ b q0), Or.inr (Or.inl ⟨(fun h9 => (by obtain ⟨g1, g2⟩ := h9; omega)), hmo9⟩)⟩

set_option maxRecDepth 100000 in
theorem hin_X3_trip_X3 : ∀ w ∈ u_ws RX3 TX3 11, w ∈ wsX3_trip := by decide +kernel
set_option maxHeartbeats 4000000 in
set_option maxRecDepth 100000 in
theorem c_X3_trip (l : Launch) (hlst : l.stackTraces = false) (G : zGt) (L : List Nat) (F : Nat → va_E) (m0 c0 c1 c2 c3 c4 c5 c6 : Nat) (n now sl thr : Nat) (g : Nat → FdT) (hmo : zMo G L F m0 c0 c1 c2 c3 c4 c5 c6 n now sl thr g) (v : Int32) : zM l yX3_trip wsX3_trip 4 89 0 0 G L F [.ref m0, .int v] (fun rv L1 F1 => ∃ r : Int32, rv = some (.int r) ∧ L1 = L ∧ (∀ b, b ≠ m0 → b ≠ c0 → b ≠ c1 → b ≠ c2 → b ≠ c3 → b ≠ c4 → b ≠ c5 → b ≠ c6 → F1 b = F b) ∧ ((∃ st : Nat, v = nI st ∧ 1 ≤ st ∧ st ≤ 3 ∧ r = nI (smV (fun i => trT st (g i)) n) ∧ zMo G L F1 m0 c0 c1 c2 c3 c4 c5 c6 n now sl 0 ((fdK (fun _ r => trG st r) g n))) ∨ (¬ zIn 1 3 v ∧ zMo G L F1 m0 c0 c1 c2 c3 c4 c5 c6 n now sl 1 g))) := by
  obtain ⟨⟨hLm, hLc0, hLc1, hLc2, hLc3, hLc4, hLc5, hLc6⟩, ⟨hFm, hFc0, hFc1, hFc2, hFc3, hFc4, hFc5, hFc6⟩, hNc, hGg, ⟨hn, hnow, hsl, hthr⟩⟩ := id hmo
  refine z_of (cc := cX3_trip) (nL := 4) (ret := (some .int)) (own := RX3) hlst (by decide +kernel) rfl rfl (Nat.le_of_ble_eq_true rfl) ?_
  intro p e s m below meth c A hnm C
  refine z_lvs (lv' := [(0, .ref m0), (1, .int v)]) rfl ?_
  refine z_aload_n C dX3_trip_0 rfl 0 rfl ?_
  refine z_iconst C (nI 0) dX3_trip_1 (by decide) ?_
  refine z_put (ref := "ShedwheelModel") (v := .int (nI 0)) (fs' := [.ref c0, .ref c1, .ref c2, .ref c3, .ref c4, .ref c5, .ref c6, .int (nI n), .int (nI sl), .int (nI now), .int (nI 0)]) C hin_X3_trip_X3 tyX3 tyX3_ok nmX3 hLm hFm rfl 10 (by decide) (by decide +kernel) (fun _ h9 => h9) rfl rfl rfl (Nat.le_of_ble_eq_true rfl) rfl dX3_trip_2 (fun F1_ h2_ k3_ => ?_)
  have h4_ : F1_ c0 = .inl (G.2.1, 12, .inl (fun i9 => nI (fMw (g i9)))) := (k3_ c0 (zne hFc0 hFm rfl)).trans hFc0
  have h5_ : F1_ c1 = .inl (G.2.1, 12, .inl (fun i9 => nI (fCr (g i9)))) := (k3_ c1 (zne hFc1 hFm rfl)).trans hFc1
  have h6_ : F1_ c2 = .inl (G.2.1, 12, .inl (fun i9 => nI (fSg (g i9)))) := (k3_ c2 (zne hFc2 hFm rfl)).trans hFc2
  have h7_ : F1_ c3 = .inl (G.2.1, 12, .inl (fun i9 => nI (fOf (g i9)))) := (k3_ c3 (zne hFc3 hFm rfl)).trans hFc3
  have h8_ : F1_ c4 = .inl (G.2.1, 12, .inl (fun i9 => nI (fHo (g i9)))) := (k3_ c4 (zne hFc4 hFm rfl)).trans hFc4
  have h9_ : F1_ c5 = .inl (G.2.1, 12, .inl (fun i9 => nI (fTh (g i9)))) := (k3_ c5 (zne hFc5 hFm rfl)).trans hFc5
  have h10_ : F1_ c6 = .inl (G.2.1, 12, .inl (fun i9 => nI (fCo (g i9)))) := (k3_ c6 (zne hFc6 hFm rfl)).trans hFc6
  have kc11_ : ∀ b, b ≠ m0 → F1_ b = F b := fun b q0 => k3_ b q0
  have hmoT : zMo G L F1_ m0 c0 c1 c2 c3 c4 c5 c6 n now sl 0 g := ⟨⟨hLm, hLc0, hLc1, hLc2, hLc3, hLc4, hLc5, hLc6⟩, ⟨h2_, h4_, h5_, h6_, h7_, h8_, h9_, h10_⟩, hNc, hGg, ⟨hn, hnow, hsl, by omega⟩⟩
  refine z_iload_n C dX3_trip_5 rfl 1 rfl ?_
  refine z_iconst C (nI 1) dX3_trip_6 (by decide) ?_
  refine z_iconst C (nI 3) dX3_trip_7 (by decide) ?_
  refine z_callS (As := [.int v, .int (nI 1), .int (nI 3)]) (st := []) (mc := 0) (ms := 0) C (c_X3_in l hlst G L F1_ v (nI 1) (nI 3) (((1 : Nat) : Int)) (((3 : Nat) : Int)) (zi_N (n := 1) (by omega)) (zi_N (n := 3) (by omega))) (va_cwS 3 C.1.2.2.2.2 gX3_trip_X3_in rfl rfl rfl (by decide +kernel) ⟨Nat.le_of_ble_eq_true rfl, Nat.le_of_ble_eq_true rfl⟩) rfl (Nat.le_of_ble_eq_true rfl) ⟨Nat.le_of_ble_eq_true rfl, Nat.le_of_ble_eq_true rfl⟩ dX3_trip_8 (z_p ?_)
  refine z_stk (st' := [.int (nI (if ((1 : Nat) : Int) ≤ (v).toInt ∧ (v).toInt ≤ ((3 : Nat) : Int) then 1 else 0))]) rfl ?_
  refine z_if_ne C 20 (¬ (((1 : Nat) : Int) ≤ (v).toInt ∧ (v).toInt ≤ ((3 : Nat) : Int))) (zif_iff) dX3_trip_11 (by decide) (fun c12_ => ?_) (fun c12_ => ?_)
  · -- 11 taken
    obtain ⟨st, hvst, hst1, hst2⟩ := zIn_of (lo := 1) (hi := 3) (v := v) ⟨by omega, by omega⟩
    refine z_lvs (lv' := [(0, .ref m0), (1, .int (nI st))]) (by rw [hvst]) ?_
    refine z_iconst C (nI 0) dX3_trip_20 (by decide) ?_
    refine z_istore_n (lv' := [(2, .int (nI 0)), (0, .ref m0), (1, .int (nI st))]) C dX3_trip_21 rfl (by decide) rfl ?_
    refine z_iconst C (nI 0) dX3_trip_22 (by decide) ?_
    refine z_istore_n (lv' := [(3, .int (nI 0)), (2, .int (nI 0)), (0, .ref m0), (1, .int (nI st))]) C dX3_trip_23 rfl (by decide) rfl ?_
    refine z_lvs (lv' := [(3, .int (nI 0)), (2, .int (nI (smV (fun i => trT st (g i)) 0))), (0, .ref m0), (1, .int (nI st))]) rfl ?_
    refine z_sub (lv' := [(0, .ref m0), (1, .int (nI st)), (2, .int (nI (smV (fun i => trT st (g i)) 0))), (3, .int (nI 0))]) [2, 3, 1, 0] rfl ?_
    have hmoA := hmoT
    rw [← fdK_0 (fun _ r => trG st r) g] at hmoA
    have lp24 : ∀ (N9 : Nat) (k : Nat) (F2 : Nat → va_E) (hk : k ≤ n) (hm2 : zMo G L F2 m0 c0 c1 c2 c3 c4 c5 c6 n now sl 0 ((fdK (fun _ r => trG st r) g k))) (hk2 : ∀ b, b ≠ m0 → b ≠ c0 → b ≠ c1 → b ≠ c2 → b ≠ c3 → b ≠ c4 → b ≠ c5 → b ≠ c6 → F2 b = F b) (h9 : n - k < N9), zW p l e { frames := 4, cells := 0, slots := 0, locals := 89 } s m [.ref m0, .int v].toArray below meth c 4 G A (MQ below (zQ G (fun rv L1 F1 => ∃ r : Int32, rv = some (.int r) ∧ L1 = L ∧ (∀ b, b ≠ m0 → b ≠ c0 → b ≠ c1 → b ≠ c2 → b ≠ c3 → b ≠ c4 → b ≠ c5 → b ≠ c6 → F1 b = F b) ∧ ((∃ st : Nat, v = nI st ∧ 1 ≤ st ∧ st ≤ 3 ∧ r = nI (smV (fun i => trT st (g i)) n) ∧ zMo G L F1 m0 c0 c1 c2 c3 c4 c5 c6 n now sl 0 ((fdK (fun _ r => trG st r) g n))) ∨ (¬ zIn 1 3 v ∧ zMo G L F1 m0 c0 c1 c2 c3 c4 c5 c6 n now sl 1 g))) A) [.ref m0, .int v].toArray s 0 0 A) 0 0 L F2 24 [(0, .ref m0), (1, .int (nI st)), (2, .int (nI (smV (fun i => trT st (g i)) k))), (3, .int (nI k))] [] := by
      intro N9
      induction N9 with
      | zero => intro k F2 hk hm2 hk2 h9; exact absurd h9 (Nat.not_lt_zero _)
      | succ N9 ih24 =>
        intro k F2 hk hm2 hk2 hN24
        refine z_iload_n C dX3_trip_24 rfl 3 rfl ?_
        obtain ⟨⟨hLm_2, hLc0_2, hLc1_2, hLc2_2, hLc3_2, hLc4_2, hLc5_2, hLc6_2⟩, ⟨hFm_2, hFc0_2, hFc1_2, hFc2_2, hFc3_2, hFc4_2, hFc5_2, hFc6_2⟩, hNc, hGg_2, ⟨hn_2, hnow_2, hsl_2, hthr_2⟩⟩ := id hm2
        have hlt9 : k < n ∨ n = k := by omega
        refine z_aload_n C dX3_trip_25 rfl 0 rfl ?_
        refine z_get (ref := "ShedwheelModel") (v := .int (nI n)) C hin_X3_trip_X3 hLm_2 hFm_2 rfl 7 (by decide) (by decide +kernel) (fun _ h9 => h9) rfl dX3_trip_26 ?_
        refine z_icmp_ge C 72 (((n : Nat) : Int) ≤ ((k : Nat) : Int)) (zi_le (zi_N (n := n) (by omega)) (zi_N (n := k) (by omega))) dX3_trip_29 (by decide) (fun c13_ => ?_) (fun c13_ => ?_)
        · -- 29 taken
          refine z_iload_n C dX3_trip_72 rfl 2 rfl ?_
          refine z_iret0 C rfl rfl (by decide) (by decide) dX3_trip_73 ?_
          obtain rfl : n = k := by omega
          exact ⟨_, rfl, rfl, hk2, Or.inl ⟨st, hvst, hst1, hst2, rfl, hm2⟩⟩
        · -- 29 not taken
          have hlt : k < n := by omega
          have hOk := hGg.1 k hlt
          obtain ⟨u1, u2, u3, u4, u5, u6, u7, u8⟩ := id hOk
          have hsi := zi_N (n := fSg (g k)) (by omega)
          refine z_iload_n C dX3_trip_32 rfl 2 rfl ?_
          refine z_aload_n C dX3_trip_33 rfl 0 rfl ?_
          refine z_iload_n C dX3_trip_34 rfl 3 rfl ?_
          refine z_callV (As := [.int (nI k)]) (st := [.int (nI (smV (fun i => trT st (g i)) k))]) (mc := 0) (ms := 0) C hLm_2 hFm_2 rfl (c_X3_isFree l hlst G L F2 m0 c0 c1 c2 c3 c4 c5 c6 n now sl 0 ((fdK (fun _ r => trG st r) g k)) hm2 k (by omega)) (cwV 1 C.1.2.2.2.2 gX3_trip_X3_isFree rfl rfl rfl (by decide +kernel) ⟨Nat.le_of_ble_eq_true rfl, Nat.le_of_ble_eq_true rfl⟩) rfl (Nat.le_of_ble_eq_true rfl) ⟨Nat.le_of_ble_eq_true rfl, Nat.le_of_ble_eq_true rfl⟩ dX3_trip_35 (z_p ?_)
          refine z_stk (st' := [.int (nI (if fOf ((fdK (fun _ r => trG st r) g k) k) = 0 ∧ fCr ((fdK (fun _ r => trG st r) g k) k) = 0 then 1 else 0)), .int (nI (smV (fun i => trT st (g i)) k))]) rfl ?_
          refine z_stk (st' := [.int (nI (if fOf (g k) = 0 ∧ fCr (g k) = 0 then 1 else 0)), .int (nI (smV (fun i => trT st (g i)) k))]) (by rw [fdK_at]) ?_
          refine z_if_eq C 63 (¬ (fOf (g k) = 0 ∧ fCr (g k) = 0)) (zif_iff) dX3_trip_38 (by decide) (fun c14_ => ?_) (fun c14_ => ?_)
          · -- 38 taken
            refine z_iconst C (nI 0) dX3_trip_63 (by decide) ?_
            refine z_iadd C (nI (smV (fun i => trT st (g i)) k + 0)) dX3_trip_64 (nI_add (smV (fun i => trT st (g i)) k) 0) ?_
            refine z_istore_n (lv' := [(2, .int (nI (smV (fun i => trT st (g i)) k + 0))), (0, .ref m0), (1, .int (nI st)), (3, .int (nI k))]) C dX3_trip_65 rfl (by decide) rfl ?_
            refine z_iinc (v := nI (k + 1)) (lv' := [(3, .int (nI (k + 1))), (2, .int (nI (smV (fun i => trT st (g i)) k + 0))), (0, .ref m0), (1, .int (nI st))]) C dX3_trip_66 3 rfl (nI_add k 1) (by decide) rfl ?_
            refine z_goto C 24 dX3_trip_69 (by decide) ?_
            refine z_lvs (lv' := [(3, .int (nI (k + 1))), (2, .int (nI (smV (fun i => trT st (g i)) (k + 1)))), (0, .ref m0), (1, .int (nI st))]) (by rw [smV_s, show trT st (g k) = 0 from by rw [trT, if_neg (by omega)]]) ?_
            have hmo9 := hm2
            rw [fdK_n (fun _ r => trG st r) g k (by show trG st (g k) = g k; rw [trG, if_neg (by omega)])] at hmo9
            refine z_sub (lv' := [(0, .ref m0), (1, .int (nI st)), (2, .int (nI (smV (fun i => trT st (g i)) (k + 1)))), (3, .int (nI (k + 1)))]) [2, 3, 1, 0] rfl ?_
            exact ih24 (k + 1) F2 (by omega) hmo9 hk2 (by omega)
          · -- 38 not taken
            refine z_aload_n C dX3_trip_41 rfl 0 rfl ?_
            refine z_get (ref := "ShedwheelModel") (v := .ref c2) C hin_X3_trip_X3 hLm_2 hFm_2 rfl 2 (by decide) (by decide +kernel) (fun _ h9 => h9) rfl dX3_trip_42 ?_
            refine z_iload_n C dX3_trip_45 rfl 3 rfl ?_
            refine z_iald C hLc2_2 hFc2_2 (by omega) (by omega) dX3_trip_46 (nI (fSg (g k))) ((by show nI (fSg ((fdK (fun _ r => trG st r) g k) k)) = _; rw [fdK_at])) ?_
            refine z_iconst C (nI 1) dX3_trip_47 (by decide) ?_
            refine z_iload_n C dX3_trip_48 rfl 1 rfl ?_
            refine z_callS (As := [.int (nI (fSg (g k))), .int (nI 1), .int (nI st)]) (st := [.int (nI (smV (fun i => trT st (g i)) k))]) (mc := 0) (ms := 0) C (c_X3_in l hlst G L F2 (nI (fSg (g k))) (nI 1) (nI st) (((1 : Nat) : Int)) (((st : Nat) : Int)) (zi_N (n := 1) (by omega)) (zi_N (n := st) (by omega))) (va_cwS 3 C.1.2.2.2.2 gX3_trip_X3_in rfl rfl rfl (by decide +kernel) ⟨Nat.le_of_ble_eq_true rfl, Nat.le_of_ble_eq_true rfl⟩) rfl (Nat.le_of_ble_eq_true rfl) ⟨Nat.le_of_ble_eq_true rfl, Nat.le_of_ble_eq_true rfl⟩ dX3_trip_49 (z_p ?_)
            refine z_stk (st' := [.int (nI (if ((1 : Nat) : Int) ≤ ((nI (fSg (g k)))).toInt ∧ ((nI (fSg (g k)))).toInt ≤ ((st : Nat) : Int) then 1 else 0)), .int (nI (smV (fun i => trT st (g i)) k))]) rfl ?_
            refine z_if_eq C 63 (¬ (((1 : Nat) : Int) ≤ ((nI (fSg (g k)))).toInt ∧ ((nI (fSg (g k)))).toInt ≤ ((st : Nat) : Int))) (zif_iff) dX3_trip_52 (by decide) (fun c15_ => ?_) (fun c15_ => ?_)
            · -- 52 taken
              refine z_iconst C (nI 0) dX3_trip_63 (by decide) ?_
              refine z_iadd C (nI (smV (fun i => trT st (g i)) k + 0)) dX3_trip_64 (nI_add (smV (fun i => trT st (g i)) k) 0) ?_
              refine z_istore_n (lv' := [(2, .int (nI (smV (fun i => trT st (g i)) k + 0))), (0, .ref m0), (1, .int (nI st)), (3, .int (nI k))]) C dX3_trip_65 rfl (by decide) rfl ?_
              refine z_iinc (v := nI (k + 1)) (lv' := [(3, .int (nI (k + 1))), (2, .int (nI (smV (fun i => trT st (g i)) k + 0))), (0, .ref m0), (1, .int (nI st))]) C dX3_trip_66 3 rfl (nI_add k 1) (by decide) rfl ?_
              refine z_goto C 24 dX3_trip_69 (by decide) ?_
              refine z_lvs (lv' := [(3, .int (nI (k + 1))), (2, .int (nI (smV (fun i => trT st (g i)) (k + 1)))), (0, .ref m0), (1, .int (nI st))]) (by rw [smV_s, show trT st (g k) = 0 from by rw [trT, if_neg (by omega)]]) ?_
              have hmo9 := hm2
              rw [fdK_n (fun _ r => trG st r) g k (by show trG st (g k) = g k; rw [trG, if_neg (by omega)])] at hmo9
              refine z_sub (lv' := [(0, .ref m0), (1, .int (nI st)), (2, .int (nI (smV (fun i => trT st (g i)) (k + 1)))), (3, .int (nI (k + 1)))]) [2, 3, 1, 0] rfl ?_
              exact ih24 (k + 1) F2 (by omega) hmo9 hk2 (by omega)
            · -- 52 not taken
              refine z_aload_n C dX3_trip_55 rfl 0 rfl ?_
              refine z_iload_n C dX3_trip_56 rfl 3 rfl ?_
              refine z_callV (As := [.int (nI k)]) (st := [.int (nI (smV (fun i => trT st (g i)) k))]) (mc := 0) (ms := 0) C hLm_2 hFm_2 rfl (c_X3_cutOff l hlst G L F2 m0 c0 c1 c2 c3 c4 c5 c6 n now sl 0 ((fdK (fun _ r => trG st r) g k)) hm2 k (by omega)) (cwV 1 C.1.2.2.2.2 gX3_trip_X3_cutOff rfl rfl rfl (by decide +kernel) ⟨Nat.le_of_ble_eq_true rfl, Nat.le_of_ble_eq_true rfl⟩) rfl (Nat.le_of_ble_eq_true rfl) ⟨Nat.le_of_ble_eq_true rfl, Nat.le_of_ble_eq_true rfl⟩ dX3_trip_57 (fun rv9 L9 F9 hp9 => ?_)
              obtain ⟨e91, e92, hmo9, k9⟩ := hp9
              rw [e91, e92]
              refine z_stk (st' := [.int (nI (fTk ((fdK (fun _ r => trG st r) g k) k))), .int (nI (smV (fun i => trT st (g i)) k))]) rfl ?_
              rw [fdK_at] at hmo9
              refine z_stk (st' := [.int (nI (fTk (g k))), .int (nI (smV (fun i => trT st (g i)) k))]) (by rw [fdK_at]) ?_
              refine z_goto C 64 dX3_trip_60 (by decide) ?_
              refine z_iadd C (nI (smV (fun i => trT st (g i)) k + fTk (g k))) dX3_trip_64 (nI_add (smV (fun i => trT st (g i)) k) (fTk (g k))) ?_
              refine z_istore_n (lv' := [(2, .int (nI (smV (fun i => trT st (g i)) k + fTk (g k)))), (0, .ref m0), (1, .int (nI st)), (3, .int (nI k))]) C dX3_trip_65 rfl (by decide) rfl ?_
              refine z_iinc (v := nI (k + 1)) (lv' := [(3, .int (nI (k + 1))), (2, .int (nI (smV (fun i => trT st (g i)) k + fTk (g k)))), (0, .ref m0), (1, .int (nI st))]) C dX3_trip_66 3 rfl (nI_add k 1) (by decide) rfl ?_
              refine z_goto C 24 dX3_trip_69 (by decide) ?_
              refine z_lvs (lv' := [(3, .int (nI (k + 1))), (2, .int (nI (smV (fun i => trT st (g i)) (k + 1)))), (0, .ref m0), (1, .int (nI st))]) (by rw [smV_s, show trT st (g k) = fTk (g k) from by rw [trT, if_pos (by omega)]]) ?_
              rw [fdK_s (fun _ r => trG st r) g k (by show trG st (g k) = fOff (g k); rw [trG, if_pos (by omega)])] at hmo9
              refine z_sub (lv' := [(0, .ref m0), (1, .int (nI st)), (2, .int (nI (smV (fun i => trT st (g i)) (k + 1)))), (3, .int (nI (k + 1)))]) [2, 3, 1, 0] rfl ?_
              exact ih24 (k + 1) F9 (by omega) hmo9 (fun b q0 q1 q2 q3 q4 q5 q6 q7 => (k9 b q4 q6 q7).trans (hk2 b q0 q1 q2 q3 q4 q5 q6 q7)) (by omega)
    exact lp24 _ 0 F1_ (Nat.zero_le _) hmoA (fun b q0 q1 q2 q3 q4 q5 q6 q7 => kc11_ b q0) (Nat.lt_succ_self _)
  · -- 11 not taken
    refine z_aload_n C dX3_trip_14 rfl 0 rfl ?_
    refine z_iconst C (nI 1) dX3_trip_15 (by decide) ?_
    refine z_callV (As := [.int (nI 1)]) (st := []) (mc := 0) (ms := 0) C hLm h2_ rfl (c_X3_fails l hlst G L F1_ m0 c0 c1 c2 c3 c4 c5 c6 n now sl 0 g hmoT 1 (by decide)) (cwV 1 C.1.2.2.2.2 gX3_trip_X3_fails rfl rfl rfl (by decide +kernel) ⟨Nat.le_of_ble_eq_true rfl, Nat.le_of_ble_eq_true rfl⟩) rfl (Nat.le_of_ble_eq_true rfl) ⟨Nat.le_of_ble_eq_true rfl, Nat.le_of_ble_eq_true rfl⟩ dX3_trip_16 (fun rv9 L9 F9 hp9 => ?_)
    obtain ⟨e91, e92, hmo9, k9⟩ := hp9
    rw [e91, e92]
    refine z_stk (st' := [.int (nI 0)]) rfl ?_
    refine z_iret0 C rfl rfl (by decide) (by decide) dX3_trip_19 ?_
    exact ⟨_, rfl, rfl, fun b q0 q1 q2 q3 q4 q5 q6 q7 => (k9 b q0).trans (kc11_ b q0), Or.inr ⟨(fun h9 => (by obtain ⟨g1, g2⟩ := h9; omega)), hmo9⟩⟩

set_option maxRecDepth 100000 in
theorem hin_X3_feeder_X3 : ∀ w ∈ u_ws RX3 TX3 11, w ∈ wsX3_feeder := by decide +kernel
set_option maxHeartbeats 4000000 in
set_option maxRecDepth 100000 in
theorem c_X3_feeder (l : Launch) (hlst : l.stackTraces = false) (G : zGt) (L : List Nat) (F : Nat → va_E) (m0 c0 c1 c2 c3 c4 c5 c6 : Nat) (n now sl thr : Nat) (g : Nat → FdT) (hmo : zMo G L F m0 c0 c1 c2 c3 c4 c5 c6 n now sl thr g) (v1 v3 : Int32) (c9 : Nat) (hc9 : c9 ≤ 1) : zM l yX3_feeder wsX3_feeder 2 46 0 0 G L F [.ref m0, .int v1, .int (nI c9), .int v3] (fun rv L1 F1 => ∃ r : Int32, rv = some (.int r) ∧ L1 = L ∧ (∀ b, b ≠ m0 → b ≠ c0 → b ≠ c1 → b ≠ c2 → b ≠ c3 → b ≠ c4 → b ≠ c5 → b ≠ c6 → F1 b = F b) ∧ ((∃ j1 j3 : Nat, v1 = nI j1 ∧ 1 ≤ j1 ∧ j1 ≤ 999 ∧ v3 = nI j3 ∧ j3 ≤ 3 ∧ n < 12 ∧ r = nI n ∧ zMo G L F1 m0 c0 c1 c2 c3 c4 c5 c6 ((n + 1)) now sl 0 ((upF g n (j3, j1, c9, 0, 0, 0, 0)))) ∨ (¬ (zIn 1 999 v1 ∧ zIn 0 3 v3) ∧ zMo G L F1 m0 c0 c1 c2 c3 c4 c5 c6 n now sl 1 g) ∨ (zIn 1 999 v1 ∧ zIn 0 3 v3 ∧ n = 12 ∧ zMo G L F1 m0 c0 c1 c2 c3 c4 c5 c6 n now sl 2 g))) := by
  obtain ⟨⟨hLm, hLc0, hLc1, hLc2, hLc3, hLc4, hLc5, hLc6⟩, ⟨hFm, hFc0, hFc1, hFc2, hFc3, hFc4, hFc5, hFc6⟩, hNc, hGg, ⟨hn, hnow, hsl, hthr⟩⟩ := id hmo
  refine z_of (cc := cX3_feeder) (nL := 4) (ret := (some .int)) (own := RX3) hlst (by decide +kernel) rfl rfl (Nat.le_of_ble_eq_true rfl) ?_
  intro p e s m below meth c A hnm C
  refine z_lvs (lv' := [(0, .ref m0), (1, .int v1), (2, .int (nI c9)), (3, .int v3)]) rfl ?_
  refine z_aload_n C dX3_feeder_0 rfl 0 rfl ?_
  refine z_iconst C (nI 0) dX3_feeder_1 (by decide) ?_
  refine z_put (ref := "ShedwheelModel") (v := .int (nI 0)) (fs' := [.ref c0, .ref c1, .ref c2, .ref c3, .ref c4, .ref c5, .ref c6, .int (nI n), .int (nI sl), .int (nI now), .int (nI 0)]) C hin_X3_feeder_X3 tyX3 tyX3_ok nmX3 hLm hFm rfl 10 (by decide) (by decide +kernel) (fun _ h9 => h9) rfl rfl rfl (Nat.le_of_ble_eq_true rfl) rfl dX3_feeder_2 (fun F1_ h2_ k3_ => ?_)
  have h4_ : F1_ c0 = .inl (G.2.1, 12, .inl (fun i9 => nI (fMw (g i9)))) := (k3_ c0 (zne hFc0 hFm rfl)).trans hFc0
  have h5_ : F1_ c1 = .inl (G.2.1, 12, .inl (fun i9 => nI (fCr (g i9)))) := (k3_ c1 (zne hFc1 hFm rfl)).trans hFc1
  have h6_ : F1_ c2 = .inl (G.2.1, 12, .inl (fun i9 => nI (fSg (g i9)))) := (k3_ c2 (zne hFc2 hFm rfl)).trans hFc2
  have h7_ : F1_ c3 = .inl (G.2.1, 12, .inl (fun i9 => nI (fOf (g i9)))) := (k3_ c3 (zne hFc3 hFm rfl)).trans hFc3
  have h8_ : F1_ c4 = .inl (G.2.1, 12, .inl (fun i9 => nI (fHo (g i9)))) := (k3_ c4 (zne hFc4 hFm rfl)).trans hFc4
  have h9_ : F1_ c5 = .inl (G.2.1, 12, .inl (fun i9 => nI (fTh (g i9)))) := (k3_ c5 (zne hFc5 hFm rfl)).trans hFc5
  have h10_ : F1_ c6 = .inl (G.2.1, 12, .inl (fun i9 => nI (fCo (g i9)))) := (k3_ c6 (zne hFc6 hFm rfl)).trans hFc6
  have kc11_ : ∀ b, b ≠ m0 → F1_ b = F b := fun b q0 => k3_ b q0
  have hmoT : zMo G L F1_ m0 c0 c1 c2 c3 c4 c5 c6 n now sl 0 g := ⟨⟨hLm, hLc0, hLc1, hLc2, hLc3, hLc4, hLc5, hLc6⟩, ⟨h2_, h4_, h5_, h6_, h7_, h8_, h9_, h10_⟩, hNc, hGg, ⟨hn, hnow, hsl, by omega⟩⟩
  refine z_iload_n C dX3_feeder_5 rfl 1 rfl ?_
  refine z_iconst C (nI 1) dX3_feeder_6 (by decide) ?_
  refine z_sipush C (nI 999) dX3_feeder_7 (by decide) ?_
  refine z_callS (As := [.int v1, .int (nI 1), .int (nI 999)]) (st := []) (mc := 0) (ms := 0) C (c_X3_in l hlst G L F1_ v1 (nI 1) (nI 999) (((1 : Nat) : Int)) (((999 : Nat) : Int)) (zi_N (n := 1) (by omega)) (zi_N (n := 999) (by omega))) (va_cwS 3 C.1.2.2.2.2 gX3_feeder_X3_in rfl rfl rfl (by decide +kernel) ⟨Nat.le_of_ble_eq_true rfl, Nat.le_of_ble_eq_true rfl⟩) rfl (Nat.le_of_ble_eq_true rfl) ⟨Nat.le_of_ble_eq_true rfl, Nat.le_of_ble_eq_true rfl⟩ dX3_feeder_10 (z_p ?_)
  refine z_stk (st' := [.int (nI (if ((1 : Nat) : Int) ≤ (v1).toInt ∧ (v1).toInt ≤ ((999 : Nat) : Int) then 1 else 0))]) rfl ?_
  refine z_if_eq C 25 (¬ (((1 : Nat) : Int) ≤ (v1).toInt ∧ (v1).toInt ≤ ((999 : Nat) : Int))) (zif_iff) dX3_feeder_13 (by decide) (fun c12_ => ?_) (fun c12_ => ?_)
  · -- 13 taken
    refine z_aload_n C dX3_feeder_25 rfl 0 rfl ?_
    refine z_iconst C (nI 1) dX3_feeder_26 (by decide) ?_
    refine z_callV (As := [.int (nI 1)]) (st := []) (mc := 0) (ms := 0) C hLm h2_ rfl (c_X3_fails l hlst G L F1_ m0 c0 c1 c2 c3 c4 c5 c6 n now sl 0 g hmoT 1 (by decide)) (cwV 1 C.1.2.2.2.2 gX3_feeder_X3_fails rfl rfl rfl (by decide +kernel) ⟨Nat.le_of_ble_eq_true rfl, Nat.le_of_ble_eq_true rfl⟩) rfl (Nat.le_of_ble_eq_true rfl) ⟨Nat.le_of_ble_eq_true rfl, Nat.le_of_ble_eq_true rfl⟩ dX3_feeder_27 (fun rv9 L9 F9 hp9 => ?_)
    obtain ⟨e91, e92, hmo9, k9⟩ := hp9
    rw [e91, e92]
    refine z_stk (st' := [.int (nI 0)]) rfl ?_
    refine z_iret0 C rfl rfl (by decide) (by decide) dX3_feeder_30 ?_
    exact ⟨_, rfl, rfl, fun b q0 q1 q2 q3 q4 q5 q6 q7 => (k9 b q0).trans (kc11_ b q0), Or.inr (Or.inl ⟨fun h9 => (by obtain ⟨⟨g1, g2⟩, g3, g4⟩ := h9; omega), hmo9⟩)⟩
  · -- 13 not taken
    refine z_iload_n C dX3_feeder_16 rfl 3 rfl ?_
    refine z_iconst C (nI 0) dX3_feeder_17 (by decide) ?_
    refine z_iconst C (nI 3) dX3_feeder_18 (by decide) ?_
    refine z_callS (As := [.int v3, .int (nI 0), .int (nI 3)]) (st := []) (mc := 0) (ms := 0) C (c_X3_in l hlst G L F1_ v3 (nI 0) (nI 3) (((0 : Nat) : Int)) (((3 : Nat) : Int)) (zi_N (n := 0) (by omega)) (zi_N (n := 3) (by omega))) (va_cwS 3 C.1.2.2.2.2 gX3_feeder_X3_in rfl rfl rfl (by decide +kernel) ⟨Nat.le_of_ble_eq_true rfl, Nat.le_of_ble_eq_true rfl⟩) rfl (Nat.le_of_ble_eq_true rfl) ⟨Nat.le_of_ble_eq_true rfl, Nat.le_of_ble_eq_true rfl⟩ dX3_feeder_19 (z_p ?_)
    refine z_stk (st' := [.int (nI (if ((0 : Nat) : Int) ≤ (v3).toInt ∧ (v3).toInt ≤ ((3 : Nat) : Int) then 1 else 0))]) rfl ?_
    refine z_if_ne C 31 (¬ (((0 : Nat) : Int) ≤ (v3).toInt ∧ (v3).toInt ≤ ((3 : Nat) : Int))) (zif_iff) dX3_feeder_22 (by decide) (fun c13_ => ?_) (fun c13_ => ?_)
    · -- 22 taken
      have hz1 : zIn 1 999 v1 := ⟨by omega, by omega⟩
      have hz3 : zIn 0 3 v3 := ⟨by omega, by omega⟩
      obtain ⟨j1, hvj1, hj11, hj12⟩ := zIn_of (lo := 1) (hi := 999) (v := v1) ⟨by omega, by omega⟩
      refine z_lvs (lv' := [(0, .ref m0), (1, .int (nI j1)), (2, .int (nI c9)), (3, .int v3)]) (by rw [hvj1]) ?_
      obtain ⟨j3, hvj3, hj31, hj32⟩ := zIn_of (lo := 0) (hi := 3) (v := v3) ⟨by omega, by omega⟩
      refine z_lvs (lv' := [(0, .ref m0), (1, .int (nI j1)), (2, .int (nI c9)), (3, .int (nI j3))]) (by rw [hvj3]) ?_
      refine z_aload_n C dX3_feeder_31 rfl 0 rfl ?_
      refine z_get (ref := "ShedwheelModel") (v := .int (nI n)) C hin_X3_feeder_X3 hLm h2_ rfl 7 (by decide) (by decide +kernel) (fun _ h9 => h9) rfl dX3_feeder_32 ?_
      refine z_bipush C (nI 12) dX3_feeder_35 (by decide) ?_
      refine z_icmp_ne C 46 (((n : Nat) : Int) = ((12 : Nat) : Int)) (zi_eq (zi_N (n := n) (by omega)) (zi_N (n := 12) (by omega))) dX3_feeder_37 (by decide) (fun c14_ => ?_) (fun c14_ => ?_)
      · -- 37 taken
        refine z_aload_n C dX3_feeder_46 rfl 0 rfl ?_
        refine z_get (ref := "ShedwheelModel") (v := .ref c0) C hin_X3_feeder_X3 hLm h2_ rfl 0 (by decide) (by decide +kernel) (fun _ h9 => h9) rfl dX3_feeder_47 ?_
        refine z_aload_n C dX3_feeder_50 rfl 0 rfl ?_
        refine z_get (ref := "ShedwheelModel") (v := .int (nI n)) C hin_X3_feeder_X3 hLm h2_ rfl 7 (by decide) (by decide +kernel) (fun _ h9 => h9) rfl dX3_feeder_51 ?_
        refine z_iload_n C dX3_feeder_54 rfl 1 rfl ?_
        refine z_iast C hLc0 h4_ (by omega) (by omega) dX3_feeder_55 (fun F15_ h16_ k17_ => ?_)
        have h18_ : F15_ m0 = .inr (4, [.ref c0, .ref c1, .ref c2, .ref c3, .ref c4, .ref c5, .ref c6, .int (nI n), .int (nI sl), .int (nI now), .int (nI 0)]) := (k17_ m0 (zne h2_ h4_ rfl)).trans h2_
        have h19_ : F15_ c1 = .inl (G.2.1, 12, .inl (fun i9 => nI (fCr (g i9)))) := (k17_ c1 (Ne.symm hNc.1.1)).trans h5_
        have h20_ : F15_ c2 = .inl (G.2.1, 12, .inl (fun i9 => nI (fSg (g i9)))) := (k17_ c2 (Ne.symm hNc.1.2.1)).trans h6_
        have h21_ : F15_ c3 = .inl (G.2.1, 12, .inl (fun i9 => nI (fOf (g i9)))) := (k17_ c3 (Ne.symm hNc.1.2.2.1)).trans h7_
        have h22_ : F15_ c4 = .inl (G.2.1, 12, .inl (fun i9 => nI (fHo (g i9)))) := (k17_ c4 (Ne.symm hNc.1.2.2.2.1)).trans h8_
        have h23_ : F15_ c5 = .inl (G.2.1, 12, .inl (fun i9 => nI (fTh (g i9)))) := (k17_ c5 (Ne.symm hNc.1.2.2.2.2.1)).trans h9_
        have h24_ : F15_ c6 = .inl (G.2.1, 12, .inl (fun i9 => nI (fCo (g i9)))) := (k17_ c6 (Ne.symm hNc.1.2.2.2.2.2)).trans h10_
        have kc25_ : ∀ b, b ≠ m0 → b ≠ c0 → F15_ b = F b := fun b q0 q1 => (k17_ b q1).trans (kc11_ b q0)
        refine z_aload_n C dX3_feeder_56 rfl 0 rfl ?_
        refine z_get (ref := "ShedwheelModel") (v := .ref c1) C hin_X3_feeder_X3 hLm h18_ rfl 1 (by decide) (by decide +kernel) (fun _ h9 => h9) rfl dX3_feeder_57 ?_
        refine z_aload_n C dX3_feeder_60 rfl 0 rfl ?_
        refine z_get (ref := "ShedwheelModel") (v := .int (nI n)) C hin_X3_feeder_X3 hLm h18_ rfl 7 (by decide) (by decide +kernel) (fun _ h9 => h9) rfl dX3_feeder_61 ?_
        refine z_iload_n C dX3_feeder_64 rfl 2 rfl ?_
        refine z_if_eq C 72 (((c9 : Nat) : Int) = (0 : Int)) (zi_eq (zi_N (n := c9) (by omega)) zi_0) dX3_feeder_65 (by decide) (fun c26_ => ?_) (fun c26_ => ?_)
        · -- 65 taken
          refine z_iconst C (nI 0) dX3_feeder_72 (by decide) ?_
          refine z_iast C hLc1 h19_ (by omega) (by omega) dX3_feeder_73 (fun F27_ h28_ k29_ => ?_)
          have h30_ : F27_ m0 = .inr (4, [.ref c0, .ref c1, .ref c2, .ref c3, .ref c4, .ref c5, .ref c6, .int (nI n), .int (nI sl), .int (nI now), .int (nI 0)]) := (k29_ m0 (zne h18_ h19_ rfl)).trans h18_
          have h31_ : F27_ c0 = .inl (G.2.1, 12, .inl (upd (fun i9 => nI (fMw (g i9))) n (nI j1))) := (k29_ c0 hNc.1.1).trans h16_
          have h32_ : F27_ c2 = .inl (G.2.1, 12, .inl (fun i9 => nI (fSg (g i9)))) := (k29_ c2 (Ne.symm hNc.2.1.1)).trans h20_
          have h33_ : F27_ c3 = .inl (G.2.1, 12, .inl (fun i9 => nI (fOf (g i9)))) := (k29_ c3 (Ne.symm hNc.2.1.2.1)).trans h21_
          have h34_ : F27_ c4 = .inl (G.2.1, 12, .inl (fun i9 => nI (fHo (g i9)))) := (k29_ c4 (Ne.symm hNc.2.1.2.2.1)).trans h22_
          have h35_ : F27_ c5 = .inl (G.2.1, 12, .inl (fun i9 => nI (fTh (g i9)))) := (k29_ c5 (Ne.symm hNc.2.1.2.2.2.1)).trans h23_
          have h36_ : F27_ c6 = .inl (G.2.1, 12, .inl (fun i9 => nI (fCo (g i9)))) := (k29_ c6 (Ne.symm hNc.2.1.2.2.2.2)).trans h24_
          have kc37_ : ∀ b, b ≠ m0 → b ≠ c0 → b ≠ c1 → F27_ b = F b := fun b q0 q1 q2 => (k29_ b q2).trans (kc25_ b q0 q1)
          refine z_aload_n C dX3_feeder_74 rfl 0 rfl ?_
          refine z_get (ref := "ShedwheelModel") (v := .ref c2) C hin_X3_feeder_X3 hLm h30_ rfl 2 (by decide) (by decide +kernel) (fun _ h9 => h9) rfl dX3_feeder_75 ?_
          refine z_aload_n C dX3_feeder_78 rfl 0 rfl ?_
          refine z_get (ref := "ShedwheelModel") (v := .int (nI n)) C hin_X3_feeder_X3 hLm h30_ rfl 7 (by decide) (by decide +kernel) (fun _ h9 => h9) rfl dX3_feeder_79 ?_
          refine z_iload_n C dX3_feeder_82 rfl 3 rfl ?_
          refine z_iast C hLc2 h32_ (by omega) (by omega) dX3_feeder_83 (fun F38_ h39_ k40_ => ?_)
          have h41_ : F38_ m0 = .inr (4, [.ref c0, .ref c1, .ref c2, .ref c3, .ref c4, .ref c5, .ref c6, .int (nI n), .int (nI sl), .int (nI now), .int (nI 0)]) := (k40_ m0 (zne h30_ h32_ rfl)).trans h30_
          have h42_ : F38_ c0 = .inl (G.2.1, 12, .inl (upd (fun i9 => nI (fMw (g i9))) n (nI j1))) := (k40_ c0 hNc.1.2.1).trans h31_
          have h43_ : F38_ c1 = .inl (G.2.1, 12, .inl (upd (fun i9 => nI (fCr (g i9))) n (nI 0))) := (k40_ c1 hNc.2.1.1).trans h28_
          have h44_ : F38_ c3 = .inl (G.2.1, 12, .inl (fun i9 => nI (fOf (g i9)))) := (k40_ c3 (Ne.symm hNc.2.2.1.1)).trans h33_
          have h45_ : F38_ c4 = .inl (G.2.1, 12, .inl (fun i9 => nI (fHo (g i9)))) := (k40_ c4 (Ne.symm hNc.2.2.1.2.1)).trans h34_
          have h46_ : F38_ c5 = .inl (G.2.1, 12, .inl (fun i9 => nI (fTh (g i9)))) := (k40_ c5 (Ne.symm hNc.2.2.1.2.2.1)).trans h35_
          have h47_ : F38_ c6 = .inl (G.2.1, 12, .inl (fun i9 => nI (fCo (g i9)))) := (k40_ c6 (Ne.symm hNc.2.2.1.2.2.2)).trans h36_
          have kc48_ : ∀ b, b ≠ m0 → b ≠ c0 → b ≠ c1 → b ≠ c2 → F38_ b = F b := fun b q0 q1 q2 q3 => (k40_ b q3).trans (kc37_ b q0 q1 q2)
          refine z_aload_n C dX3_feeder_84 rfl 0 rfl ?_
          refine z_dup C dX3_feeder_85 rfl ?_
          refine z_get (ref := "ShedwheelModel") (v := .int (nI n)) C hin_X3_feeder_X3 hLm h41_ rfl 7 (by decide) (by decide +kernel) (fun _ h9 => h9) rfl dX3_feeder_86 ?_
          refine z_iconst C (nI 1) dX3_feeder_89 (by decide) ?_
          refine z_iadd C (nI (n + 1)) dX3_feeder_90 (nI_add n 1) ?_
          refine z_put (ref := "ShedwheelModel") (v := .int (nI (n + 1))) (fs' := [.ref c0, .ref c1, .ref c2, .ref c3, .ref c4, .ref c5, .ref c6, .int (nI (n + 1)), .int (nI sl), .int (nI now), .int (nI 0)]) C hin_X3_feeder_X3 tyX3 tyX3_ok nmX3 hLm h41_ rfl 7 (by decide) (by decide +kernel) (fun _ h9 => h9) rfl rfl rfl (Nat.le_of_ble_eq_true rfl) rfl dX3_feeder_91 (fun F49_ h50_ k51_ => ?_)
          have h52_ : F49_ c0 = .inl (G.2.1, 12, .inl (upd (fun i9 => nI (fMw (g i9))) n (nI j1))) := (k51_ c0 (zne h42_ h41_ rfl)).trans h42_
          have h53_ : F49_ c1 = .inl (G.2.1, 12, .inl (upd (fun i9 => nI (fCr (g i9))) n (nI 0))) := (k51_ c1 (zne h43_ h41_ rfl)).trans h43_
          have h54_ : F49_ c2 = .inl (G.2.1, 12, .inl (upd (fun i9 => nI (fSg (g i9))) n (nI j3))) := (k51_ c2 (zne h39_ h41_ rfl)).trans h39_
          have h55_ : F49_ c3 = .inl (G.2.1, 12, .inl (fun i9 => nI (fOf (g i9)))) := (k51_ c3 (zne h44_ h41_ rfl)).trans h44_
          have h56_ : F49_ c4 = .inl (G.2.1, 12, .inl (fun i9 => nI (fHo (g i9)))) := (k51_ c4 (zne h45_ h41_ rfl)).trans h45_
          have h57_ : F49_ c5 = .inl (G.2.1, 12, .inl (fun i9 => nI (fTh (g i9)))) := (k51_ c5 (zne h46_ h41_ rfl)).trans h46_
          have h58_ : F49_ c6 = .inl (G.2.1, 12, .inl (fun i9 => nI (fCo (g i9)))) := (k51_ c6 (zne h47_ h41_ rfl)).trans h47_
          have kc59_ : ∀ b, b ≠ m0 → b ≠ c0 → b ≠ c1 → b ≠ c2 → F49_ b = F b := fun b q0 q1 q2 q3 => (k51_ b q0).trans (kc48_ b q0 q1 q2 q3)
          refine z_aload_n C dX3_feeder_94 rfl 0 rfl ?_
          refine z_get (ref := "ShedwheelModel") (v := .int (nI (n + 1))) C hin_X3_feeder_X3 hLm h50_ rfl 7 (by decide) (by decide +kernel) (fun _ h9 => h9) rfl dX3_feeder_95 ?_
          refine z_iconst C (nI 1) dX3_feeder_98 (by decide) ?_
          refine z_isub C (nI n) dX3_feeder_99 (pk_sub (a := n + 1) (b := 1) (by omega)) ?_
          refine z_iret0 C rfl rfl (by decide) (by decide) dX3_feeder_100 ?_
          obtain rfl : c9 = 0 := by omega
          have hmo2 : zMo G L F49_ m0 c0 c1 c2 c3 c4 c5 c6 (n + 1) now sl 0 (upF g n (j3, j1, 0, 0, 0, 0, 0)) := ⟨⟨hLm, hLc0, hLc1, hLc2, hLc3, hLc4, hLc5, hLc6⟩, ⟨h50_, (h52_).trans (by rw [show (upd (fun i9 => nI (fMw (g i9))) n (nI j1)) = (fun i9 => nI (fMw (upF g n (j3, j1, 0, 0, 0, 0, 0) i9))) from fl_upd (g := g) (k := n) (r := (j3, j1, 0, 0, 0, 0, 0)) fMw]), (h53_).trans (by rw [show (upd (fun i9 => nI (fCr (g i9))) n (nI 0)) = (fun i9 => nI (fCr (upF g n (j3, j1, 0, 0, 0, 0, 0) i9))) from fl_upd (g := g) (k := n) (r := (j3, j1, 0, 0, 0, 0, 0)) fCr]), (h54_).trans (by rw [show (upd (fun i9 => nI (fSg (g i9))) n (nI j3)) = (fun i9 => nI (fSg (upF g n (j3, j1, 0, 0, 0, 0, 0) i9))) from fl_upd (g := g) (k := n) (r := (j3, j1, 0, 0, 0, 0, 0)) fSg]), (h55_).trans (by rw [show (fun i9 => nI (fOf (g i9))) = (fun i9 => nI (fOf (upF g n (j3, j1, 0, 0, 0, 0, 0) i9))) from fl_same (g := g) (k := n) (r := (j3, j1, 0, 0, 0, 0, 0)) fOf (by rw [hGg.2 n (Nat.le_refl n)]; rfl)]), (h56_).trans (by rw [show (fun i9 => nI (fHo (g i9))) = (fun i9 => nI (fHo (upF g n (j3, j1, 0, 0, 0, 0, 0) i9))) from fl_same (g := g) (k := n) (r := (j3, j1, 0, 0, 0, 0, 0)) fHo (by rw [hGg.2 n (Nat.le_refl n)]; rfl)]), (h57_).trans (by rw [show (fun i9 => nI (fTh (g i9))) = (fun i9 => nI (fTh (upF g n (j3, j1, 0, 0, 0, 0, 0) i9))) from fl_same (g := g) (k := n) (r := (j3, j1, 0, 0, 0, 0, 0)) fTh (by rw [hGg.2 n (Nat.le_refl n)]; rfl)]), (h58_).trans (by rw [show (fun i9 => nI (fCo (g i9))) = (fun i9 => nI (fCo (upF g n (j3, j1, 0, 0, 0, 0, 0) i9))) from fl_same (g := g) (k := n) (r := (j3, j1, 0, 0, 0, 0, 0)) fCo (by rw [hGg.2 n (Nat.le_refl n)]; rfl)])⟩, hNc, hGg.grow ⟨hj32, hj11, hj12, Nat.le_of_ble_eq_true rfl, Nat.zero_le _, Nat.zero_le _, Nat.zero_le _, Nat.zero_le _⟩, ⟨by omega, hnow, hsl, by decide⟩⟩
          exact ⟨_, rfl, rfl, fun b q0 q1 q2 q3 q4 q5 q6 q7 => kc59_ b q0 q1 q2 q3, Or.inl ⟨j1, j3, hvj1, hj11, hj12, hvj3, hj32, by omega, rfl, hmo2⟩⟩
        · -- 65 not taken
          refine z_iconst C (nI 1) dX3_feeder_68 (by decide) ?_
          refine z_goto C 73 dX3_feeder_69 (by decide) ?_
          refine z_iast C hLc1 h19_ (by omega) (by omega) dX3_feeder_73 (fun F60_ h61_ k62_ => ?_)
          have h63_ : F60_ m0 = .inr (4, [.ref c0, .ref c1, .ref c2, .ref c3, .ref c4, .ref c5, .ref c6, .int (nI n), .int (nI sl), .int (nI now), .int (nI 0)]) := (k62_ m0 (zne h18_ h19_ rfl)).trans h18_
          have h64_ : F60_ c0 = .inl (G.2.1, 12, .inl (upd (fun i9 => nI (fMw (g i9))) n (nI j1))) := (k62_ c0 hNc.1.1).trans h16_
          have h65_ : F60_ c2 = .inl (G.2.1, 12, .inl (fun i9 => nI (fSg (g i9)))) := (k62_ c2 (Ne.symm hNc.2.1.1)).trans h20_
          have h66_ : F60_ c3 = .inl (G.2.1, 12, .inl (fun i9 => nI (fOf (g i9)))) := (k62_ c3 (Ne.symm hNc.2.1.2.1)).trans h21_
          have h67_ : F60_ c4 = .inl (G.2.1, 12, .inl (fun i9 => nI (fHo (g i9)))) := (k62_ c4 (Ne.symm hNc.2.1.2.2.1)).trans h22_
          have h68_ : F60_ c5 = .inl (G.2.1, 12, .inl (fun i9 => nI (fTh (g i9)))) := (k62_ c5 (Ne.symm hNc.2.1.2.2.2.1)).trans h23_
          have h69_ : F60_ c6 = .inl (G.2.1, 12, .inl (fun i9 => nI (fCo (g i9)))) := (k62_ c6 (Ne.symm hNc.2.1.2.2.2.2)).trans h24_
          have kc70_ : ∀ b, b ≠ m0 → b ≠ c0 → b ≠ c1 → F60_ b = F b := fun b q0 q1 q2 => (k62_ b q2).trans (kc25_ b q0 q1)
          refine z_aload_n C dX3_feeder_74 rfl 0 rfl ?_
          refine z_get (ref := "ShedwheelModel") (v := .ref c2) C hin_X3_feeder_X3 hLm h63_ rfl 2 (by decide) (by decide +kernel) (fun _ h9 => h9) rfl dX3_feeder_75 ?_
          refine z_aload_n C dX3_feeder_78 rfl 0 rfl ?_
          refine z_get (ref := "ShedwheelModel") (v := .int (nI n)) C hin_X3_feeder_X3 hLm h63_ rfl 7 (by decide) (by decide +kernel) (fun _ h9 => h9) rfl dX3_feeder_79 ?_
          refine z_iload_n C dX3_feeder_82 rfl 3 rfl ?_
          refine z_iast C hLc2 h65_ (by omega) (by omega) dX3_feeder_83 (fun F71_ h72_ k73_ => ?_)
          have h74_ : F71_ m0 = .inr (4, [.ref c0, .ref c1, .ref c2, .ref c3, .ref c4, .ref c5, .ref c6, .int (nI n), .int (nI sl), .int (nI now), .int (nI 0)]) := (k73_ m0 (zne h63_ h65_ rfl)).trans h63_
          have h75_ : F71_ c0 = .inl (G.2.1, 12, .inl (upd (fun i9 => nI (fMw (g i9))) n (nI j1))) := (k73_ c0 hNc.1.2.1).trans h64_
          have h76_ : F71_ c1 = .inl (G.2.1, 12, .inl (upd (fun i9 => nI (fCr (g i9))) n (nI 1))) := (k73_ c1 hNc.2.1.1).trans h61_
          have h77_ : F71_ c3 = .inl (G.2.1, 12, .inl (fun i9 => nI (fOf (g i9)))) := (k73_ c3 (Ne.symm hNc.2.2.1.1)).trans h66_
          have h78_ : F71_ c4 = .inl (G.2.1, 12, .inl (fun i9 => nI (fHo (g i9)))) := (k73_ c4 (Ne.symm hNc.2.2.1.2.1)).trans h67_
          have h79_ : F71_ c5 = .inl (G.2.1, 12, .inl (fun i9 => nI (fTh (g i9)))) := (k73_ c5 (Ne.symm hNc.2.2.1.2.2.1)).trans h68_
          have h80_ : F71_ c6 = .inl (G.2.1, 12, .inl (fun i9 => nI (fCo (g i9)))) := (k73_ c6 (Ne.symm hNc.2.2.1.2.2.2)).trans h69_
          have kc81_ : ∀ b, b ≠ m0 → b ≠ c0 → b ≠ c1 → b ≠ c2 → F71_ b = F b := fun b q0 q1 q2 q3 => (k73_ b q3).trans (kc70_ b q0 q1 q2)
          refine z_aload_n C dX3_feeder_84 rfl 0 rfl ?_
          refine z_dup C dX3_feeder_85 rfl ?_
          refine z_get (ref := "ShedwheelModel") (v := .int (nI n)) C hin_X3_feeder_X3 hLm h74_ rfl 7 (by decide) (by decide +kernel) (fun _ h9 => h9) rfl dX3_feeder_86 ?_
          refine z_iconst C (nI 1) dX3_feeder_89 (by decide) ?_
          refine z_iadd C (nI (n + 1)) dX3_feeder_90 (nI_add n 1) ?_
          refine z_put (ref := "ShedwheelModel") (v := .int (nI (n + 1))) (fs' := [.ref c0, .ref c1, .ref c2, .ref c3, .ref c4, .ref c5, .ref c6, .int (nI (n + 1)), .int (nI sl), .int (nI now), .int (nI 0)]) C hin_X3_feeder_X3 tyX3 tyX3_ok nmX3 hLm h74_ rfl 7 (by decide) (by decide +kernel) (fun _ h9 => h9) rfl rfl rfl (Nat.le_of_ble_eq_true rfl) rfl dX3_feeder_91 (fun F82_ h83_ k84_ => ?_)
          have h85_ : F82_ c0 = .inl (G.2.1, 12, .inl (upd (fun i9 => nI (fMw (g i9))) n (nI j1))) := (k84_ c0 (zne h75_ h74_ rfl)).trans h75_
          have h86_ : F82_ c1 = .inl (G.2.1, 12, .inl (upd (fun i9 => nI (fCr (g i9))) n (nI 1))) := (k84_ c1 (zne h76_ h74_ rfl)).trans h76_
          have h87_ : F82_ c2 = .inl (G.2.1, 12, .inl (upd (fun i9 => nI (fSg (g i9))) n (nI j3))) := (k84_ c2 (zne h72_ h74_ rfl)).trans h72_
          have h88_ : F82_ c3 = .inl (G.2.1, 12, .inl (fun i9 => nI (fOf (g i9)))) := (k84_ c3 (zne h77_ h74_ rfl)).trans h77_
          have h89_ : F82_ c4 = .inl (G.2.1, 12, .inl (fun i9 => nI (fHo (g i9)))) := (k84_ c4 (zne h78_ h74_ rfl)).trans h78_
          have h90_ : F82_ c5 = .inl (G.2.1, 12, .inl (fun i9 => nI (fTh (g i9)))) := (k84_ c5 (zne h79_ h74_ rfl)).trans h79_
          have h91_ : F82_ c6 = .inl (G.2.1, 12, .inl (fun i9 => nI (fCo (g i9)))) := (k84_ c6 (zne h80_ h74_ rfl)).trans h80_
          have kc92_ : ∀ b, b ≠ m0 → b ≠ c0 → b ≠ c1 → b ≠ c2 → F82_ b = F b := fun b q0 q1 q2 q3 => (k84_ b q0).trans (kc81_ b q0 q1 q2 q3)
          refine z_aload_n C dX3_feeder_94 rfl 0 rfl ?_
          refine z_get (ref := "ShedwheelModel") (v := .int (nI (n + 1))) C hin_X3_feeder_X3 hLm h83_ rfl 7 (by decide) (by decide +kernel) (fun _ h9 => h9) rfl dX3_feeder_95 ?_
          refine z_iconst C (nI 1) dX3_feeder_98 (by decide) ?_
          refine z_isub C (nI n) dX3_feeder_99 (pk_sub (a := n + 1) (b := 1) (by omega)) ?_
          refine z_iret0 C rfl rfl (by decide) (by decide) dX3_feeder_100 ?_
          obtain rfl : c9 = 1 := by omega
          have hmo2 : zMo G L F82_ m0 c0 c1 c2 c3 c4 c5 c6 (n + 1) now sl 0 (upF g n (j3, j1, 1, 0, 0, 0, 0)) := ⟨⟨hLm, hLc0, hLc1, hLc2, hLc3, hLc4, hLc5, hLc6⟩, ⟨h83_, (h85_).trans (by rw [show (upd (fun i9 => nI (fMw (g i9))) n (nI j1)) = (fun i9 => nI (fMw (upF g n (j3, j1, 1, 0, 0, 0, 0) i9))) from fl_upd (g := g) (k := n) (r := (j3, j1, 1, 0, 0, 0, 0)) fMw]), (h86_).trans (by rw [show (upd (fun i9 => nI (fCr (g i9))) n (nI 1)) = (fun i9 => nI (fCr (upF g n (j3, j1, 1, 0, 0, 0, 0) i9))) from fl_upd (g := g) (k := n) (r := (j3, j1, 1, 0, 0, 0, 0)) fCr]), (h87_).trans (by rw [show (upd (fun i9 => nI (fSg (g i9))) n (nI j3)) = (fun i9 => nI (fSg (upF g n (j3, j1, 1, 0, 0, 0, 0) i9))) from fl_upd (g := g) (k := n) (r := (j3, j1, 1, 0, 0, 0, 0)) fSg]), (h88_).trans (by rw [show (fun i9 => nI (fOf (g i9))) = (fun i9 => nI (fOf (upF g n (j3, j1, 1, 0, 0, 0, 0) i9))) from fl_same (g := g) (k := n) (r := (j3, j1, 1, 0, 0, 0, 0)) fOf (by rw [hGg.2 n (Nat.le_refl n)]; rfl)]), (h89_).trans (by rw [show (fun i9 => nI (fHo (g i9))) = (fun i9 => nI (fHo (upF g n (j3, j1, 1, 0, 0, 0, 0) i9))) from fl_same (g := g) (k := n) (r := (j3, j1, 1, 0, 0, 0, 0)) fHo (by rw [hGg.2 n (Nat.le_refl n)]; rfl)]), (h90_).trans (by rw [show (fun i9 => nI (fTh (g i9))) = (fun i9 => nI (fTh (upF g n (j3, j1, 1, 0, 0, 0, 0) i9))) from fl_same (g := g) (k := n) (r := (j3, j1, 1, 0, 0, 0, 0)) fTh (by rw [hGg.2 n (Nat.le_refl n)]; rfl)]), (h91_).trans (by rw [show (fun i9 => nI (fCo (g i9))) = (fun i9 => nI (fCo (upF g n (j3, j1, 1, 0, 0, 0, 0) i9))) from fl_same (g := g) (k := n) (r := (j3, j1, 1, 0, 0, 0, 0)) fCo (by rw [hGg.2 n (Nat.le_refl n)]; rfl)])⟩, hNc, hGg.grow ⟨hj32, hj11, hj12, Nat.le_of_ble_eq_true rfl, Nat.zero_le _, Nat.zero_le _, Nat.zero_le _, Nat.zero_le _⟩, ⟨by omega, hnow, hsl, by decide⟩⟩
          exact ⟨_, rfl, rfl, fun b q0 q1 q2 q3 q4 q5 q6 q7 => kc92_ b q0 q1 q2 q3, Or.inl ⟨j1, j3, hvj1, hj11, hj12, hvj3, hj32, by omega, rfl, hmo2⟩⟩
      · -- 37 not taken
        refine z_aload_n C dX3_feeder_40 rfl 0 rfl ?_
        refine z_iconst C (nI 2) dX3_feeder_41 (by decide) ?_
        refine z_callV (As := [.int (nI 2)]) (st := []) (mc := 0) (ms := 0) C hLm h2_ rfl (c_X3_fails l hlst G L F1_ m0 c0 c1 c2 c3 c4 c5 c6 n now sl 0 g hmoT 2 (by decide)) (cwV 1 C.1.2.2.2.2 gX3_feeder_X3_fails rfl rfl rfl (by decide +kernel) ⟨Nat.le_of_ble_eq_true rfl, Nat.le_of_ble_eq_true rfl⟩) rfl (Nat.le_of_ble_eq_true rfl) ⟨Nat.le_of_ble_eq_true rfl, Nat.le_of_ble_eq_true rfl⟩ dX3_feeder_42 (fun rv9 L9 F9 hp9 => ?_)
        obtain ⟨e91, e92, hmo9, k9⟩ := hp9
        rw [e91, e92]
        refine z_stk (st' := [.int (nI 0)]) rfl ?_
        refine z_iret0 C rfl rfl (by decide) (by decide) dX3_feeder_45 ?_
        exact ⟨_, rfl, rfl, fun b q0 q1 q2 q3 q4 q5 q6 q7 => (k9 b q0).trans (kc11_ b q0), Or.inr (Or.inr ⟨hz1, hz3, by omega, hmo9⟩)⟩
    · -- 22 not taken
      refine z_aload_n C dX3_feeder_25 rfl 0 rfl ?_
      refine z_iconst C (nI 1) dX3_feeder_26 (by decide) ?_
      refine z_callV (As := [.int (nI 1)]) (st := []) (mc := 0) (ms := 0) C hLm h2_ rfl (c_X3_fails l hlst G L F1_ m0 c0 c1 c2 c3 c4 c5 c6 n now sl 0 g hmoT 1 (by decide)) (cwV 1 C.1.2.2.2.2 gX3_feeder_X3_fails rfl rfl rfl (by decide +kernel) ⟨Nat.le_of_ble_eq_true rfl, Nat.le_of_ble_eq_true rfl⟩) rfl (Nat.le_of_ble_eq_true rfl) ⟨Nat.le_of_ble_eq_true rfl, Nat.le_of_ble_eq_true rfl⟩ dX3_feeder_27 (fun rv9 L9 F9 hp9 => ?_)
      obtain ⟨e91, e92, hmo9, k9⟩ := hp9
      rw [e91, e92]
      refine z_stk (st' := [.int (nI 0)]) rfl ?_
      refine z_iret0 C rfl rfl (by decide) (by decide) dX3_feeder_30 ?_
      exact ⟨_, rfl, rfl, fun b q0 q1 q2 q3 q4 q5 q6 q7 => (k9 b q0).trans (kc11_ b q0), Or.inr (Or.inl ⟨fun h9 => (by obtain ⟨⟨g1, g2⟩, g3, g4⟩ := h9; omega), hmo9⟩)⟩
