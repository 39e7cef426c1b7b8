set_option maxRecDepth 100000 in
theorem hin_X3_rotate_X3 : ∀ w ∈ u_ws RX3 TX3 11, w ∈ wsX3_rotate := by decide +kernel
set_option maxHeartbeats 4000000 in
set_option maxRecDepth 100000 in
theorem c_X3_rotate (l : Launch) (hlst : l.stackTraces = false) (G : zGt) (L : List Nat) (F : Nat → va_E) (m0 c0 c1 c2 c3 c4 c5 c6 : Nat) (n now sl thr : Nat) (g : Nat → FdT) (hmo : zMo G L F m0 c0 c1 c2 c3 c4 c5 c6 n now sl thr g)  : zM l yX3_rotate wsX3_rotate 5 112 0 0 G L F [.ref m0] (fun rv L1 F1 => ∃ r : Int32, rv = some (.int r) ∧ L1 = L ∧ (∀ b, b ≠ m0 → b ≠ c0 → b ≠ c1 → b ≠ c2 → b ≠ c3 → b ≠ c4 → b ≠ c5 → b ≠ c6 → F1 b = F b) ∧ ((smV (fun i => swT (g i)) n = 0 ∧ zMo G L F1 m0 c0 c1 c2 c3 c4 c5 c6 n now sl 1 g) ∨ (0 < smV (fun i => swT (g i)) n ∧ isB n g sl (smV (fun j => rtV (g j)) n) 0 ∧ zMo G L F1 m0 c0 c1 c2 c3 c4 c5 c6 n now sl 2 g) ∨ (∃ b : Nat, 0 < smV (fun i => swT (g i)) n ∧ isB n g sl (smV (fun j => rtV (g j)) n) b ∧ b ≠ 0 ∧ r = nI (smV (fun i => swT (g i)) n) ∧ zMo G L F1 m0 c0 c1 c2 c3 c4 c5 c6 n now sl 0 ((fdK (fun i r => bbG (ouV g n) i r) (fdK (fun i r => reG b i r) g n) n))))) := by
  obtain ⟨⟨hLm, hLc0, hLc1, hLc2, hLc3, hLc4, hLc5, hLc6⟩, ⟨hFm, hFc0, hFc1, hFc2, hFc3, hFc4, hFc5, hFc6⟩, hNc, hGg, ⟨hn, hnow, hsl, hthr⟩⟩ := id hmo
  refine z_of (cc := cX3_rotate) (nL := 6) (ret := (some .int)) (own := RX3) hlst (by decide +kernel) rfl rfl (Nat.le_of_ble_eq_true rfl) ?_
  intro p e s m below meth c A hnm C
  refine z_lvs (lv' := [(0, .ref m0)]) rfl ?_
  refine z_aload_n C dX3_rotate_0 rfl 0 rfl ?_
  refine z_iconst C (nI 0) dX3_rotate_1 (by decide) ?_
  refine z_put (ref := "ShedwheelModel") (v := .int (nI 0)) (fs' := [.ref c0, .ref c1, .ref c2, .ref c3, .ref c4, .ref c5, .ref c6, .int (nI n), .int (nI sl), .int (nI now), .int (nI 0)]) C hin_X3_rotate_X3 tyX3 tyX3_ok nmX3 hLm hFm rfl 10 (by decide) (by decide +kernel) (fun _ h9 => h9) rfl rfl rfl (Nat.le_of_ble_eq_true rfl) rfl dX3_rotate_2 (fun F1_ h2_ k3_ => ?_)
  have h4_ : F1_ c0 = .inl (G.2.1, 12, .inl (fun i9 => nI (fMw (g i9)))) := (k3_ c0 (zne hFc0 hFm rfl)).trans hFc0
  have h5_ : F1_ c1 = .inl (G.2.1, 12, .inl (fun i9 => nI (fCr (g i9)))) := (k3_ c1 (zne hFc1 hFm rfl)).trans hFc1
  have h6_ : F1_ c2 = .inl (G.2.1, 12, .inl (fun i9 => nI (fSg (g i9)))) := (k3_ c2 (zne hFc2 hFm rfl)).trans hFc2
  have h7_ : F1_ c3 = .inl (G.2.1, 12, .inl (fun i9 => nI (fOf (g i9)))) := (k3_ c3 (zne hFc3 hFm rfl)).trans hFc3
  have h8_ : F1_ c4 = .inl (G.2.1, 12, .inl (fun i9 => nI (fHo (g i9)))) := (k3_ c4 (zne hFc4 hFm rfl)).trans hFc4
  have h9_ : F1_ c5 = .inl (G.2.1, 12, .inl (fun i9 => nI (fTh (g i9)))) := (k3_ c5 (zne hFc5 hFm rfl)).trans hFc5
  have h10_ : F1_ c6 = .inl (G.2.1, 12, .inl (fun i9 => nI (fCo (g i9)))) := (k3_ c6 (zne hFc6 hFm rfl)).trans hFc6
  have kc11_ : ∀ b, b ≠ m0 → F1_ b = F b := fun b q0 => k3_ b q0
  have hmoT : zMo G L F1_ m0 c0 c1 c2 c3 c4 c5 c6 n now sl 0 g := ⟨⟨hLm, hLc0, hLc1, hLc2, hLc3, hLc4, hLc5, hLc6⟩, ⟨h2_, h4_, h5_, h6_, h7_, h8_, h9_, h10_⟩, hNc, hGg, ⟨hn, hnow, hsl, by omega⟩⟩
  refine z_iconst C (nI 0) dX3_rotate_5 (by decide) ?_
  refine z_istore_n (lv' := [(1, .int (nI 0)), (0, .ref m0)]) C dX3_rotate_6 rfl (by decide) rfl ?_
  refine z_iconst C (nI 0) dX3_rotate_7 (by decide) ?_
  refine z_istore_n (lv' := [(2, .int (nI 0)), (1, .int (nI 0)), (0, .ref m0)]) C dX3_rotate_8 rfl (by decide) rfl ?_
  refine z_iconst C (nI 0) dX3_rotate_9 (by decide) ?_
  refine z_istore_n (lv' := [(3, .int (nI 0)), (2, .int (nI 0)), (1, .int (nI 0)), (0, .ref m0)]) C dX3_rotate_10 rfl (by decide) rfl ?_
  refine z_iconst C (nI 0) dX3_rotate_11 (by decide) ?_
  refine z_istore (lv' := [(4, .int (nI 0)), (3, .int (nI 0)), (2, .int (nI 0)), (1, .int (nI 0)), (0, .ref m0)]) C dX3_rotate_12 (by decide) rfl ?_
  refine z_lvs (lv' := [(4, .int (nI 0)), (3, .int (nI (smV (fun i => swT (g i)) 0))), (2, .int (nI (smV (fun j => rtV (g j)) 0))), (1, .int (nI (ouV g 0))), (0, .ref m0)]) rfl ?_
  refine z_sub (lv' := [(0, .ref m0), (1, .int (nI (ouV g 0))), (2, .int (nI (smV (fun j => rtV (g j)) 0))), (3, .int (nI (smV (fun i => swT (g i)) 0))), (4, .int (nI 0))]) [4, 3, 2, 1, 0] rfl ?_
  have lp14 : ∀ (N9 : Nat) (k : Nat) (hk : k ≤ n) (h9 : n - k < N9), zW p l e { frames := 5, cells := 0, slots := 0, locals := 112 } s m [.ref m0].toArray below meth c 6 G A (MQ below (zQ G (fun rv L1 F1 => ∃ r : Int32, rv = some (.int r) ∧ L1 = L ∧ (∀ b, b ≠ m0 → b ≠ c0 → b ≠ c1 → b ≠ c2 → b ≠ c3 → b ≠ c4 → b ≠ c5 → b ≠ c6 → F1 b = F b) ∧ ((smV (fun i => swT (g i)) n = 0 ∧ zMo G L F1 m0 c0 c1 c2 c3 c4 c5 c6 n now sl 1 g) ∨ (0 < smV (fun i => swT (g i)) n ∧ isB n g sl (smV (fun j => rtV (g j)) n) 0 ∧ zMo G L F1 m0 c0 c1 c2 c3 c4 c5 c6 n now sl 2 g) ∨ (∃ b : Nat, 0 < smV (fun i => swT (g i)) n ∧ isB n g sl (smV (fun j => rtV (g j)) n) b ∧ b ≠ 0 ∧ r = nI (smV (fun i => swT (g i)) n) ∧ zMo G L F1 m0 c0 c1 c2 c3 c4 c5 c6 n now sl 0 ((fdK (fun i r => bbG (ouV g n) i r) (fdK (fun i r => reG b i r) g n) n))))) A) [.ref m0].toArray s 0 0 A) 0 0 L F1_ 14 [(0, .ref m0), (1, .int (nI (ouV g k))), (2, .int (nI (smV (fun j => rtV (g j)) k))), (3, .int (nI (smV (fun i => swT (g i)) k))), (4, .int (nI k))] [] := by
    intro N9
    induction N9 with
    | zero => intro k hk h9; exact absurd h9 (Nat.not_lt_zero _)
    | succ N9 ih14 =>
      intro k hk hN14
      refine z_iload C dX3_rotate_14 4 rfl ?_
      refine z_aload_n C dX3_rotate_16 rfl 0 rfl ?_
      refine z_get (ref := "ShedwheelModel") (v := .int (nI n)) C hin_X3_rotate_X3 hLm h2_ rfl 7 (by decide) (by decide +kernel) (fun _ h9 => h9) rfl dX3_rotate_17 ?_
      refine z_icmp_ge C 69 (((n : Nat) : Int) ≤ ((k : Nat) : Int)) (zi_le (zi_N (n := n) (by omega)) (zi_N (n := k) (by omega))) dX3_rotate_20 (by decide) (fun c12_ => ?_) (fun c12_ => ?_)
      · -- 20 taken
        obtain rfl : n = k := by omega
        have hsw : smV (fun i => swT (g i)) n ≤ n * 1 := smV_le (fun j _ => by show swT (g j) ≤ 1; unfold swT; split <;> omega)
        have hrt := rt_le hGg.1
        have hrs := rt_sw hGg.1
        have hou := ouV_lt g n
        have hpw : 2 ^ n ≤ 2 ^ 12 := Nat.pow_le_pow_right (by decide) hn
        rw [show (2 : Nat) ^ 12 = 4096 from rfl] at hpw
        refine z_iload_n C dX3_rotate_69 rfl 3 rfl ?_
        refine z_if_ne C 79 (((smV (fun i => swT (g i)) n : Nat) : Int) = (0 : Int)) (zi_eq (zi_N (n := smV (fun i => swT (g i)) n) (by omega)) zi_0) dX3_rotate_70 (by decide) (fun c13_ => ?_) (fun c13_ => ?_)
        · -- 70 taken
          refine z_aload_n C dX3_rotate_79 rfl 0 rfl ?_
          refine z_iload_n C dX3_rotate_80 rfl 2 rfl ?_
          refine z_callV (As := [.int (nI (smV (fun j => rtV (g j)) n))]) (st := []) (mc := 0) (ms := 0) C hLm h2_ rfl (c_X3_choose l hlst G L F1_ m0 c0 c1 c2 c3 c4 c5 c6 n now sl 0 g hmoT (smV (fun j => rtV (g j)) n) ⟨by omega, by omega⟩) (cwV 1 C.1.2.2.2.2 gX3_rotate_X3_choose rfl rfl rfl (by decide +kernel) ⟨Nat.le_of_ble_eq_true rfl, Nat.le_of_ble_eq_true rfl⟩) rfl (Nat.le_of_ble_eq_true rfl) ⟨Nat.le_of_ble_eq_true rfl, Nat.le_of_ble_eq_true rfl⟩ dX3_rotate_81 (fun rv9 L9 F9 hp9 => ?_)
          obtain ⟨sb, e91, hB, hsb, e92, e93⟩ := hp9
          rw [e91, e92, e93]
          refine z_stk (st' := [.int (nI sb)]) rfl ?_
          refine z_istore (lv' := [(4, .int (nI sb)), (0, .ref m0), (1, .int (nI (ouV g n))), (2, .int (nI (smV (fun j => rtV (g j)) n))), (3, .int (nI (smV (fun i => swT (g i)) n)))]) C dX3_rotate_84 (by decide) rfl ?_
          refine z_iload C dX3_rotate_86 0 rfl ?_
          refine z_if_ne C 97 (((sb : Nat) : Int) = (0 : Int)) (zi_eq (zi_N (n := sb) (by omega)) zi_0) dX3_rotate_88 (by decide) (fun c14_ => ?_) (fun c14_ => ?_)
          · -- 88 taken
            refine z_aload_n C dX3_rotate_97 rfl 1 rfl ?_
            refine z_iload C dX3_rotate_98 0 rfl ?_
            refine z_callV (As := [.int (nI sb)]) (st := []) (mc := 0) (ms := 0) C hLm h2_ rfl (c_X3_cutAll l hlst G L F1_ m0 c0 c1 c2 c3 c4 c5 c6 n now sl 0 g hmoT sb hsb) (cwV 1 C.1.2.2.2.2 gX3_rotate_X3_cutAll rfl rfl rfl (by decide +kernel) ⟨Nat.le_of_ble_eq_true rfl, Nat.le_of_ble_eq_true rfl⟩) rfl (Nat.le_of_ble_eq_true rfl) ⟨Nat.le_of_ble_eq_true rfl, Nat.le_of_ble_eq_true rfl⟩ dX3_rotate_100 (fun rv9 L9 F9 hp9 => ?_)
            obtain ⟨e91, e92, hmo9, k9⟩ := hp9
            rw [e91, e92]
            refine z_stk (st' := [.int (nI (smV (fun i => reT sb i (g i)) n))]) rfl ?_
            refine z_pop C dX3_rotate_103 rfl ?_
            refine z_iconst C (nI 0) dX3_rotate_104 (by decide) ?_
            refine z_istore (lv' := [(5, .int (nI 0)), (4, .int (nI sb)), (0, .ref m0), (1, .int (nI (ouV g n))), (2, .int (nI (smV (fun j => rtV (g j)) n))), (3, .int (nI (smV (fun i => swT (g i)) n)))]) C dX3_rotate_105 (by decide) rfl ?_
            refine z_sub (lv' := [(0, .ref m0), (1, .int (nI (ouV g n))), (3, .int (nI (smV (fun i => swT (g i)) n))), (5, .int (nI 0))]) [2, 3, 5, 0] rfl ?_
            have hmoA := hmo9
            rw [← fdK_0 (fun i r => bbG (ouV g n) i r) (fdK (fun i r => reG sb i r) g n)] at hmoA
            have lp107 : ∀ (N9 : Nat) (k : Nat) (F2 : Nat → va_E) (hk : k ≤ n) (hm2 : zMo G L F2 m0 c0 c1 c2 c3 c4 c5 c6 n now sl 0 ((fdK (fun i r => bbG (ouV g n) i r) (fdK (fun i r => reG sb i r) g n) k))) (hk2 : ∀ b, b ≠ m0 → b ≠ c0 → b ≠ c1 → b ≠ c2 → b ≠ c3 → b ≠ c4 → b ≠ c5 → b ≠ c6 → F2 b = F b) (h9 : n - k < N9), zW p l e { frames := 5, cells := 0, slots := 0, locals := 112 } s m [.ref m0].toArray below meth c 6 G A (MQ below (zQ G (fun rv L1 F1 => ∃ r : Int32, rv = some (.int r) ∧ L1 = L ∧ (∀ b, b ≠ m0 → b ≠ c0 → b ≠ c1 → b ≠ c2 → b ≠ c3 → b ≠ c4 → b ≠ c5 → b ≠ c6 → F1 b = F b) ∧ ((smV (fun i => swT (g i)) n = 0 ∧ zMo G L F1 m0 c0 c1 c2 c3 c4 c5 c6 n now sl 1 g) ∨ (0 < smV (fun i => swT (g i)) n ∧ isB n g sl (smV (fun j => rtV (g j)) n) 0 ∧ zMo G L F1 m0 c0 c1 c2 c3 c4 c5 c6 n now sl 2 g) ∨ (∃ b : Nat, 0 < smV (fun i => swT (g i)) n ∧ isB n g sl (smV (fun j => rtV (g j)) n) b ∧ b ≠ 0 ∧ r = nI (smV (fun i => swT (g i)) n) ∧ zMo G L F1 m0 c0 c1 c2 c3 c4 c5 c6 n now sl 0 ((fdK (fun i r => bbG (ouV g n) i r) (fdK (fun i r => reG b i r) g n) n))))) A) [.ref m0].toArray s 0 0 A) 0 0 L F2 107 [(0, .ref m0), (1, .int (nI (ouV g n))), (3, .int (nI (smV (fun i => swT (g i)) n))), (5, .int (nI k))] [] := by
              intro N9
              induction N9 with
              | zero => intro k F2 hk hm2 hk2 h9; exact absurd h9 (Nat.not_lt_zero _)
              | succ N9 ih107 =>
                intro k F2 hk hm2 hk2 hN107
                refine z_iload C dX3_rotate_107 3 rfl ?_
                obtain ⟨⟨hLm_2, hLc0_2, hLc1_2, hLc2_2, hLc3_2, hLc4_2, hLc5_2, hLc6_2⟩, ⟨hFm_2, hFc0_2, hFc1_2, hFc2_2, hFc3_2, hFc4_2, hFc5_2, hFc6_2⟩, hNc, hGg_2, ⟨hn_2, hnow_2, hsl_2, hthr_2⟩⟩ := id hm2
                have hlt9 : k < n ∨ n = k := by omega
                have hbv := bitV_le (ouV g n) k
                refine z_aload_n C dX3_rotate_109 rfl 0 rfl ?_
                refine z_get (ref := "ShedwheelModel") (v := .int (nI n)) C hin_X3_rotate_X3 hLm_2 hFm_2 rfl 7 (by decide) (by decide +kernel) (fun _ h9 => h9) rfl dX3_rotate_110 ?_
                refine z_icmp_ge C 138 (((n : Nat) : Int) ≤ ((k : Nat) : Int)) (zi_le (zi_N (n := n) (by omega)) (zi_N (n := k) (by omega))) dX3_rotate_113 (by decide) (fun c15_ => ?_) (fun c15_ => ?_)
                · -- 113 taken
                  refine z_iload_n C dX3_rotate_138 rfl 2 rfl ?_
                  refine z_iret0 C rfl rfl (by decide) (by decide) dX3_rotate_139 ?_
                  obtain rfl : n = k := by omega
                  exact ⟨_, rfl, rfl, hk2, Or.inr (Or.inr ⟨sb, by omega, hB, by omega, rfl, hm2⟩)⟩
                · -- 113 not taken
                  refine z_iload_n C dX3_rotate_116 rfl 1 rfl ?_
                  refine z_iload C dX3_rotate_117 3 rfl ?_
                  refine z_ishr C (nI (ouV g n / 2 ^ k)) dX3_rotate_119 (bit_of (by omega) (by omega)) ?_
                  refine z_iconst C (nI 1) dX3_rotate_120 (by decide) ?_
                  refine z_iand C (nI (bitV (ouV g n) k)) dX3_rotate_121 (bit_and k (by omega)) ?_
                  refine z_iconst C (nI 1) dX3_rotate_122 (by decide) ?_
                  refine z_icmp_ne C 132 (((bitV (ouV g n) k : Nat) : Int) = ((1 : Nat) : Int)) (zi_eq (zi_N (n := bitV (ouV g n) k) (by omega)) (zi_N (n := 1) (by omega))) dX3_rotate_123 (by decide) (fun c16_ => ?_) (fun c16_ => ?_)
                  · -- 123 taken
                    refine z_iinc (v := nI (k + 1)) (lv' := [(5, .int (nI (k + 1))), (0, .ref m0), (1, .int (nI (ouV g n))), (3, .int (nI (smV (fun i => swT (g i)) n)))]) C dX3_rotate_132 3 rfl (nI_add k 1) (by decide) rfl ?_
                    refine z_goto C 107 dX3_rotate_135 (by decide) ?_
                    have hmo9 := hm2
                    rw [fdK_n (fun i r => bbG (ouV g n) i r) (fdK (fun i r => reG sb i r) g n) k (by show bbG (ouV g n) k ((fdK (fun i r => reG sb i r) g n) k) = (fdK (fun i r => reG sb i r) g n) k; rw [bbG, if_neg (by omega)])] at hmo9
                    refine z_sub (lv' := [(0, .ref m0), (1, .int (nI (ouV g n))), (3, .int (nI (smV (fun i => swT (g i)) n))), (5, .int (nI (k + 1)))]) [1, 2, 3, 0] rfl ?_
                    exact ih107 (k + 1) F2 (by omega) hmo9 hk2 (by omega)
                  · -- 123 not taken
                    refine z_aload_n C dX3_rotate_126 rfl 0 rfl ?_
                    refine z_iload C dX3_rotate_127 3 rfl ?_
                    refine z_callV (As := [.int (nI k)]) (st := []) (mc := 0) (ms := 0) C hLm_2 hFm_2 rfl (c_X3_bringBack l hlst G L F2 m0 c0 c1 c2 c3 c4 c5 c6 n now sl 0 ((fdK (fun i r => bbG (ouV g n) i r) (fdK (fun i r => reG sb i r) g n) k)) hm2 k (by omega)) (cwV 1 C.1.2.2.2.2 gX3_rotate_X3_bringBack rfl rfl rfl (by decide +kernel) ⟨Nat.le_of_ble_eq_true rfl, Nat.le_of_ble_eq_true rfl⟩) rfl (Nat.le_of_ble_eq_true rfl) ⟨Nat.le_of_ble_eq_true rfl, Nat.le_of_ble_eq_true rfl⟩ dX3_rotate_129 (fun rv9 L9 F9 hp9 => ?_)
                    obtain ⟨e91, e92, hmo9, k9⟩ := hp9
                    rw [e91, e92]
                    refine z_stk (st' := []) rfl ?_
                    rw [fdK_at] at hmo9
                    refine z_iinc (v := nI (k + 1)) (lv' := [(5, .int (nI (k + 1))), (0, .ref m0), (1, .int (nI (ouV g n))), (3, .int (nI (smV (fun i => swT (g i)) n)))]) C dX3_rotate_132 3 rfl (nI_add k 1) (by decide) rfl ?_
                    refine z_goto C 107 dX3_rotate_135 (by decide) ?_
                    rw [fdK_s (fun i r => bbG (ouV g n) i r) (fdK (fun i r => reG sb i r) g n) k (by show bbG (ouV g n) k ((fdK (fun i r => reG sb i r) g n) k) = fBb ((fdK (fun i r => reG sb i r) g n) k); rw [bbG, if_pos (by omega)])] at hmo9
                    refine z_sub (lv' := [(0, .ref m0), (1, .int (nI (ouV g n))), (3, .int (nI (smV (fun i => swT (g i)) n))), (5, .int (nI (k + 1)))]) [1, 2, 3, 0] rfl ?_
                    exact ih107 (k + 1) F9 (by omega) hmo9 (fun b q0 q1 q2 q3 q4 q5 q6 q7 => (k9 b q4 q6 q7).trans (hk2 b q0 q1 q2 q3 q4 q5 q6 q7)) (by omega)
            exact lp107 _ 0 F9 (Nat.zero_le _) hmoA (fun b q0 q1 q2 q3 q4 q5 q6 q7 => (k9 b q4 q6 q7).trans (kc11_ b q0)) (Nat.lt_succ_self _)
          · -- 88 not taken
            refine z_aload_n C dX3_rotate_91 rfl 1 rfl ?_
            refine z_iconst C (nI 2) dX3_rotate_92 (by decide) ?_
            refine z_callV (As := [.int (nI 2)]) (st := []) (mc := 0) (ms := 0) C hLm h2_ rfl (c_X3_fails l hlst G L F1_ m0 c0 c1 c2 c3 c4 c5 c6 n now sl 0 g hmoT 2 (by decide)) (cwV 1 C.1.2.2.2.2 gX3_rotate_X3_fails rfl rfl rfl (by decide +kernel) ⟨Nat.le_of_ble_eq_true rfl, Nat.le_of_ble_eq_true rfl⟩) rfl (Nat.le_of_ble_eq_true rfl) ⟨Nat.le_of_ble_eq_true rfl, Nat.le_of_ble_eq_true rfl⟩ dX3_rotate_93 (fun rv9 L9 F9 hp9 => ?_)
            obtain ⟨e91, e92, hmo9, k9⟩ := hp9
            rw [e91, e92]
            refine z_stk (st' := [.int (nI 0)]) rfl ?_
            refine z_iret0 C rfl rfl (by decide) (by decide) dX3_rotate_96 ?_
            obtain rfl : sb = 0 := by omega
            exact ⟨_, rfl, rfl, fun b q0 q1 q2 q3 q4 q5 q6 q7 => (k9 b q0).trans (kc11_ b q0), Or.inr (Or.inl ⟨by omega, hB, hmo9⟩)⟩
        · -- 70 not taken
          refine z_aload_n C dX3_rotate_73 rfl 0 rfl ?_
          refine z_iconst C (nI 1) dX3_rotate_74 (by decide) ?_
          refine z_callV (As := [.int (nI 1)]) (st := []) (mc := 0) (ms := 0) C hLm h2_ rfl (c_X3_fails l hlst G L F1_ m0 c0 c1 c2 c3 c4 c5 c6 n now sl 0 g hmoT 1 (by decide)) (cwV 1 C.1.2.2.2.2 gX3_rotate_X3_fails rfl rfl rfl (by decide +kernel) ⟨Nat.le_of_ble_eq_true rfl, Nat.le_of_ble_eq_true rfl⟩) rfl (Nat.le_of_ble_eq_true rfl) ⟨Nat.le_of_ble_eq_true rfl, Nat.le_of_ble_eq_true rfl⟩ dX3_rotate_75 (fun rv9 L9 F9 hp9 => ?_)
          obtain ⟨e91, e92, hmo9, k9⟩ := hp9
          rw [e91, e92]
          refine z_stk (st' := [.int (nI 0)]) rfl ?_
          refine z_iret0 C rfl rfl (by decide) (by decide) dX3_rotate_78 ?_
          exact ⟨_, rfl, rfl, fun b q0 q1 q2 q3 q4 q5 q6 q7 => (k9 b q0).trans (kc11_ b q0), Or.inl ⟨by omega, hmo9⟩⟩
      · -- 20 not taken
        have hlt : k < n := by omega
        have hOk := hGg.1 k hlt
        obtain ⟨u1, u2, u3, u4, u5, u6, u7, u8⟩ := id hOk
        refine z_aload_n C dX3_rotate_23 rfl 0 rfl ?_
        refine z_get (ref := "ShedwheelModel") (v := .ref c3) C hin_X3_rotate_X3 hLm h2_ rfl 3 (by decide) (by decide +kernel) (fun _ h9 => h9) rfl dX3_rotate_24 ?_
        refine z_iload C dX3_rotate_27 4 rfl ?_
        refine z_iald C hLc3 h7_ (by omega) (by omega) dX3_rotate_29 (nI (fOf (g k))) (rfl) ?_
        refine z_iconst C (nI 1) dX3_rotate_30 (by decide) ?_
        refine z_icmp_ne C 63 (((fOf (g k) : Nat) : Int) = ((1 : Nat) : Int)) (zi_eq (zi_N (n := fOf (g k)) (by omega)) (zi_N (n := 1) (by omega))) dX3_rotate_31 (by decide) (fun c17_ => ?_) (fun c17_ => ?_)
        · -- 31 taken
          refine z_iinc (v := nI (k + 1)) (lv' := [(4, .int (nI (k + 1))), (0, .ref m0), (1, .int (nI (ouV g k))), (2, .int (nI (smV (fun j => rtV (g j)) k))), (3, .int (nI (smV (fun i => swT (g i)) k)))]) C dX3_rotate_63 4 rfl (nI_add k 1) (by decide) rfl ?_
          refine z_goto C 14 dX3_rotate_66 (by decide) ?_
          refine z_lvs (lv' := [(4, .int (nI (k + 1))), (0, .ref m0), (1, .int (nI (ouV g (k + 1)))), (2, .int (nI (smV (fun j => rtV (g j)) (k + 1)))), (3, .int (nI (smV (fun i => swT (g i)) (k + 1))))]) (by rw [show ouV g (k + 1) = ouV g k from by rw [ouV, if_neg (by omega)]; rfl, smV_s, smV_s, show rtV (g k) = 0 from by rw [rtV, if_neg (by omega)], show swT (g k) = 0 from by rw [swT, if_neg (by omega)]]; rfl) ?_
          refine z_sub (lv' := [(0, .ref m0), (1, .int (nI (ouV g (k + 1)))), (2, .int (nI (smV (fun j => rtV (g j)) (k + 1)))), (3, .int (nI (smV (fun i => swT (g i)) (k + 1)))), (4, .int (nI (k + 1)))]) [1, 2, 3, 4, 0] rfl ?_
          exact ih14 (k + 1) (by omega) (by omega)
        · -- 31 not taken
          refine z_aload_n C dX3_rotate_34 rfl 0 rfl ?_
          refine z_get (ref := "ShedwheelModel") (v := .ref c1) C hin_X3_rotate_X3 hLm h2_ rfl 1 (by decide) (by decide +kernel) (fun _ h9 => h9) rfl dX3_rotate_35 ?_
          refine z_iload C dX3_rotate_38 4 rfl ?_
          refine z_iald C hLc1 h5_ (by omega) (by omega) dX3_rotate_40 (nI (fCr (g k))) (rfl) ?_
          refine z_if_ne C 63 (((fCr (g k) : Nat) : Int) = (0 : Int)) (zi_eq (zi_N (n := fCr (g k)) (by omega)) zi_0) dX3_rotate_41 (by decide) (fun c18_ => ?_) (fun c18_ => ?_)
          · -- 41 taken
            refine z_iinc (v := nI (k + 1)) (lv' := [(4, .int (nI (k + 1))), (0, .ref m0), (1, .int (nI (ouV g k))), (2, .int (nI (smV (fun j => rtV (g j)) k))), (3, .int (nI (smV (fun i => swT (g i)) k)))]) C dX3_rotate_63 4 rfl (nI_add k 1) (by decide) rfl ?_
            refine z_goto C 14 dX3_rotate_66 (by decide) ?_
            refine z_lvs (lv' := [(4, .int (nI (k + 1))), (0, .ref m0), (1, .int (nI (ouV g (k + 1)))), (2, .int (nI (smV (fun j => rtV (g j)) (k + 1)))), (3, .int (nI (smV (fun i => swT (g i)) (k + 1))))]) (by rw [show ouV g (k + 1) = ouV g k from by rw [ouV, if_neg (by omega)]; rfl, smV_s, smV_s, show rtV (g k) = 0 from by rw [rtV, if_neg (by omega)], show swT (g k) = 0 from by rw [swT, if_neg (by omega)]]; rfl) ?_
            refine z_sub (lv' := [(0, .ref m0), (1, .int (nI (ouV g (k + 1)))), (2, .int (nI (smV (fun j => rtV (g j)) (k + 1)))), (3, .int (nI (smV (fun i => swT (g i)) (k + 1)))), (4, .int (nI (k + 1)))]) [1, 2, 3, 4, 0] rfl ?_
            exact ih14 (k + 1) (by omega) (by omega)
          · -- 41 not taken
            refine z_iload_n C dX3_rotate_44 rfl 1 rfl ?_
            refine z_iconst C (nI 1) dX3_rotate_45 (by decide) ?_
            refine z_iload C dX3_rotate_46 4 rfl ?_
            refine z_ishl C (nI (2 ^ k)) dX3_rotate_48 (shl1 (by omega)) ?_
            refine z_ior C (nI (ouV g k + 2 ^ k)) dX3_rotate_49 ((nI_or _ _).trans (congrArg nI (or_low (ouV_lt g k)))) ?_
            refine z_istore_n (lv' := [(1, .int (nI (ouV g k + 2 ^ k))), (0, .ref m0), (2, .int (nI (smV (fun j => rtV (g j)) k))), (3, .int (nI (smV (fun i => swT (g i)) k))), (4, .int (nI k))]) C dX3_rotate_50 rfl (by decide) rfl ?_
            refine z_iload_n C dX3_rotate_51 rfl 2 rfl ?_
            refine z_aload_n C dX3_rotate_52 rfl 1 rfl ?_
            refine z_iload C dX3_rotate_53 4 rfl ?_
            refine z_callV (As := [.int (nI k)]) (st := [.int (nI (smV (fun j => rtV (g j)) k))]) (mc := 0) (ms := 0) C hLm h2_ rfl (c_X3_restoredOf l hlst G L F1_ m0 c0 c1 c2 c3 c4 c5 c6 n now sl 0 g hmoT k (by omega)) (cwV 1 C.1.2.2.2.2 gX3_rotate_X3_restoredOf rfl rfl rfl (by decide +kernel) ⟨Nat.le_of_ble_eq_true rfl, Nat.le_of_ble_eq_true rfl⟩) rfl (Nat.le_of_ble_eq_true rfl) ⟨Nat.le_of_ble_eq_true rfl, Nat.le_of_ble_eq_true rfl⟩ dX3_rotate_55 (z_p ?_)
            refine z_stk (st' := [.int (nI (fRs (g k))), .int (nI (smV (fun j => rtV (g j)) k))]) rfl ?_
            refine z_iadd C (nI (smV (fun j => rtV (g j)) k + fRs (g k))) dX3_rotate_58 (nI_add (smV (fun j => rtV (g j)) k) (fRs (g k))) ?_
            refine z_istore_n (lv' := [(2, .int (nI (smV (fun j => rtV (g j)) k + fRs (g k)))), (1, .int (nI (ouV g k + 2 ^ k))), (0, .ref m0), (3, .int (nI (smV (fun i => swT (g i)) k))), (4, .int (nI k))]) C dX3_rotate_59 rfl (by decide) rfl ?_
            refine z_iinc (v := nI (smV (fun i => swT (g i)) k + 1)) (lv' := [(3, .int (nI (smV (fun i => swT (g i)) k + 1))), (2, .int (nI (smV (fun j => rtV (g j)) k + fRs (g k)))), (1, .int (nI (ouV g k + 2 ^ k))), (0, .ref m0), (4, .int (nI k))]) C dX3_rotate_60 3 rfl (nI_add (smV (fun i => swT (g i)) k) 1) (by decide) rfl ?_
            refine z_iinc (v := nI (k + 1)) (lv' := [(4, .int (nI (k + 1))), (3, .int (nI (smV (fun i => swT (g i)) k + 1))), (2, .int (nI (smV (fun j => rtV (g j)) k + fRs (g k)))), (1, .int (nI (ouV g k + 2 ^ k))), (0, .ref m0)]) C dX3_rotate_63 4 rfl (nI_add k 1) (by decide) rfl ?_
            refine z_goto C 14 dX3_rotate_66 (by decide) ?_
            refine z_lvs (lv' := [(4, .int (nI (k + 1))), (3, .int (nI (smV (fun i => swT (g i)) (k + 1)))), (2, .int (nI (smV (fun j => rtV (g j)) (k + 1)))), (1, .int (nI (ouV g (k + 1)))), (0, .ref m0)]) (by rw [show ouV g (k + 1) = ouV g k + 2 ^ k from by rw [ouV, if_pos (by omega)], smV_s, smV_s, show rtV (g k) = fRs (g k) from by rw [rtV, if_pos (by omega)], show swT (g k) = 1 from by rw [swT, if_pos (by omega)]]) ?_
            refine z_sub (lv' := [(0, .ref m0), (1, .int (nI (ouV g (k + 1)))), (2, .int (nI (smV (fun j => rtV (g j)) (k + 1)))), (3, .int (nI (smV (fun i => swT (g i)) (k + 1)))), (4, .int (nI (k + 1)))]) [4, 3, 2, 1, 0] rfl ?_
            exact ih14 (k + 1) (by omega) (by omega)
  exact lp14 _ 0 (Nat.zero_le _) (Nat.lt_succ_self _)

set_option maxRecDepth 100000 in
theorem hin_X3_init_X3 : ∀ w ∈ u_ws RX3 TX3 11, w ∈ wsX3_init := by decide +kernel
set_option maxHeartbeats 4000000 in
set_option maxRecDepth 100000 in
theorem c_X3_init (l : Launch) (hlst : l.stackTraces = false) (G : zGt) (L : List Nat) (F : Nat → va_E) (m0 : Nat) (hL0 : m0 ∈ L) (hF0 : F m0 = .inr (4, [.null, .null, .null, .null, .null, .null, .null, .int (nI 0), .int (nI 0), .int (nI 0), .int (nI 0)])) : zM l yX3_init wsX3_init 1 24 7 84 G L F [.ref m0] (fun rv L1 F1 => ∃ c0 c1 c2 c3 c4 c5 c6 : Nat, rv = none ∧ (∀ b, b ∈ L → b ∈ L1) ∧ (c0 ∉ L ∧ c1 ∉ L ∧ c2 ∉ L ∧ c3 ∉ L ∧ c4 ∉ L ∧ c5 ∉ L ∧ c6 ∉ L) ∧ zMo G L1 F1 m0 c0 c1 c2 c3 c4 c5 c6 0 0 0 0 (fun _ => z0F) ∧ ∀ b, b ∈ L → b ≠ m0 → F1 b = F b) := by
  refine z_of (cc := cX3_init) (nL := 1) (ret := none) (own := RX3) hlst (by decide +kernel) rfl rfl (Nat.le_of_ble_eq_true rfl) ?_
  intro p e s m below meth c A hnm C
  refine z_lvs (lv' := [(0, .ref m0)]) rfl ?_
  refine z_aload_n C dX3_init_0 rfl 0 rfl ?_
  refine z_obj (T9 := []) C (by decide +kernel) (by decide +kernel) (by decide +kernel) (Nat.le_of_ble_eq_true rfl) (Nat.le_of_ble_eq_true rfl) dX3_init_1 ?_
  refine z_aload_n C dX3_init_4 rfl 0 rfl ?_
  refine z_bipush C (nI 12) dX3_init_5 (by decide) ?_
  refine z_newI C (by decide) (by decide +kernel) (Nat.le_of_ble_eq_true rfl) (Nat.le_of_ble_eq_true rfl) dX3_init_7 (fun q1_ F2_ hq3_ h4_ k5_ => ?_)
  have hL6_ : m0 ∈ (L ++ [q1_]) := List.mem_append_left _ hL0
  have nq7_ : m0 ≠ q1_ := fun h9 => hq3_ (h9 ▸ hL0)
  have hL8_ : q1_ ∈ (L ++ [q1_]) := List.mem_append_right _ (List.mem_singleton.mpr rfl)
  have h9_ : F2_ m0 = .inr (4, [.null, .null, .null, .null, .null, .null, .null, .int (nI 0), .int (nI 0), .int (nI 0), .int (nI 0)]) := (k5_ m0 nq7_).trans hF0
  have kc10_ : ∀ b, b ≠ q1_ → F2_ b = F b := fun b q0 => k5_ b q0
  refine z_putF (ref := "ShedwheelModel") (v := .ref q1_) (fs' := [.ref q1_, .null, .null, .null, .null, .null, .null, .int (nI 0), .int (nI 0), .int (nI 0), .int (nI 0)]) C hin_X3_init_X3 tyX3 tyX3_ok nmX3 hL6_ h9_ rfl 0 (by decide) (by decide +kernel) (fun _ h9 => h9) rfl hnm rfl rfl rfl (Nat.le_of_ble_eq_true rfl) rfl dX3_init_9 (fun F11_ h12_ k13_ => ?_)
  have h14_ : F11_ q1_ = .inl (G.2.1, 12, .inl (fun _ => 0)) := (k13_ q1_ (Ne.symm nq7_)).trans h4_
  have kc15_ : ∀ b, b ≠ m0 → b ≠ q1_ → F11_ b = F b := fun b q0 q1 => (k13_ b q0).trans (kc10_ b q1)
  refine z_aload_n C dX3_init_12 rfl 0 rfl ?_
  refine z_bipush C (nI 12) dX3_init_13 (by decide) ?_
  refine z_newI C (by decide) (by decide +kernel) (Nat.le_of_ble_eq_true rfl) (Nat.le_of_ble_eq_true rfl) dX3_init_15 (fun q16_ F17_ hq18_ h19_ k20_ => ?_)
  have hL21_ : m0 ∈ ((L ++ [q1_]) ++ [q16_]) := List.mem_append_left _ hL6_
  have nq22_ : m0 ≠ q16_ := fun h9 => hq18_ (h9 ▸ hL6_)
  have hL23_ : q1_ ∈ ((L ++ [q1_]) ++ [q16_]) := List.mem_append_left _ hL8_
  have nq24_ : q1_ ≠ q16_ := fun h9 => hq18_ (h9 ▸ hL8_)
  have hL25_ : q16_ ∈ ((L ++ [q1_]) ++ [q16_]) := List.mem_append_right _ (List.mem_singleton.mpr rfl)
  have h26_ : F17_ m0 = .inr (4, [.ref q1_, .null, .null, .null, .null, .null, .null, .int (nI 0), .int (nI 0), .int (nI 0), .int (nI 0)]) := (k20_ m0 nq22_).trans h12_
  have h27_ : F17_ q1_ = .inl (G.2.1, 12, .inl (fun _ => 0)) := (k20_ q1_ nq24_).trans h14_
  have kc28_ : ∀ b, b ≠ m0 → b ≠ q1_ → b ≠ q16_ → F17_ b = F b := fun b q0 q1 q2 => (k20_ b q2).trans (kc15_ b q0 q1)
  refine z_putF (ref := "ShedwheelModel") (v := .ref q16_) (fs' := [.ref q1_, .ref q16_, .null, .null, .null, .null, .null, .int (nI 0), .int (nI 0), .int (nI 0), .int (nI 0)]) C hin_X3_init_X3 tyX3 tyX3_ok nmX3 hL21_ h26_ rfl 1 (by decide) (by decide +kernel) (fun _ h9 => h9) rfl hnm rfl rfl rfl (Nat.le_of_ble_eq_true rfl) rfl dX3_init_17 (fun F29_ h30_ k31_ => ?_)
  have h32_ : F29_ q1_ = .inl (G.2.1, 12, .inl (fun _ => 0)) := (k31_ q1_ (Ne.symm nq7_)).trans h27_
  have h33_ : F29_ q16_ = .inl (G.2.1, 12, .inl (fun _ => 0)) := (k31_ q16_ (Ne.symm nq22_)).trans h19_
  have kc34_ : ∀ b, b ≠ m0 → b ≠ q1_ → b ≠ q16_ → F29_ b = F b := fun b q0 q1 q2 => (k31_ b q0).trans (kc28_ b q0 q1 q2)
  refine z_aload_n C dX3_init_20 rfl 0 rfl ?_
  refine z_bipush C (nI 12) dX3_init_21 (by decide) ?_
  refine z_newI C (by decide) (by decide +kernel) (Nat.le_of_ble_eq_true rfl) (Nat.le_of_ble_eq_true rfl) dX3_init_23 (fun q35_ F36_ hq37_ h38_ k39_ => ?_)
  have hL40_ : m0 ∈ (((L ++ [q1_]) ++ [q16_]) ++ [q35_]) := List.mem_append_left _ hL21_
  have nq41_ : m0 ≠ q35_ := fun h9 => hq37_ (h9 ▸ hL21_)
  have hL42_ : q1_ ∈ (((L ++ [q1_]) ++ [q16_]) ++ [q35_]) := List.mem_append_left _ hL23_
  have nq43_ : q1_ ≠ q35_ := fun h9 => hq37_ (h9 ▸ hL23_)
  have hL44_ : q16_ ∈ (((L ++ [q1_]) ++ [q16_]) ++ [q35_]) := List.mem_append_left _ hL25_
  have nq45_ : q16_ ≠ q35_ := fun h9 => hq37_ (h9 ▸ hL25_)
  have hL46_ : q35_ ∈ (((L ++ [q1_]) ++ [q16_]) ++ [q35_]) := List.mem_append_right _ (List.mem_singleton.mpr rfl)
  have h47_ : F36_ m0 = .inr (4, [.ref q1_, .ref q16_, .null, .null, .null, .null, .null, .int (nI 0), .int (nI 0), .int (nI 0), .int (nI 0)]) := (k39_ m0 nq41_).trans h30_
  have h48_ : F36_ q1_ = .inl (G.2.1, 12, .inl (fun _ => 0)) := (k39_ q1_ nq43_).trans h32_
  have h49_ : F36_ q16_ = .inl (G.2.1, 12, .inl (fun _ => 0)) := (k39_ q16_ nq45_).trans h33_
  have kc50_ : ∀ b, b ≠ m0 → b ≠ q1_ → b ≠ q16_ → b ≠ q35_ → F36_ b = F b := fun b q0 q1 q2 q3 => (k39_ b q3).trans (kc34_ b q0 q1 q2)
  refine z_putF (ref := "ShedwheelModel") (v := .ref q35_) (fs' := [.ref q1_, .ref q16_, .ref q35_, .null, .null, .null, .null, .int (nI 0), .int (nI 0), .int (nI 0), .int (nI 0)]) C hin_X3_init_X3 tyX3 tyX3_ok nmX3 hL40_ h47_ rfl 2 (by decide) (by decide +kernel) (fun _ h9 => h9) rfl hnm rfl rfl rfl (Nat.le_of_ble_eq_true rfl) rfl dX3_init_25 (fun F51_ h52_ k53_ => ?_)
  have h54_ : F51_ q1_ = .inl (G.2.1, 12, .inl (fun _ => 0)) := (k53_ q1_ (Ne.symm nq7_)).trans h48_
  have h55_ : F51_ q16_ = .inl (G.2.1, 12, .inl (fun _ => 0)) := (k53_ q16_ (Ne.symm nq22_)).trans h49_
  have h56_ : F51_ q35_ = .inl (G.2.1, 12, .inl (fun _ => 0)) := (k53_ q35_ (Ne.symm nq41_)).trans h38_
  have kc57_ : ∀ b, b ≠ m0 → b ≠ q1_ → b ≠ q16_ → b ≠ q35_ → F51_ b = F b := fun b q0 q1 q2 q3 => (k53_ b q0).trans (kc50_ b q0 q1 q2 q3)
  refine z_aload_n C dX3_init_28 rfl 0 rfl ?_
  refine z_bipush C (nI 12) dX3_init_29 (by decide) ?_
  refine z_newI C (by decide) (by decide +kernel) (Nat.le_of_ble_eq_true rfl) (Nat.le_of_ble_eq_true rfl) dX3_init_31 (fun q58_ F59_ hq60_ h61_ k62_ => ?_)
  have hL63_ : m0 ∈ ((((L ++ [q1_]) ++ [q16_]) ++ [q35_]) ++ [q58_]) := List.mem_append_left _ hL40_
  have nq64_ : m0 ≠ q58_ := fun h9 => hq60_ (h9 ▸ hL40_)
  have hL65_ : q1_ ∈ ((((L ++ [q1_]) ++ [q16_]) ++ [q35_]) ++ [q58_]) := List.mem_append_left _ hL42_
  have nq66_ : q1_ ≠ q58_ := fun h9 => hq60_ (h9 ▸ hL42_)
  have hL67_ : q16_ ∈ ((((L ++ [q1_]) ++ [q16_]) ++ [q35_]) ++ [q58_]) := List.mem_append_left _ hL44_
  have nq68_ : q16_ ≠ q58_ := fun h9 => hq60_ (h9 ▸ hL44_)
  have hL69_ : q35_ ∈ ((((L ++ [q1_]) ++ [q16_]) ++ [q35_]) ++ [q58_]) := List.mem_append_left _ hL46_
  have nq70_ : q35_ ≠ q58_ := fun h9 => hq60_ (h9 ▸ hL46_)
  have hL71_ : q58_ ∈ ((((L ++ [q1_]) ++ [q16_]) ++ [q35_]) ++ [q58_]) := List.mem_append_right _ (List.mem_singleton.mpr rfl)
  have h72_ : F59_ m0 = .inr (4, [.ref q1_, .ref q16_, .ref q35_, .null, .null, .null, .null, .int (nI 0), .int (nI 0), .int (nI 0), .int (nI 0)]) := (k62_ m0 nq64_).trans h52_
  have h73_ : F59_ q1_ = .inl (G.2.1, 12, .inl (fun _ => 0)) := (k62_ q1_ nq66_).trans h54_
  have h74_ : F59_ q16_ = .inl (G.2.1, 12, .inl (fun _ => 0)) := (k62_ q16_ nq68_).trans h55_
  have h75_ : F59_ q35_ = .inl (G.2.1, 12, .inl (fun _ => 0)) := (k62_ q35_ nq70_).trans h56_
  have kc76_ : ∀ b, b ≠ m0 → b ≠ q1_ → b ≠ q16_ → b ≠ q35_ → b ≠ q58_ → F59_ b = F b := fun b q0 q1 q2 q3 q4 => (k62_ b q4).trans (kc57_ b q0 q1 q2 q3)
  refine z_putF (ref := "ShedwheelModel") (v := .ref q58_) (fs' := [.ref q1_, .ref q16_, .ref q35_, .ref q58_, .null, .null, .null, .int (nI 0), .int (nI 0), .int (nI 0), .int (nI 0)]) C hin_X3_init_X3 tyX3 tyX3_ok nmX3 hL63_ h72_ rfl 3 (by decide) (by decide +kernel) (fun _ h9 => h9) rfl hnm rfl rfl rfl (Nat.le_of_ble_eq_true rfl) rfl dX3_init_33 (fun F77_ h78_ k79_ => ?_)
  have h80_ : F77_ q1_ = .inl (G.2.1, 12, .inl (fun _ => 0)) := (k79_ q1_ (Ne.symm nq7_)).trans h73_
  have h81_ : F77_ q16_ = .inl (G.2.1, 12, .inl (fun _ => 0)) := (k79_ q16_ (Ne.symm nq22_)).trans h74_
  have h82_ : F77_ q35_ = .inl (G.2.1, 12, .inl (fun _ => 0)) := (k79_ q35_ (Ne.symm nq41_)).trans h75_
  have h83_ : F77_ q58_ = .inl (G.2.1, 12, .inl (fun _ => 0)) := (k79_ q58_ (Ne.symm nq64_)).trans h61_
  have kc84_ : ∀ b, b ≠ m0 → b ≠ q1_ → b ≠ q16_ → b ≠ q35_ → b ≠ q58_ → F77_ b = F b := fun b q0 q1 q2 q3 q4 => (k79_ b q0).trans (kc76_ b q0 q1 q2 q3 q4)
  refine z_aload_n C dX3_init_36 rfl 0 rfl ?_
  refine z_bipush C (nI 12) dX3_init_37 (by decide) ?_
  refine z_newI C (by decide) (by decide +kernel) (Nat.le_of_ble_eq_true rfl) (Nat.le_of_ble_eq_true rfl) dX3_init_39 (fun q85_ F86_ hq87_ h88_ k89_ => ?_)
  have hL90_ : m0 ∈ (((((L ++ [q1_]) ++ [q16_]) ++ [q35_]) ++ [q58_]) ++ [q85_]) := List.mem_append_left _ hL63_
  have nq91_ : m0 ≠ q85_ := fun h9 => hq87_ (h9 ▸ hL63_)
  have hL92_ : q1_ ∈ (((((L ++ [q1_]) ++ [q16_]) ++ [q35_]) ++ [q58_]) ++ [q85_]) := List.mem_append_left _ hL65_
  have nq93_ : q1_ ≠ q85_ := fun h9 => hq87_ (h9 ▸ hL65_)
  have hL94_ : q16_ ∈ (((((L ++ [q1_]) ++ [q16_]) ++ [q35_]) ++ [q58_]) ++ [q85_]) := List.mem_append_left _ hL67_
  have nq95_ : q16_ ≠ q85_ := fun h9 => hq87_ (h9 ▸ hL67_)
  have hL96_ : q35_ ∈ (((((L ++ [q1_]) ++ [q16_]) ++ [q35_]) ++ [q58_]) ++ [q85_]) := List.mem_append_left _ hL69_
  have nq97_ : q35_ ≠ q85_ := fun h9 => hq87_ (h9 ▸ hL69_)
  have hL98_ : q58_ ∈ (((((L ++ [q1_]) ++ [q16_]) ++ [q35_]) ++ [q58_]) ++ [q85_]) := List.mem_append_left _ hL71_
  have nq99_ : q58_ ≠ q85_ := fun h9 => hq87_ (h9 ▸ hL71_)
  have hL100_ : q85_ ∈ (((((L ++ [q1_]) ++ [q16_]) ++ [q35_]) ++ [q58_]) ++ [q85_]) := List.mem_append_right _ (List.mem_singleton.mpr rfl)
  have h101_ : F86_ m0 = .inr (4, [.ref q1_, .ref q16_, .ref q35_, .ref q58_, .null, .null, .null, .int (nI 0), .int (nI 0), .int (nI 0), .int (nI 0)]) := (k89_ m0 nq91_).trans h78_
  have h102_ : F86_ q1_ = .inl (G.2.1, 12, .inl (fun _ => 0)) := (k89_ q1_ nq93_).trans h80_
  have h103_ : F86_ q16_ = .inl (G.2.1, 12, .inl (fun _ => 0)) := (k89_ q16_ nq95_).trans h81_
  have h104_ : F86_ q35_ = .inl (G.2.1, 12, .inl (fun _ => 0)) := (k89_ q35_ nq97_).trans h82_
  have h105_ : F86_ q58_ = .inl (G.2.1, 12, .inl (fun _ => 0)) := (k89_ q58_ nq99_).trans h83_
  have kc106_ : ∀ b, b ≠ m0 → b ≠ q1_ → b ≠ q16_ → b ≠ q35_ → b ≠ q58_ → b ≠ q85_ → F86_ b = F b := fun b q0 q1 q2 q3 q4 q5 => (k89_ b q5).trans (kc84_ b q0 q1 q2 q3 q4)
  refine z_putF (ref := "ShedwheelModel") (v := .ref q85_) (fs' := [.ref q1_, .ref q16_, .ref q35_, .ref q58_, .ref q85_, .null, .null, .int (nI 0), .int (nI 0), .int (nI 0), .int (nI 0)]) C hin_X3_init_X3 tyX3 tyX3_ok nmX3 hL90_ h101_ rfl 4 (by decide) (by decide +kernel) (fun _ h9 => h9) rfl hnm rfl rfl rfl (Nat.le_of_ble_eq_true rfl) rfl dX3_init_41 (fun F107_ h108_ k109_ => ?_)
  have h110_ : F107_ q1_ = .inl (G.2.1, 12, .inl (fun _ => 0)) := (k109_ q1_ (Ne.symm nq7_)).trans h102_
  have h111_ : F107_ q16_ = .inl (G.2.1, 12, .inl (fun _ => 0)) := (k109_ q16_ (Ne.symm nq22_)).trans h103_
  have h112_ : F107_ q35_ = .inl (G.2.1, 12, .inl (fun _ => 0)) := (k109_ q35_ (Ne.symm nq41_)).trans h104_
  have h113_ : F107_ q58_ = .inl (G.2.1, 12, .inl (fun _ => 0)) := (k109_ q58_ (Ne.symm nq64_)).trans h105_
  have h114_ : F107_ q85_ = .inl (G.2.1, 12, .inl (fun _ => 0)) := (k109_ q85_ (Ne.symm nq91_)).trans h88_
  have kc115_ : ∀ b, b ≠ m0 → b ≠ q1_ → b ≠ q16_ → b ≠ q35_ → b ≠ q58_ → b ≠ q85_ → F107_ b = F b := fun b q0 q1 q2 q3 q4 q5 => (k109_ b q0).trans (kc106_ b q0 q1 q2 q3 q4 q5)
  refine z_aload_n C dX3_init_44 rfl 0 rfl ?_
  refine z_bipush C (nI 12) dX3_init_45 (by decide) ?_
  refine z_newI C (by decide) (by decide +kernel) (Nat.le_of_ble_eq_true rfl) (Nat.le_of_ble_eq_true rfl) dX3_init_47 (fun q116_ F117_ hq118_ h119_ k120_ => ?_)
  have hL121_ : m0 ∈ ((((((L ++ [q1_]) ++ [q16_]) ++ [q35_]) ++ [q58_]) ++ [q85_]) ++ [q116_]) := List.mem_append_left _ hL90_
  have nq122_ : m0 ≠ q116_ := fun h9 => hq118_ (h9 ▸ hL90_)
  have hL123_ : q1_ ∈ ((((((L ++ [q1_]) ++ [q16_]) ++ [q35_]) ++ [q58_]) ++ [q85_]) ++ [q116_]) := List.mem_append_left _ hL92_
  have nq124_ : q1_ ≠ q116_ := fun h9 => hq118_ (h9 ▸ hL92_)
  have hL125_ : q16_ ∈ ((((((L ++ [q1_]) ++ [q16_]) ++ [q35_]) ++ [q58_]) ++ [q85_]) ++ [q116_]) := List.mem_append_left _ hL94_
  have nq126_ : q16_ ≠ q116_ := fun h9 => hq118_ (h9 ▸ hL94_)
  have hL127_ : q35_ ∈ ((((((L ++ [q1_]) ++ [q16_]) ++ [q35_]) ++ [q58_]) ++ [q85_]) ++ [q116_]) := List.mem_append_left _ hL96_
  have nq128_ : q35_ ≠ q116_ := fun h9 => hq118_ (h9 ▸ hL96_)
  have hL129_ : q58_ ∈ ((((((L ++ [q1_]) ++ [q16_]) ++ [q35_]) ++ [q58_]) ++ [q85_]) ++ [q116_]) := List.mem_append_left _ hL98_
  have nq130_ : q58_ ≠ q116_ := fun h9 => hq118_ (h9 ▸ hL98_)
  have hL131_ : q85_ ∈ ((((((L ++ [q1_]) ++ [q16_]) ++ [q35_]) ++ [q58_]) ++ [q85_]) ++ [q116_]) := List.mem_append_left _ hL100_
  have nq132_ : q85_ ≠ q116_ := fun h9 => hq118_ (h9 ▸ hL100_)
  have hL133_ : q116_ ∈ ((((((L ++ [q1_]) ++ [q16_]) ++ [q35_]) ++ [q58_]) ++ [q85_]) ++ [q116_]) := List.mem_append_right _ (List.mem_singleton.mpr rfl)
  have h134_ : F117_ m0 = .inr (4, [.ref q1_, .ref q16_, .ref q35_, .ref q58_, .ref q85_, .null, .null, .int (nI 0), .int (nI 0), .int (nI 0), .int (nI 0)]) := (k120_ m0 nq122_).trans h108_
  have h135_ : F117_ q1_ = .inl (G.2.1, 12, .inl (fun _ => 0)) := (k120_ q1_ nq124_).trans h110_
  have h136_ : F117_ q16_ = .inl (G.2.1, 12, .inl (fun _ => 0)) := (k120_ q16_ nq126_).trans h111_
  have h137_ : F117_ q35_ = .inl (G.2.1, 12, .inl (fun _ => 0)) := (k120_ q35_ nq128_).trans h112_
  have h138_ : F117_ q58_ = .inl (G.2.1, 12, .inl (fun _ => 0)) := (k120_ q58_ nq130_).trans h113_
  have h139_ : F117_ q85_ = .inl (G.2.1, 12, .inl (fun _ => 0)) := (k120_ q85_ nq132_).trans h114_
  have kc140_ : ∀ b, b ≠ m0 → b ≠ q1_ → b ≠ q16_ → b ≠ q35_ → b ≠ q58_ → b ≠ q85_ → b ≠ q116_ → F117_ b = F b := fun b q0 q1 q2 q3 q4 q5 q6 => (k120_ b q6).trans (kc115_ b q0 q1 q2 q3 q4 q5)
  refine z_putF (ref := "ShedwheelModel") (v := .ref q116_) (fs' := [.ref q1_, .ref q16_, .ref q35_, .ref q58_, .ref q85_, .ref q116_, .null, .int (nI 0), .int (nI 0), .int (nI 0), .int (nI 0)]) C hin_X3_init_X3 tyX3 tyX3_ok nmX3 hL121_ h134_ rfl 5 (by decide) (by decide +kernel) (fun _ h9 => h9) rfl hnm rfl rfl rfl (Nat.le_of_ble_eq_true rfl) rfl dX3_init_49 (fun F141_ h142_ k143_ => ?_)
  have h144_ : F141_ q1_ = .inl (G.2.1, 12, .inl (fun _ => 0)) := (k143_ q1_ (Ne.symm nq7_)).trans h135_
  have h145_ : F141_ q16_ = .inl (G.2.1, 12, .inl (fun _ => 0)) := (k143_ q16_ (Ne.symm nq22_)).trans h136_
  have h146_ : F141_ q35_ = .inl (G.2.1, 12, .inl (fun _ => 0)) := (k143_ q35_ (Ne.symm nq41_)).trans h137_
  have h147_ : F141_ q58_ = .inl (G.2.1, 12, .inl (fun _ => 0)) := (k143_ q58_ (Ne.symm nq64_)).trans h138_
  have h148_ : F141_ q85_ = .inl (G.2.1, 12, .inl (fun _ => 0)) := (k143_ q85_ (Ne.symm nq91_)).trans h139_
  have h149_ : F141_ q116_ = .inl (G.2.1, 12, .inl (fun _ => 0)) := (k143_ q116_ (Ne.symm nq122_)).trans h119_
  have kc150_ : ∀ b, b ≠ m0 → b ≠ q1_ → b ≠ q16_ → b ≠ q35_ → b ≠ q58_ → b ≠ q85_ → b ≠ q116_ → F141_ b = F b := fun b q0 q1 q2 q3 q4 q5 q6 => (k143_ b q0).trans (kc140_ b q0 q1 q2 q3 q4 q5 q6)
  refine z_aload_n C dX3_init_52 rfl 0 rfl ?_
  refine z_bipush C (nI 12) dX3_init_53 (by decide) ?_
  refine z_newI C (by decide) (by decide +kernel) (Nat.le_of_ble_eq_true rfl) (Nat.le_of_ble_eq_true rfl) dX3_init_55 (fun q151_ F152_ hq153_ h154_ k155_ => ?_)
  have hL156_ : m0 ∈ (((((((L ++ [q1_]) ++ [q16_]) ++ [q35_]) ++ [q58_]) ++ [q85_]) ++ [q116_]) ++ [q151_]) := List.mem_append_left _ hL121_
  have nq157_ : m0 ≠ q151_ := fun h9 => hq153_ (h9 ▸ hL121_)
  have hL158_ : q1_ ∈ (((((((L ++ [q1_]) ++ [q16_]) ++ [q35_]) ++ [q58_]) ++ [q85_]) ++ [q116_]) ++ [q151_]) := List.mem_append_left _ hL123_
  have nq159_ : q1_ ≠ q151_ := fun h9 => hq153_ (h9 ▸ hL123_)
  have hL160_ : q16_ ∈ (((((((L ++ [q1_]) ++ [q16_]) ++ [q35_]) ++ [q58_]) ++ [q85_]) ++ [q116_]) ++ [q151_]) := List.mem_append_left _ hL125_
  have nq161_ : q16_ ≠ q151_ := fun h9 => hq153_ (h9 ▸ hL125_)
  have hL162_ : q35_ ∈ (((((((L ++ [q1_]) ++ [q16_]) ++ [q35_]) ++ [q58_]) ++ [q85_]) ++ [q116_]) ++ [q151_]) := List.mem_append_left _ hL127_
  have nq163_ : q35_ ≠ q151_ := fun h9 => hq153_ (h9 ▸ hL127_)
  have hL164_ : q58_ ∈ (((((((L ++ [q1_]) ++ [q16_]) ++ [q35_]) ++ [q58_]) ++ [q85_]) ++ [q116_]) ++ [q151_]) := List.mem_append_left _ hL129_
  have nq165_ : q58_ ≠ q151_ := fun h9 => hq153_ (h9 ▸ hL129_)
  have hL166_ : q85_ ∈ (((((((L ++ [q1_]) ++ [q16_]) ++ [q35_]) ++ [q58_]) ++ [q85_]) ++ [q116_]) ++ [q151_]) := List.mem_append_left _ hL131_
  have nq167_ : q85_ ≠ q151_ := fun h9 => hq153_ (h9 ▸ hL131_)
  have hL168_ : q116_ ∈ (((((((L ++ [q1_]) ++ [q16_]) ++ [q35_]) ++ [q58_]) ++ [q85_]) ++ [q116_]) ++ [q151_]) := List.mem_append_left _ hL133_
  have nq169_ : q116_ ≠ q151_ := fun h9 => hq153_ (h9 ▸ hL133_)
  have hL170_ : q151_ ∈ (((((((L ++ [q1_]) ++ [q16_]) ++ [q35_]) ++ [q58_]) ++ [q85_]) ++ [q116_]) ++ [q151_]) := List.mem_append_right _ (List.mem_singleton.mpr rfl)
  have h171_ : F152_ m0 = .inr (4, [.ref q1_, .ref q16_, .ref q35_, .ref q58_, .ref q85_, .ref q116_, .null, .int (nI 0), .int (nI 0), .int (nI 0), .int (nI 0)]) := (k155_ m0 nq157_).trans h142_
  have h172_ : F152_ q1_ = .inl (G.2.1, 12, .inl (fun _ => 0)) := (k155_ q1_ nq159_).trans h144_
  have h173_ : F152_ q16_ = .inl (G.2.1, 12, .inl (fun _ => 0)) := (k155_ q16_ nq161_).trans h145_
  have h174_ : F152_ q35_ = .inl (G.2.1, 12, .inl (fun _ => 0)) := (k155_ q35_ nq163_).trans h146_
  have h175_ : F152_ q58_ = .inl (G.2.1, 12, .inl (fun _ => 0)) := (k155_ q58_ nq165_).trans h147_
  have h176_ : F152_ q85_ = .inl (G.2.1, 12, .inl (fun _ => 0)) := (k155_ q85_ nq167_).trans h148_
  have h177_ : F152_ q116_ = .inl (G.2.1, 12, .inl (fun _ => 0)) := (k155_ q116_ nq169_).trans h149_
  have kc178_ : ∀ b, b ≠ m0 → b ≠ q1_ → b ≠ q16_ → b ≠ q35_ → b ≠ q58_ → b ≠ q85_ → b ≠ q116_ → b ≠ q151_ → F152_ b = F b := fun b q0 q1 q2 q3 q4 q5 q6 q7 => (k155_ b q7).trans (kc150_ b q0 q1 q2 q3 q4 q5 q6)
  refine z_putF (ref := "ShedwheelModel") (v := .ref q151_) (fs' := [.ref q1_, .ref q16_, .ref q35_, .ref q58_, .ref q85_, .ref q116_, .ref q151_, .int (nI 0), .int (nI 0), .int (nI 0), .int (nI 0)]) C hin_X3_init_X3 tyX3 tyX3_ok nmX3 hL156_ h171_ rfl 6 (by decide) (by decide +kernel) (fun _ h9 => h9) rfl hnm rfl rfl rfl (Nat.le_of_ble_eq_true rfl) rfl dX3_init_57 (fun F179_ h180_ k181_ => ?_)
  have h182_ : F179_ q1_ = .inl (G.2.1, 12, .inl (fun _ => 0)) := (k181_ q1_ (Ne.symm nq7_)).trans h172_
  have h183_ : F179_ q16_ = .inl (G.2.1, 12, .inl (fun _ => 0)) := (k181_ q16_ (Ne.symm nq22_)).trans h173_
  have h184_ : F179_ q35_ = .inl (G.2.1, 12, .inl (fun _ => 0)) := (k181_ q35_ (Ne.symm nq41_)).trans h174_
  have h185_ : F179_ q58_ = .inl (G.2.1, 12, .inl (fun _ => 0)) := (k181_ q58_ (Ne.symm nq64_)).trans h175_
  have h186_ : F179_ q85_ = .inl (G.2.1, 12, .inl (fun _ => 0)) := (k181_ q85_ (Ne.symm nq91_)).trans h176_
  have h187_ : F179_ q116_ = .inl (G.2.1, 12, .inl (fun _ => 0)) := (k181_ q116_ (Ne.symm nq122_)).trans h177_
  have h188_ : F179_ q151_ = .inl (G.2.1, 12, .inl (fun _ => 0)) := (k181_ q151_ (Ne.symm nq157_)).trans h154_
  have kc189_ : ∀ b, b ≠ m0 → b ≠ q1_ → b ≠ q16_ → b ≠ q35_ → b ≠ q58_ → b ≠ q85_ → b ≠ q116_ → b ≠ q151_ → F179_ b = F b := fun b q0 q1 q2 q3 q4 q5 q6 q7 => (k181_ b q0).trans (kc178_ b q0 q1 q2 q3 q4 q5 q6 q7)
  refine z_vret0 C rfl (by decide) (by decide) dX3_init_60 ?_
  exact ⟨q1_, q16_, q35_, q58_, q85_, q116_, q151_, rfl, fun b hb => (List.mem_append_left _ (List.mem_append_left _ (List.mem_append_left _ (List.mem_append_left _ (List.mem_append_left _ (List.mem_append_left _ (List.mem_append_left _ hb))))))), ⟨fun h => hq3_ h, fun h => hq18_ (List.mem_append_left _ h), fun h => hq37_ (List.mem_append_left _ (List.mem_append_left _ h)), fun h => hq60_ (List.mem_append_left _ (List.mem_append_left _ (List.mem_append_left _ h))), fun h => hq87_ (List.mem_append_left _ (List.mem_append_left _ (List.mem_append_left _ (List.mem_append_left _ h)))), fun h => hq118_ (List.mem_append_left _ (List.mem_append_left _ (List.mem_append_left _ (List.mem_append_left _ (List.mem_append_left _ h))))), fun h => hq153_ (List.mem_append_left _ (List.mem_append_left _ (List.mem_append_left _ (List.mem_append_left _ (List.mem_append_left _ (List.mem_append_left _ h))))))⟩, ⟨⟨hL156_, hL158_, hL160_, hL162_, hL164_, hL166_, hL168_, hL170_⟩, ⟨h180_, (h182_).trans rfl, (h183_).trans rfl, (h184_).trans rfl, (h185_).trans rfl, (h186_).trans rfl, (h187_).trans rfl, (h188_).trans rfl⟩, ⟨⟨nq24_, nq43_, nq66_, nq93_, nq124_, nq159_⟩, ⟨nq45_, nq68_, nq95_, nq126_, nq161_⟩, ⟨nq70_, nq97_, nq128_, nq163_⟩, ⟨nq99_, nq130_, nq165_⟩, ⟨nq132_, nq167_⟩, nq169_⟩, ⟨fun k hk => absurd hk (Nat.not_lt_zero k), fun _ _ => rfl⟩, ⟨by decide, by decide, by decide, by decide⟩⟩, fun b hb h0 => kc189_ b h0 (fun e => hq3_ (e ▸ hb)) (fun e => hq18_ (List.mem_append_left _ (e ▸ hb))) (fun e => hq37_ (List.mem_append_left _ (List.mem_append_left _ (e ▸ hb)))) (fun e => hq60_ (List.mem_append_left _ (List.mem_append_left _ (List.mem_append_left _ (e ▸ hb))))) (fun e => hq87_ (List.mem_append_left _ (List.mem_append_left _ (List.mem_append_left _ (List.mem_append_left _ (e ▸ hb)))))) (fun e => hq118_ (List.mem_append_left _ (List.mem_append_left _ (List.mem_append_left _ (List.mem_append_left _ (List.mem_append_left _ (e ▸ hb))))))) (fun e => hq153_ (List.mem_append_left _ (List.mem_append_left _ (List.mem_append_left _ (List.mem_append_left _ (List.mem_append_left _ (List.mem_append_left _ (e ▸ hb))))))))⟩
