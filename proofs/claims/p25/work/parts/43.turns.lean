set_option maxHeartbeats 4000000 in
set_option maxRecDepth 100000 in
theorem c_L_turns (l : Launch) (hlst : l.stackTraces = false) (G : zGt) (L : List Nat) (F : Nat → va_E) (M : Nat → Prop) (a0 n now sl : Nat) (fd : Nat → FdT) (hcl : zCl G M L F a0 n now sl fd) (hz : fZ n fd) : zM l yL_turns wsL_turns 23 683 2 12 G L F [.ref a0, .int (nI (cW fd n))] (fun rv L1 F1 => rv = some (.int (nI 1)) ∧ L1 = L ∧ ∃ g : Nat → FdT, zCl G M L F1 a0 n now sl g ∧ fN n fd g) := by
  obtain ⟨a1, a2, b4, b5, b6, b7, ad, hco⟩ := hcl
  have hL0 := hco.1.1
  have hF0 := hco.2.1
  obtain ⟨hn, hnow, hsl⟩ := hco.2.2.2.2.2.2.2.1
  have hok : ∀ j, j < n → fOk now (fd j) := fun j hj => (hco.2.2.2.2.2.1 j hj).2.2.1
  have tk1 := tk_12 hn hok
  have cd1 := cd_12 hn hok
  have hbk : mnV (oW fd n) (cW fd n) < 4096 := Nat.lt_of_lt_of_le (mn_lt (bsV_lt _ n)) (p2_le hn)
  have hoc : oW fd n &&& cW fd n ≤ oW fd n := Nat.and_le_left
  have hov := oW_lt (fd := fd) hn
  refine z_of (cc := cL_turns) (nL := 12) (ret := (some .boolean)) (own := RL) hlst (by decide +kernel) rfl rfl (Nat.le_of_ble_eq_true rfl) ?_
  intro p e s m below meth c A hnm C
  refine z_lvs (lv' := [(0, .ref a0), (1, .int (nI (cW fd n)))]) rfl ?_
  refine z_aload_n C dL_turns_0 rfl 0 rfl ?_
  refine z_callS (As := [.ref a0]) (st := []) (mc := 0) (ms := 0) C (c_L_out l hlst G L F M a0 n now sl fd hco.cl) (va_cwS 1 C.1.2.2.2.2 gL_turns_L_out rfl rfl rfl (by decide +kernel) ⟨Nat.le_of_ble_eq_true rfl, Nat.le_of_ble_eq_true rfl⟩) rfl (Nat.le_of_ble_eq_true rfl) ⟨Nat.le_of_ble_eq_true rfl, Nat.le_of_ble_eq_true rfl⟩ dL_turns_1 (z_p ?_)
  refine z_stk (st' := [.int (nI (oW fd n))]) rfl ?_
  have ow_fd := oW_lt (fd := fd) hn
  refine z_istore_n (lv' := [(2, .int (nI (oW fd n))), (0, .ref a0), (1, .int (nI (cW fd n)))]) C dL_turns_4 rfl (by decide) rfl ?_
  refine z_iconst C (nI 1) dL_turns_5 (by decide) ?_
  refine z_aload_n C dL_turns_6 rfl 1 rfl ?_
  refine z_callV (As := []) (st := [.int (nI 1)]) (mc := 0) (ms := 0) C hL0 hF0 rfl (c_X2_feeders l hlst G L F M a0 a1 a2 b4 b5 b6 b7 ad n now sl fd hco) (cwV 0 C.1.2.2.2.2 gL_turns_X2_feeders rfl rfl rfl (by decide +kernel) ⟨Nat.le_of_ble_eq_true rfl, Nat.le_of_ble_eq_true rfl⟩) rfl (Nat.le_of_ble_eq_true rfl) ⟨Nat.le_of_ble_eq_true rfl, Nat.le_of_ble_eq_true rfl⟩ dL_turns_7 (z_p ?_)
  refine z_stk (st' := [.int (nI n), .int (nI 1)]) rfl ?_
  refine z_ishl C (nI (2 ^ n)) dL_turns_10 (shl1 (n := n) (by omega)) ?_
  refine z_iconst C (nI 1) dL_turns_11 (by decide) ?_
  refine z_isub C (nI (2 ^ n - 1)) dL_turns_12 (p2_sub) ?_
  refine z_iload_n C dL_turns_13 rfl 0 rfl ?_
  refine z_iconst C (-1) dL_turns_14 (by decide) ?_
  refine z_ixor C (nI (oW fd n) ^^^ (-1)) dL_turns_15 (rfl) ?_
  refine z_iand C (nI (mnV (2 ^ n - 1) (oW fd n))) dL_turns_16 (mnx_nI _ _) ?_
  refine z_istore_n (lv' := [(3, .int (nI (mnV (2 ^ n - 1) (oW fd n)))), (2, .int (nI (oW fd n))), (0, .ref a0), (1, .int (nI (cW fd n)))]) C dL_turns_17 rfl (by decide) rfl ?_
  refine z_iload_n C dL_turns_18 rfl 1 rfl ?_
  refine z_iload_n C dL_turns_19 rfl 3 rfl ?_
  refine z_iconst C (-1) dL_turns_20 (by decide) ?_
  refine z_ixor C (nI (cW fd n) ^^^ (-1)) dL_turns_21 (rfl) ?_
  refine z_iand C (nI (mnV (oW fd n) (cW fd n))) dL_turns_22 (mnx_nI _ _) ?_
  refine z_istore (lv' := [(4, .int (nI (mnV (oW fd n) (cW fd n)))), (3, .int (nI (mnV (2 ^ n - 1) (oW fd n)))), (2, .int (nI (oW fd n))), (0, .ref a0), (1, .int (nI (cW fd n)))]) C dL_turns_23 (by decide) rfl ?_
  refine z_aload_n C dL_turns_25 rfl 3 rfl ?_
  refine z_callV (As := []) (st := []) (mc := 0) (ms := 0) C hL0 hF0 rfl (c_X2_loadRestored l hlst G L F M a0 a1 a2 b4 b5 b6 b7 ad n now sl fd hco) (cwV 0 C.1.2.2.2.2 gL_turns_X2_loadRestored rfl rfl rfl (by decide +kernel) ⟨Nat.le_of_ble_eq_true rfl, Nat.le_of_ble_eq_true rfl⟩) rfl (Nat.le_of_ble_eq_true rfl) ⟨Nat.le_of_ble_eq_true rfl, Nat.le_of_ble_eq_true rfl⟩ dL_turns_26 (z_p ?_)
  refine z_stk (st' := [.int (nI (smV (fun j => fRs (fd j)) n))]) rfl ?_
  refine z_aload_n C dL_turns_29 rfl 3 rfl ?_
  refine z_callV (As := []) (st := [.int (nI (smV (fun j => fRs (fd j)) n))]) (mc := 0) (ms := 0) C hL0 hF0 rfl (c_X2_load l hlst G L F M a0 a1 a2 b4 b5 b6 b7 ad n now sl fd hco) (cwV 0 C.1.2.2.2.2 gL_turns_X2_load rfl rfl rfl (by decide +kernel) ⟨Nat.le_of_ble_eq_true rfl, Nat.le_of_ble_eq_true rfl⟩) rfl (Nat.le_of_ble_eq_true rfl) ⟨Nat.le_of_ble_eq_true rfl, Nat.le_of_ble_eq_true rfl⟩ dL_turns_30 (z_p ?_)
  refine z_stk (st' := [.int (nI (smV (fun j => fTk (fd j)) n)), .int (nI (smV (fun j => fRs (fd j)) n))]) rfl ?_
  refine z_isub C (nI (smV (fun j => cdV (fd j)) n)) dL_turns_33 (cd_nI (fun j hj => (hok j hj).2.2.2.2.1)) ?_
  refine z_istore (lv' := [(5, .int (nI (smV (fun j => cdV (fd j)) n))), (4, .int (nI (mnV (oW fd n) (cW fd n)))), (3, .int (nI (mnV (2 ^ n - 1) (oW fd n)))), (2, .int (nI (oW fd n))), (0, .ref a0), (1, .int (nI (cW fd n)))]) C dL_turns_34 (by decide) rfl ?_
  refine z_iload C dL_turns_36 1 rfl ?_
  refine z_if_eq C 55 (((mnV (oW fd n) (cW fd n) : Nat) : Int) = (0 : Int)) (zi_eq (zi_N (n := mnV (oW fd n) (cW fd n)) (by omega)) zi_0) dL_turns_38 (by decide) (fun c1_ => ?_) (fun c1_ => ?_)
  · -- 38 taken
    refine z_iconst C (nI 1) dL_turns_55 (by decide) ?_
    refine z_iret0 C rfl rfl (by decide) (by decide) dL_turns_56 ?_
    exact ⟨rfl, rfl, fd, hco.cl, fN.rf hz⟩
  · -- 38 not taken
    refine z_iload_n C dL_turns_41 rfl 3 rfl ?_
    refine z_iload_n C dL_turns_42 rfl 5 rfl ?_
    refine z_iand C (nI (oW fd n &&& cW fd n)) dL_turns_43 (nx_and _ _) ?_
    refine z_if_ne C 55 (((oW fd n &&& cW fd n : Nat) : Int) = (0 : Int)) (zi_eq (zi_N (n := oW fd n &&& cW fd n) (by omega)) zi_0) dL_turns_44 (by decide) (fun c2_ => ?_) (fun c2_ => ?_)
    · -- 44 taken
      refine z_iconst C (nI 1) dL_turns_55 (by decide) ?_
      refine z_iret0 C rfl rfl (by decide) (by decide) dL_turns_56 ?_
      exact ⟨rfl, rfl, fd, hco.cl, fN.rf hz⟩
    · -- 44 not taken
      refine z_iload C dL_turns_47 0 rfl ?_
      refine z_sipush C (nI 20000) dL_turns_49 (by decide) ?_
      refine z_icmp_le C 57 (((smV (fun j => cdV (fd j)) n : Nat) : Int) ≤ ((20000 : Nat) : Int)) (zi_le (zi_N (n := smV (fun j => cdV (fd j)) n) (by omega)) (zi_N (n := 20000) (by omega))) dL_turns_52 (by decide) (fun c3_ => ?_) (fun c3_ => ?_)
      · -- 52 taken
        have hcd := cd_pos (cr := cW fd n) hok (by omega)
        have hoc0 : oW fd n &&& cW fd n = 0 := by omega
        have eRS := rt_cd hok hoc0
        refine z_aload_n C dL_turns_57 rfl 4 rfl ?_
        refine z_iload C dL_turns_58 0 rfl ?_
        refine z_callVX (As := [.int (nI (smV (fun j => cdV (fd j)) n))]) (st := []) (mc := 1) (ms := 6) C hL0 hF0 rfl (c_X2_choice l hlst G L F M a0 a1 a2 b4 b5 b6 b7 ad n now sl fd hco (nI (smV (fun j => cdV (fd j)) n))) (cwV 1 C.1.2.2.2.2 gL_turns_X2_choice rfl rfl rfl (by decide +kernel) ⟨Nat.le_of_ble_eq_true rfl, Nat.le_of_ble_eq_true rfl⟩) rfl (Nat.le_of_ble_eq_true rfl) ⟨Nat.le_of_ble_eq_true rfl, Nat.le_of_ble_eq_true rfl⟩ dL_turns_60 (fun E9 L9 F9 hx => absurd (zIn_in (by decide) (by omega) (by omega) rfl) hx.2.2.2) (fun rv8 L8 F8 hp8 => ?_)
        obtain ⟨sf8, sb, e80, g81, g82, e81, hB, e82, hco8, hkM8⟩ := hp8
        obtain rfl : smV (fun j => cdV (fd j)) n = sf8 := nIe (by omega) (by omega) e80
        rw [e81, e82]
        refine z_stk (st' := [.int (nI sb)]) rfl ?_
        obtain ⟨hsb1, hsb2⟩ := isB_lt hn hB
        have hF_hco8 := hco8.2.1
        refine z_istore (lv' := [(6, .int (nI sb)), (5, .int (nI (smV (fun j => cdV (fd j)) n))), (4, .int (nI (mnV (oW fd n) (cW fd n)))), (3, .int (nI (mnV (2 ^ n - 1) (oW fd n)))), (2, .int (nI (oW fd n))), (0, .ref a0), (1, .int (nI (cW fd n)))]) C dL_turns_63 (by decide) rfl ?_
        refine z_iload C dL_turns_65 0 rfl ?_
        refine z_if_ne C 72 (((sb : Nat) : Int) = (0 : Int)) (zi_eq (zi_N (n := sb) (by omega)) zi_0) dL_turns_67 (by decide) (fun c4_ => ?_) (fun c4_ => ?_)
        · -- 67 taken
          refine z_iconst C (nI 0) dL_turns_72 (by decide) ?_
          refine z_istore (lv' := [(7, .int (nI 0)), (6, .int (nI sb)), (5, .int (nI (smV (fun j => cdV (fd j)) n))), (4, .int (nI (mnV (oW fd n) (cW fd n)))), (3, .int (nI (mnV (2 ^ n - 1) (oW fd n)))), (2, .int (nI (oW fd n))), (0, .ref a0), (1, .int (nI (cW fd n)))]) C dL_turns_73 (by decide) rfl ?_
          refine z_iconst C (nI 0) dL_turns_75 (by decide) ?_
          refine z_istore (lv' := [(8, .int (nI 0)), (7, .int (nI 0)), (6, .int (nI sb)), (5, .int (nI (smV (fun j => cdV (fd j)) n))), (4, .int (nI (mnV (oW fd n) (cW fd n)))), (3, .int (nI (mnV (2 ^ n - 1) (oW fd n)))), (2, .int (nI (oW fd n))), (0, .ref a0), (1, .int (nI (cW fd n)))]) C dL_turns_76 (by decide) rfl ?_
          refine z_lvs (lv' := [(8, .int (nI 0)), (7, .int (nI (smV (fun j => fHo (fd j)) 0))), (6, .int (nI sb)), (5, .int (nI (smV (fun j => cdV (fd j)) n))), (4, .int (nI (mnV (oW fd n) (cW fd n)))), (3, .int (nI (mnV (2 ^ n - 1) (oW fd n)))), (2, .int (nI (oW fd n))), (0, .ref a0), (1, .int (nI (cW fd n)))]) rfl ?_
          refine z_sub (lv' := [(0, .ref a0), (3, .int (nI (mnV (2 ^ n - 1) (oW fd n)))), (4, .int (nI (mnV (oW fd n) (cW fd n)))), (6, .int (nI sb)), (7, .int (nI (smV (fun j => fHo (fd j)) 0))), (8, .int (nI 0))]) [7, 5, 4, 2, 1, 0] rfl ?_
          have lp78 : ∀ (N9 : Nat) (k : Nat) (hk : k ≤ n) (h9 : n - k < N9), zW p l e { frames := 23, cells := 2, slots := 12, locals := 683 } s m [.ref a0, .int (nI (cW fd n))].toArray below meth c 12 G A (MQ below (zQ G (fun rv L1 F1 => rv = some (.int (nI 1)) ∧ L1 = L ∧ ∃ g : Nat → FdT, zCl G M L F1 a0 n now sl g ∧ fN n fd g) A) [.ref a0, .int (nI (cW fd n))].toArray s 2 12 A) (0 + 1) (0 + 6) L F8 78 [(0, .ref a0), (3, .int (nI (mnV (2 ^ n - 1) (oW fd n)))), (4, .int (nI (mnV (oW fd n) (cW fd n)))), (6, .int (nI sb)), (7, .int (nI (smV (fun j => fHo (fd j)) k))), (8, .int (nI k))] [] := by
            intro N9
            induction N9 with
            | zero => intro k hk h9; exact absurd h9 (Nat.not_lt_zero _)
            | succ N9 ih78 =>
              intro k hk hN78
              refine z_iload C dL_turns_78 5 rfl ?_
              refine z_aload_n C dL_turns_80 rfl 0 rfl ?_
              refine z_callV (As := []) (st := [.int (nI k)]) (mc := 0) (ms := 0) C hL0 hF_hco8 rfl (c_X2_feeders l hlst G L F8 M a0 a1 a2 b4 b5 b6 b7 ad n now sl fd hco8) (cwV 0 C.1.2.2.2.2 gL_turns_X2_feeders rfl rfl rfl (by decide +kernel) ⟨Nat.le_of_ble_eq_true rfl, Nat.le_of_ble_eq_true rfl⟩) rfl (Nat.le_of_ble_eq_true rfl) ⟨Nat.le_of_ble_eq_true rfl, Nat.le_of_ble_eq_true rfl⟩ dL_turns_81 (z_p ?_)
              refine z_stk (st' := [.int (nI n), .int (nI k)]) rfl ?_
              refine z_icmp_ge C 104 (((n : Nat) : Int) ≤ ((k : Nat) : Int)) (zi_le (zi_N (n := n) (by omega)) (zi_N (n := k) (by omega))) dL_turns_84 (by decide) (fun c5_ => ?_) (fun c5_ => ?_)
              · -- 84 taken
                obtain rfl : n = k := by omega
                refine z_aload_n C dL_turns_104 rfl 0 rfl ?_
                refine z_callV (As := []) (st := []) (mc := 0) (ms := 0) C hL0 hF_hco8 rfl (c_X2_load l hlst G L F8 M a0 a1 a2 b4 b5 b6 b7 ad n now sl fd hco8) (cwV 0 C.1.2.2.2.2 gL_turns_X2_load rfl rfl rfl (by decide +kernel) ⟨Nat.le_of_ble_eq_true rfl, Nat.le_of_ble_eq_true rfl⟩) rfl (Nat.le_of_ble_eq_true rfl) ⟨Nat.le_of_ble_eq_true rfl, Nat.le_of_ble_eq_true rfl⟩ dL_turns_105 (z_p ?_)
                refine z_stk (st' := [.int (nI (smV (fun j => fTk (fd j)) n))]) rfl ?_
                refine z_istore (lv' := [(8, .int (nI (smV (fun j => fTk (fd j)) n))), (0, .ref a0), (3, .int (nI (mnV (2 ^ n - 1) (oW fd n)))), (4, .int (nI (mnV (oW fd n) (cW fd n)))), (6, .int (nI sb)), (7, .int (nI (smV (fun j => fHo (fd j)) n)))]) C dL_turns_108 (by decide) rfl ?_
                refine z_aload_n C dL_turns_110 rfl 1 rfl ?_
                refine z_callVX (As := []) (st := []) (mc := 1) (ms := 6) C hL0 hF_hco8 rfl (c_X2_rotate l hlst G L F8 M a0 a1 a2 b4 b5 b6 b7 ad n now sl fd hco8) (cwV 0 C.1.2.2.2.2 gL_turns_X2_rotate rfl rfl rfl (by decide +kernel) ⟨Nat.le_of_ble_eq_true rfl, Nat.le_of_ble_eq_true rfl⟩) rfl (Nat.le_of_ble_eq_true rfl) ⟨Nat.le_of_ble_eq_true rfl, Nat.le_of_ble_eq_true rfl⟩ dL_turns_111 (fun E9 L9 F9 hx => (by rcases hx with hx | ⟨-, -, q5, -⟩; exact absurd hx.2.2.2 (by omega); exact absurd (isB_one hn (by omega) hB (by rw [← eRS]; exact q5)) (by omega))) (fun rv9 L9 F9 hp9 => ?_)
                obtain ⟨sb9, g90, e91, hB9, hb9, e92, hco9, hkM9⟩ := hp9
                rw [eRS] at hB9
                obtain rfl : sb = sb9 := isB_one hn (by omega) hB hB9
                rw [e91, e92]
                refine z_stk (st' := [.int (nI (smV (fun j => swT (fd j)) n))]) rfl ?_
                obtain ⟨fd2, hfd2⟩ : ∃ g, g = fdK (fun i r => swG sb i r) fd n := ⟨_, rfl⟩
                rw [← hfd2] at hco9
                have r1 := rot_out hn hok hoc0 hB
                rw [← hfd2] at r1
                have r3 := rot_ho (n := n) (b := sb) (fd := fd)
                rw [← hfd2] at r3
                have r4 := rot_le hok hoc0 hB (by omega)
                rw [← hfd2] at r4
                have r5 := rot_fN (b := sb) hz
                rw [← hfd2] at r5
                have r2 := rot_on hn hB
                have r6 := sw_due hok
                have r7 : smV (fun j => bitV (mnV (oW fd n) (cW fd n)) j) n ≤ 12 * 1 := smV_12 hn (fun j _ => bitV_le _ j)
                have hF_hco9 := hco9.2.1
                have ok_fd2 : ∀ j, j < n → fOk now (fd2 j) := fun j hj => (hco9.2.2.2.2.2.1 j hj).2.2.1
                have tk2 := tk_12 hn ok_fd2
                have ho1 := ho_12 hn hnow hok
                refine z_istore (lv' := [(9, .int (nI (smV (fun j => swT (fd j)) n))), (8, .int (nI (smV (fun j => fTk (fd j)) n))), (0, .ref a0), (3, .int (nI (mnV (2 ^ n - 1) (oW fd n)))), (4, .int (nI (mnV (oW fd n) (cW fd n)))), (6, .int (nI sb)), (7, .int (nI (smV (fun j => fHo (fd j)) n)))]) C dL_turns_114 (by decide) rfl ?_
                refine z_iconst C (nI 0) dL_turns_116 (by decide) ?_
                refine z_istore (lv' := [(10, .int (nI 0)), (9, .int (nI (smV (fun j => swT (fd j)) n))), (8, .int (nI (smV (fun j => fTk (fd j)) n))), (0, .ref a0), (3, .int (nI (mnV (2 ^ n - 1) (oW fd n)))), (4, .int (nI (mnV (oW fd n) (cW fd n)))), (6, .int (nI sb)), (7, .int (nI (smV (fun j => fHo (fd j)) n)))]) C dL_turns_117 (by decide) rfl ?_
                refine z_iconst C (nI 0) dL_turns_119 (by decide) ?_
                refine z_istore (lv' := [(11, .int (nI 0)), (10, .int (nI 0)), (9, .int (nI (smV (fun j => swT (fd j)) n))), (8, .int (nI (smV (fun j => fTk (fd j)) n))), (0, .ref a0), (3, .int (nI (mnV (2 ^ n - 1) (oW fd n)))), (4, .int (nI (mnV (oW fd n) (cW fd n)))), (6, .int (nI sb)), (7, .int (nI (smV (fun j => fHo (fd j)) n)))]) C dL_turns_120 (by decide) rfl ?_
                refine z_lvs (lv' := [(11, .int (nI 0)), (10, .int (nI (smV (fun j => bitV (mnV (oW fd n) (cW fd n)) j) 0))), (9, .int (nI (smV (fun j => swT (fd j)) n))), (8, .int (nI (smV (fun j => fTk (fd j)) n))), (0, .ref a0), (3, .int (nI (mnV (2 ^ n - 1) (oW fd n)))), (4, .int (nI (mnV (oW fd n) (cW fd n)))), (6, .int (nI sb)), (7, .int (nI (smV (fun j => fHo (fd j)) n - smV (fun j => fHo (fd2 j)) 0)))]) (by rw [show smV (fun j => fHo (fd2 j)) 0 = 0 from rfl, Nat.sub_zero] <;> rfl) ?_
                refine z_sub (lv' := [(0, .ref a0), (3, .int (nI (mnV (2 ^ n - 1) (oW fd n)))), (4, .int (nI (mnV (oW fd n) (cW fd n)))), (6, .int (nI sb)), (7, .int (nI (smV (fun j => fHo (fd j)) n - smV (fun j => fHo (fd2 j)) 0))), (8, .int (nI (smV (fun j => fTk (fd j)) n))), (9, .int (nI (smV (fun j => swT (fd j)) n))), (10, .int (nI (smV (fun j => bitV (mnV (oW fd n) (cW fd n)) j) 0))), (11, .int (nI 0))]) [4, 5, 6, 7, 8, 3, 2, 1, 0] rfl ?_
                have lp122 : ∀ (N9 : Nat) (k : Nat) (hk : k ≤ n) (h9 : n - k < N9), zW p l e { frames := 23, cells := 2, slots := 12, locals := 683 } s m [.ref a0, .int (nI (cW fd n))].toArray below meth c 12 G A (MQ below (zQ G (fun rv L1 F1 => rv = some (.int (nI 1)) ∧ L1 = L ∧ ∃ g : Nat → FdT, zCl G M L F1 a0 n now sl g ∧ fN n fd g) A) [.ref a0, .int (nI (cW fd n))].toArray s 2 12 A) ((0 + 1) + 1) ((0 + 6) + 6) L F9 122 [(0, .ref a0), (3, .int (nI (mnV (2 ^ n - 1) (oW fd n)))), (4, .int (nI (mnV (oW fd n) (cW fd n)))), (6, .int (nI sb)), (7, .int (nI (smV (fun j => fHo (fd j)) n - smV (fun j => fHo (fd2 j)) k))), (8, .int (nI (smV (fun j => fTk (fd j)) n))), (9, .int (nI (smV (fun j => swT (fd j)) n))), (10, .int (nI (smV (fun j => bitV (mnV (oW fd n) (cW fd n)) j) k))), (11, .int (nI k))] [] := by
                  intro N9
                  induction N9 with
                  | zero => intro k hk h9; exact absurd h9 (Nat.not_lt_zero _)
                  | succ N9 ih122 =>
                    intro k hk hN122
                    refine z_iload C dL_turns_122 8 rfl ?_
                    refine z_aload_n C dL_turns_124 rfl 0 rfl ?_
                    refine z_callV (As := []) (st := [.int (nI k)]) (mc := 0) (ms := 0) C hL0 hF_hco9 rfl (c_X2_feeders l hlst G L F9 M a0 a1 a2 b4 b5 b6 b7 ad n now sl fd2 hco9) (cwV 0 C.1.2.2.2.2 gL_turns_X2_feeders rfl rfl rfl (by decide +kernel) ⟨Nat.le_of_ble_eq_true rfl, Nat.le_of_ble_eq_true rfl⟩) rfl (Nat.le_of_ble_eq_true rfl) ⟨Nat.le_of_ble_eq_true rfl, Nat.le_of_ble_eq_true rfl⟩ dL_turns_125 (z_p ?_)
                    refine z_stk (st' := [.int (nI n), .int (nI k)]) rfl ?_
                    refine z_icmp_ge C 160 (((n : Nat) : Int) ≤ ((k : Nat) : Int)) (zi_le (zi_N (n := n) (by omega)) (zi_N (n := k) (by omega))) dL_turns_128 (by decide) (fun c6_ => ?_) (fun c6_ => ?_)
                    · -- 128 taken
                      obtain rfl : n = k := by omega
                      refine z_iload C dL_turns_160 6 rfl ?_
                      refine z_iload C dL_turns_162 7 rfl ?_
                      refine z_icmp_ne C 203 (((smV (fun j => swT (fd j)) n : Nat) : Int) = ((smV (fun j => bitV (mnV (oW fd n) (cW fd n)) j) n : Nat) : Int)) (zi_eq (zi_N (n := smV (fun j => swT (fd j)) n) (by omega)) (zi_N (n := smV (fun j => bitV (mnV (oW fd n) (cW fd n)) j) n) (by omega))) dL_turns_164 (by decide) (fun c7_ => absurd c7_ (by omega)) (fun c7_ => ?_)
                      refine z_aload_n C dL_turns_167 rfl 0 rfl ?_
                      refine z_callS (As := [.ref a0]) (st := []) (mc := 0) (ms := 0) C (c_L_out l hlst G L F9 M a0 n now sl fd2 hco9.cl) (va_cwS 1 C.1.2.2.2.2 gL_turns_L_out rfl rfl rfl (by decide +kernel) ⟨Nat.le_of_ble_eq_true rfl, Nat.le_of_ble_eq_true rfl⟩) rfl (Nat.le_of_ble_eq_true rfl) ⟨Nat.le_of_ble_eq_true rfl, Nat.le_of_ble_eq_true rfl⟩ dL_turns_168 (z_p ?_)
                      refine z_stk (st' := [.int (nI (oW fd2 n))]) rfl ?_
                      have ow_fd2 := oW_lt (fd := fd2) hn
                      refine z_iload C dL_turns_171 3 rfl ?_
                      refine z_icmp_ne C 203 (((oW fd2 n : Nat) : Int) = ((sb : Nat) : Int)) (zi_eq (zi_N (n := oW fd2 n) (by omega)) (zi_N (n := sb) (by omega))) dL_turns_173 (by decide) (fun c8_ => absurd c8_ (by omega)) (fun c8_ => ?_)
                      refine z_iload C dL_turns_176 3 rfl ?_
                      refine z_iload_n C dL_turns_178 rfl 1 rfl ?_
                      refine z_iand C (nI sb) dL_turns_179 (r2) ?_
                      refine z_iload C dL_turns_180 3 rfl ?_
                      refine z_icmp_ne C 203 (((sb : Nat) : Int) = ((sb : Nat) : Int)) (zi_eq (zi_N (n := sb) (by omega)) (zi_N (n := sb) (by omega))) dL_turns_182 (by decide) (fun c9_ => absurd c9_ (by omega)) (fun c9_ => ?_)
                      refine z_iload C dL_turns_185 4 rfl ?_
                      refine z_if_ne C 203 (((smV (fun j => fHo (fd j)) n - smV (fun j => fHo (fd2 j)) n : Nat) : Int) = (0 : Int)) (zi_eq (zi_N (n := smV (fun j => fHo (fd j)) n - smV (fun j => fHo (fd2 j)) n) (by omega)) zi_0) dL_turns_187 (by decide) (fun c10_ => absurd c10_ (by omega)) (fun c10_ => ?_)
                      refine z_aload_n C dL_turns_190 rfl 0 rfl ?_
                      refine z_callV (As := []) (st := []) (mc := 0) (ms := 0) C hL0 hF_hco9 rfl (c_X2_load l hlst G L F9 M a0 a1 a2 b4 b5 b6 b7 ad n now sl fd2 hco9) (cwV 0 C.1.2.2.2.2 gL_turns_X2_load rfl rfl rfl (by decide +kernel) ⟨Nat.le_of_ble_eq_true rfl, Nat.le_of_ble_eq_true rfl⟩) rfl (Nat.le_of_ble_eq_true rfl) ⟨Nat.le_of_ble_eq_true rfl, Nat.le_of_ble_eq_true rfl⟩ dL_turns_191 (z_p ?_)
                      refine z_stk (st' := [.int (nI (smV (fun j => fTk (fd2 j)) n))]) rfl ?_
                      refine z_iload C dL_turns_194 5 rfl ?_
                      refine z_icmp_gt C 203 (((smV (fun j => fTk (fd j)) n : Nat) : Int) < ((smV (fun j => fTk (fd2 j)) n : Nat) : Int)) (zi_lt (zi_N (n := smV (fun j => fTk (fd j)) n) (by omega)) (zi_N (n := smV (fun j => fTk (fd2 j)) n) (by omega))) dL_turns_196 (by decide) (fun c11_ => absurd c11_ (by omega)) (fun c11_ => ?_)
                      refine z_iconst C (nI 1) dL_turns_199 (by decide) ?_
                      refine z_goto C 204 dL_turns_200 (by decide) ?_
                      refine z_iret0 C rfl rfl (by decide) (by decide) dL_turns_204 ?_
                      exact ⟨rfl, rfl, fd2, hco9.cl, r5⟩
                    · -- 128 not taken
                      refine z_iload C dL_turns_131 7 rfl ?_
                      refine z_iload C dL_turns_133 2 rfl ?_
                      refine z_iload C dL_turns_135 8 rfl ?_
                      refine z_ishr C (nI (mnV (oW fd n) (cW fd n) / 2 ^ k)) dL_turns_137 (bit_of (by omega) (by omega)) ?_
                      refine z_iconst C (nI 1) dL_turns_138 (by decide) ?_
                      refine z_iand C (nI (bitV (mnV (oW fd n) (cW fd n)) k)) dL_turns_139 (bit_and k (by omega)) ?_
                      refine z_iadd C (nI (smV (fun j => bitV (mnV (oW fd n) (cW fd n)) j) k + bitV (mnV (oW fd n) (cW fd n)) k)) dL_turns_140 (nI_add (smV (fun j => bitV (mnV (oW fd n) (cW fd n)) j) k) (bitV (mnV (oW fd n) (cW fd n)) k)) ?_
                      refine z_istore (lv' := [(10, .int (nI (smV (fun j => bitV (mnV (oW fd n) (cW fd n)) j) k + bitV (mnV (oW fd n) (cW fd n)) k))), (0, .ref a0), (3, .int (nI (mnV (2 ^ n - 1) (oW fd n)))), (4, .int (nI (mnV (oW fd n) (cW fd n)))), (6, .int (nI sb)), (7, .int (nI (smV (fun j => fHo (fd j)) n - smV (fun j => fHo (fd2 j)) k))), (8, .int (nI (smV (fun j => fTk (fd j)) n))), (9, .int (nI (smV (fun j => swT (fd j)) n))), (11, .int (nI k))]) C dL_turns_141 (by decide) rfl ?_
                      refine z_iload C dL_turns_143 5 rfl ?_
                      refine z_aload_n C dL_turns_145 rfl 1 rfl ?_
                      refine z_iload C dL_turns_146 8 rfl ?_
                      refine z_callV (As := [.int (nI k)]) (st := [.int (nI (smV (fun j => fHo (fd j)) n - smV (fun j => fHo (fd2 j)) k))]) (mc := 0) (ms := 0) C hL0 hF_hco9 rfl (m_X2_hours l hlst G L F9 M a0 a1 a2 b4 b5 b6 b7 ad n now sl fd2 hco9 k (by omega)) (cwV 1 C.1.2.2.2.2 gL_turns_X2_hours rfl rfl rfl (by decide +kernel) ⟨Nat.le_of_ble_eq_true rfl, Nat.le_of_ble_eq_true rfl⟩) rfl (Nat.le_of_ble_eq_true rfl) ⟨Nat.le_of_ble_eq_true rfl, Nat.le_of_ble_eq_true rfl⟩ dL_turns_148 (z_p ?_)
                      refine z_stk (st' := [.int (nI (fHo (fd2 k))), .int (nI (smV (fun j => fHo (fd j)) n - smV (fun j => fHo (fd2 j)) k))]) rfl ?_
                      have u6 := (ok_fd2 k (by omega)).2.2.2.2.2.1
                      refine z_isub C (nI (smV (fun j => fHo (fd j)) n - smV (fun j => fHo (fd2 j)) (k + 1))) dL_turns_151 (sub_step (f := fun j => fHo (fd2 j)) (by omega) r3) ?_
                      refine z_istore (lv' := [(7, .int (nI (smV (fun j => fHo (fd j)) n - smV (fun j => fHo (fd2 j)) (k + 1)))), (10, .int (nI (smV (fun j => bitV (mnV (oW fd n) (cW fd n)) j) k + bitV (mnV (oW fd n) (cW fd n)) k))), (0, .ref a0), (3, .int (nI (mnV (2 ^ n - 1) (oW fd n)))), (4, .int (nI (mnV (oW fd n) (cW fd n)))), (6, .int (nI sb)), (8, .int (nI (smV (fun j => fTk (fd j)) n))), (9, .int (nI (smV (fun j => swT (fd j)) n))), (11, .int (nI k))]) C dL_turns_152 (by decide) rfl ?_
                      refine z_iinc (v := nI (k + 1)) (lv' := [(11, .int (nI (k + 1))), (7, .int (nI (smV (fun j => fHo (fd j)) n - smV (fun j => fHo (fd2 j)) (k + 1)))), (10, .int (nI (smV (fun j => bitV (mnV (oW fd n) (cW fd n)) j) k + bitV (mnV (oW fd n) (cW fd n)) k))), (0, .ref a0), (3, .int (nI (mnV (2 ^ n - 1) (oW fd n)))), (4, .int (nI (mnV (oW fd n) (cW fd n)))), (6, .int (nI sb)), (8, .int (nI (smV (fun j => fTk (fd j)) n))), (9, .int (nI (smV (fun j => swT (fd j)) n)))]) C dL_turns_154 8 rfl (nI_add k 1) (by decide) rfl ?_
                      refine z_goto C 122 dL_turns_157 (by decide) ?_
                      refine z_lvs (lv' := [(11, .int (nI (k + 1))), (7, .int (nI (smV (fun j => fHo (fd j)) n - smV (fun j => fHo (fd2 j)) (k + 1)))), (10, .int (nI (smV (fun j => bitV (mnV (oW fd n) (cW fd n)) j) (k + 1)))), (0, .ref a0), (3, .int (nI (mnV (2 ^ n - 1) (oW fd n)))), (4, .int (nI (mnV (oW fd n) (cW fd n)))), (6, .int (nI sb)), (8, .int (nI (smV (fun j => fTk (fd j)) n))), (9, .int (nI (smV (fun j => swT (fd j)) n)))]) rfl ?_
                      refine z_sub (lv' := [(0, .ref a0), (3, .int (nI (mnV (2 ^ n - 1) (oW fd n)))), (4, .int (nI (mnV (oW fd n) (cW fd n)))), (6, .int (nI sb)), (7, .int (nI (smV (fun j => fHo (fd j)) n - smV (fun j => fHo (fd2 j)) (k + 1)))), (8, .int (nI (smV (fun j => fTk (fd j)) n))), (9, .int (nI (smV (fun j => swT (fd j)) n))), (10, .int (nI (smV (fun j => bitV (mnV (oW fd n) (cW fd n)) j) (k + 1)))), (11, .int (nI (k + 1)))]) [3, 4, 5, 6, 1, 7, 8, 2, 0] rfl ?_
                      exact ih122 (k + 1) (by omega) (by omega)
                exact lp122 _ 0 (Nat.zero_le _) (Nat.lt_succ_self _)
              · -- 84 not taken
                refine z_iload C dL_turns_87 4 rfl ?_
                refine z_aload_n C dL_turns_89 rfl 0 rfl ?_
                refine z_iload C dL_turns_90 5 rfl ?_
                refine z_callV (As := [.int (nI k)]) (st := [.int (nI (smV (fun j => fHo (fd j)) k))]) (mc := 0) (ms := 0) C hL0 hF_hco8 rfl (m_X2_hours l hlst G L F8 M a0 a1 a2 b4 b5 b6 b7 ad n now sl fd hco8 k (by omega)) (cwV 1 C.1.2.2.2.2 gL_turns_X2_hours rfl rfl rfl (by decide +kernel) ⟨Nat.le_of_ble_eq_true rfl, Nat.le_of_ble_eq_true rfl⟩) rfl (Nat.le_of_ble_eq_true rfl) ⟨Nat.le_of_ble_eq_true rfl, Nat.le_of_ble_eq_true rfl⟩ dL_turns_92 (z_p ?_)
                refine z_stk (st' := [.int (nI (fHo (fd k))), .int (nI (smV (fun j => fHo (fd j)) k))]) rfl ?_
                have u6 := (hok k (by omega)).2.2.2.2.2.1
                refine z_iadd C (nI (smV (fun j => fHo (fd j)) k + fHo (fd k))) dL_turns_95 (nI_add (smV (fun j => fHo (fd j)) k) (fHo (fd k))) ?_
                refine z_istore (lv' := [(7, .int (nI (smV (fun j => fHo (fd j)) k + fHo (fd k)))), (0, .ref a0), (3, .int (nI (mnV (2 ^ n - 1) (oW fd n)))), (4, .int (nI (mnV (oW fd n) (cW fd n)))), (6, .int (nI sb)), (8, .int (nI k))]) C dL_turns_96 (by decide) rfl ?_
                refine z_iinc (v := nI (k + 1)) (lv' := [(8, .int (nI (k + 1))), (7, .int (nI (smV (fun j => fHo (fd j)) k + fHo (fd k)))), (0, .ref a0), (3, .int (nI (mnV (2 ^ n - 1) (oW fd n)))), (4, .int (nI (mnV (oW fd n) (cW fd n)))), (6, .int (nI sb))]) C dL_turns_98 5 rfl (nI_add k 1) (by decide) rfl ?_
                refine z_goto C 78 dL_turns_101 (by decide) ?_
                refine z_lvs (lv' := [(8, .int (nI (k + 1))), (7, .int (nI (smV (fun j => fHo (fd j)) (k + 1)))), (0, .ref a0), (3, .int (nI (mnV (2 ^ n - 1) (oW fd n)))), (4, .int (nI (mnV (oW fd n) (cW fd n)))), (6, .int (nI sb))]) rfl ?_
                refine z_sub (lv' := [(0, .ref a0), (3, .int (nI (mnV (2 ^ n - 1) (oW fd n)))), (4, .int (nI (mnV (oW fd n) (cW fd n)))), (6, .int (nI sb)), (7, .int (nI (smV (fun j => fHo (fd j)) (k + 1)))), (8, .int (nI (k + 1)))]) [2, 3, 4, 5, 1, 0] rfl ?_
                exact ih78 (k + 1) (by omega) (by omega)
          exact lp78 _ 0 (Nat.zero_le _) (Nat.lt_succ_self _)
        · -- 67 not taken
          refine z_iconst C (nI 1) dL_turns_70 (by decide) ?_
          refine z_iret0 C rfl rfl (by decide) (by decide) dL_turns_71 ?_
          exact ⟨rfl, rfl, fd, hco8.cl, fN.rf hz⟩
      · -- 52 not taken
        refine z_iconst C (nI 1) dL_turns_55 (by decide) ?_
        refine z_iret0 C rfl rfl (by decide) (by decide) dL_turns_56 ?_
        exact ⟨rfl, rfl, fd, hco.cl, fN.rf hz⟩
