set_option maxHeartbeats 4000000 in
set_option maxRecDepth 100000 in
theorem c_L_relieves (l : Launch) (hlst : l.stackTraces = false) (G : zGt) (L : List Nat) (F : Nat → va_E) (M : Nat → Prop) (a0 n now sl : Nat) (fd : Nat → FdT) (hcl : zCl G M L F a0 n now sl fd) (sf : Nat) (hsf1 : 1 ≤ sf) (hsf2 : sf ≤ 20000) (hz : fZ n fd) : zM l yL_relieves wsL_relieves 23 685 3 18 G L F [.ref a0, .int (nI sf), .int (nI (cW fd n))] (fun rv L1 F1 => rv = some (.int (nI 1)) ∧ L1 = L ∧ ∃ g : Nat → FdT, zCl G M L F1 a0 n now sl g ∧ fN n fd g) := by
  obtain ⟨a1, a2, b4, b5, b6, b7, ad, hco⟩ := hcl
  have hL0 := hco.1.1
  have hF0 := hco.2.1
  obtain ⟨hn, hnow, hsl⟩ := hco.2.2.2.2.2.2.2.1
  have hok : ∀ j, j < n → fOk now (fd j) := fun j hj => (hco.2.2.2.2.2.1 j hj).2.2.1
  have tk1 := tk_12 hn hok
  refine z_of (cc := cL_relieves) (nL := 7) (ret := (some .boolean)) (own := RL) hlst (by decide +kernel) rfl rfl (Nat.le_of_ble_eq_true rfl) ?_
  intro p e s m below meth c A hnm C
  refine z_lvs (lv' := [(0, .ref a0), (1, .int (nI sf)), (2, .int (nI (cW fd n)))]) rfl ?_
  refine z_aload_n C dL_relieves_0 rfl 0 rfl ?_
  refine z_callS (As := [.ref a0]) (st := []) (mc := 0) (ms := 0) C (c_L_out l hlst G L F M a0 n now sl fd hco.cl) (va_cwS 1 C.1.2.2.2.2 gL_relieves_L_out rfl rfl rfl (by decide +kernel) ⟨Nat.le_of_ble_eq_true rfl, Nat.le_of_ble_eq_true rfl⟩) rfl (Nat.le_of_ble_eq_true rfl) ⟨Nat.le_of_ble_eq_true rfl, Nat.le_of_ble_eq_true rfl⟩ dL_relieves_1 (z_p ?_)
  refine z_stk (st' := [.int (nI (oW fd n))]) rfl ?_
  have ow_fd := oW_lt (fd := fd) hn
  refine z_istore_n (lv' := [(3, .int (nI (oW fd n))), (0, .ref a0), (1, .int (nI sf)), (2, .int (nI (cW fd n)))]) C dL_relieves_4 rfl (by decide) rfl ?_
  refine z_aload_n C dL_relieves_5 rfl 1 rfl ?_
  refine z_callV (As := []) (st := []) (mc := 0) (ms := 0) C hL0 hF0 rfl (c_X2_load l hlst G L F M a0 a1 a2 b4 b5 b6 b7 ad n now sl fd hco) (cwV 0 C.1.2.2.2.2 gL_relieves_X2_load rfl rfl rfl (by decide +kernel) ⟨Nat.le_of_ble_eq_true rfl, Nat.le_of_ble_eq_true rfl⟩) rfl (Nat.le_of_ble_eq_true rfl) ⟨Nat.le_of_ble_eq_true rfl, Nat.le_of_ble_eq_true rfl⟩ dL_relieves_6 (z_p ?_)
  refine z_stk (st' := [.int (nI (smV (fun j => fTk (fd j)) n))]) rfl ?_
  refine z_istore (lv' := [(4, .int (nI (smV (fun j => fTk (fd j)) n))), (3, .int (nI (oW fd n))), (0, .ref a0), (1, .int (nI sf)), (2, .int (nI (cW fd n)))]) C dL_relieves_9 (by decide) rfl ?_
  refine z_aload_n C dL_relieves_11 rfl 2 rfl ?_
  refine z_iload_n C dL_relieves_12 rfl 3 rfl ?_
  refine z_callVX (As := [.int (nI sf)]) (st := []) (mc := 1) (ms := 6) C hL0 hF0 rfl (c_X2_choice l hlst G L F M a0 a1 a2 b4 b5 b6 b7 ad n now sl fd hco (nI sf)) (cwV 1 C.1.2.2.2.2 gL_relieves_X2_choice rfl rfl rfl (by decide +kernel) ⟨Nat.le_of_ble_eq_true rfl, Nat.le_of_ble_eq_true rfl⟩) rfl (Nat.le_of_ble_eq_true rfl) ⟨Nat.le_of_ble_eq_true rfl, Nat.le_of_ble_eq_true rfl⟩ dL_relieves_13 (fun E9 L9 F9 hx => absurd (zIn_in (by decide) (by omega) (by omega) rfl) hx.2.2.2) (fun rv8 L8 F8 hp8 => ?_)
  obtain ⟨sf8, sb, e80, g81, g82, e81, hB, e82, hco8, hkM8⟩ := hp8
  obtain rfl : sf = sf8 := nIe (by omega) (by omega) e80
  rw [e81, e82]
  refine z_stk (st' := [.int (nI sb)]) rfl ?_
  obtain ⟨hsb1, hsb2⟩ := isB_lt hn hB
  have hF_hco8 := hco8.2.1
  refine z_istore (lv' := [(5, .int (nI sb)), (4, .int (nI (smV (fun j => fTk (fd j)) n))), (3, .int (nI (oW fd n))), (0, .ref a0), (1, .int (nI sf)), (2, .int (nI (cW fd n)))]) C dL_relieves_16 (by decide) rfl ?_
  refine z_iload C dL_relieves_18 0 rfl ?_
  refine z_if_ne C 53 (((sb : Nat) : Int) = (0 : Int)) (zi_eq (zi_N (n := sb) (by omega)) zi_0) dL_relieves_20 (by decide) (fun c1_ => ?_) (fun c1_ => ?_)
  · -- 20 taken
    refine z_iload C dL_relieves_53 0 rfl ?_
    refine z_iload_n C dL_relieves_55 rfl 2 rfl ?_
    refine z_iand C (nI 0) dL_relieves_56 (isB_off hB) ?_
    refine z_if_ne C 77 (((0 : Nat) : Int) = (0 : Int)) (zi_eq (zi_N (n := 0) (by omega)) zi_0) dL_relieves_57 (by decide) (fun c2_ => absurd c2_ (by omega)) (fun c2_ => ?_)
    refine z_iload C dL_relieves_60 0 rfl ?_
    refine z_iload_n C dL_relieves_62 rfl 5 rfl ?_
    refine z_iand C (nI 0) dL_relieves_63 (isB_crit hB) ?_
    refine z_if_ne C 77 (((0 : Nat) : Int) = (0 : Int)) (zi_eq (zi_N (n := 0) (by omega)) zi_0) dL_relieves_64 (by decide) (fun c3_ => absurd c3_ (by omega)) (fun c3_ => ?_)
    refine z_aload_n C dL_relieves_67 rfl 3 rfl ?_
    refine z_iload C dL_relieves_68 0 rfl ?_
    refine z_callS (As := [.ref a0, .int (nI sb)]) (st := []) (mc := 0) (ms := 0) C (c_L_taken l hlst G L F8 M a0 n now sl fd hco8.cl sb (by omega)) (va_cwS 2 C.1.2.2.2.2 gL_relieves_L_taken rfl rfl rfl (by decide +kernel) ⟨Nat.le_of_ble_eq_true rfl, Nat.le_of_ble_eq_true rfl⟩) rfl (Nat.le_of_ble_eq_true rfl) ⟨Nat.le_of_ble_eq_true rfl, Nat.le_of_ble_eq_true rfl⟩ dL_relieves_70 (z_p ?_)
    refine z_stk (st' := [.int (nI (sT fd sb n))]) rfl ?_
    have st_12 := sT_12 (b := sb) hn hok
    have hsT := isB_sT hB (by omega)
    refine z_iload_n C dL_relieves_73 rfl 4 rfl ?_
    refine z_icmp_ge C 79 (((sf : Nat) : Int) ≤ ((sT fd sb n : Nat) : Int)) (zi_le (zi_N (n := sf) (by omega)) (zi_N (n := sT fd sb n) (by omega))) dL_relieves_74 (by decide) (fun c4_ => ?_) (fun c4_ => absurd c4_ (by omega))
    refine z_aload_n C dL_relieves_79 rfl 3 rfl ?_
    refine z_iload_n C dL_relieves_80 rfl 4 rfl ?_
    refine z_callVX (As := [.int (nI sf)]) (st := []) (mc := 2) (ms := 12) C hL0 hF_hco8 rfl (c_X2_relieve l hlst G L F8 M a0 a1 a2 b4 b5 b6 b7 ad n now sl fd hco8 (nI sf)) (cwV 1 C.1.2.2.2.2 gL_relieves_X2_relieve rfl rfl rfl (by decide +kernel) ⟨Nat.le_of_ble_eq_true rfl, Nat.le_of_ble_eq_true rfl⟩) rfl (Nat.le_of_ble_eq_true rfl) ⟨Nat.le_of_ble_eq_true rfl, Nat.le_of_ble_eq_true rfl⟩ dL_relieves_81 (fun E9 L9 F9 hx => (by rcases hx with hx | ⟨sf9, q1, q2, q3, q4, q5, -⟩; exact absurd (zIn_in (by decide) (by omega) (by omega) rfl) hx.2.2.2; exact absurd (isB_one hn (by omega) hB (by rw [nIe (by omega) (by omega) q1]; exact q5)) (by omega))) (fun rv9 L9 F9 hp9 => ?_)
    obtain ⟨sf9, sb9, e90, g91, g92, e91, hB9, hb9, e92, hco9, hkM9⟩ := hp9
    obtain rfl : sf = sf9 := nIe (by omega) (by omega) e90
    obtain rfl : sb = sb9 := isB_one hn (by omega) hB hB9
    rw [reT_sT] at e91
    rw [e91, e92]
    refine z_stk (st' := [.int (nI (sT fd sb n))]) rfl ?_
    obtain ⟨fd2, hfd2⟩ : ∃ g, g = fdK (fun i r => reG sb i r) fd n := ⟨_, rfl⟩
    rw [← hfd2] at hco9
    have r1 := rel_out (fd := fd) hsb1
    rw [← hfd2] at r1
    have r2 := rel_sub (n := n) (fd := fd) (b := sb)
    rw [← hfd2] at r2
    have r3 := rel_fN (b := sb) hz
    rw [← hfd2] at r3
    have hF_hco9 := hco9.2.1
    have ok_fd2 : ∀ j, j < n → fOk now (fd2 j) := fun j hj => (hco9.2.2.2.2.2.1 j hj).2.2.1
    have tk2 := tk_12 hn ok_fd2
    refine z_istore (lv' := [(6, .int (nI (sT fd sb n))), (5, .int (nI sb)), (4, .int (nI (smV (fun j => fTk (fd j)) n))), (3, .int (nI (oW fd n))), (0, .ref a0), (1, .int (nI sf)), (2, .int (nI (cW fd n)))]) C dL_relieves_84 (by decide) rfl ?_
    refine z_iload C dL_relieves_86 0 rfl ?_
    refine z_iload_n C dL_relieves_88 rfl 5 rfl ?_
    refine z_icmp_lt C 119 (((sT fd sb n : Nat) : Int) < ((sf : Nat) : Int)) (zi_lt (zi_N (n := sT fd sb n) (by omega)) (zi_N (n := sf) (by omega))) dL_relieves_89 (by decide) (fun c5_ => absurd c5_ (by omega)) (fun c5_ => ?_)
    refine z_aload_n C dL_relieves_92 rfl 4 rfl ?_
    refine z_callS (As := [.ref a0]) (st := []) (mc := 0) (ms := 0) C (c_L_out l hlst G L F9 M a0 n now sl fd2 hco9.cl) (va_cwS 1 C.1.2.2.2.2 gL_relieves_L_out rfl rfl rfl (by decide +kernel) ⟨Nat.le_of_ble_eq_true rfl, Nat.le_of_ble_eq_true rfl⟩) rfl (Nat.le_of_ble_eq_true rfl) ⟨Nat.le_of_ble_eq_true rfl, Nat.le_of_ble_eq_true rfl⟩ dL_relieves_93 (z_p ?_)
    refine z_stk (st' := [.int (nI (oW fd2 n))]) rfl ?_
    have ow_fd2 := oW_lt (fd := fd2) hn
    refine z_iload_n C dL_relieves_96 rfl 3 rfl ?_
    refine z_iload C dL_relieves_97 1 rfl ?_
    refine z_ior C (nI (oW fd2 n)) dL_relieves_99 (r1) ?_
    refine z_icmp_ne C 119 (((oW fd2 n : Nat) : Int) = ((oW fd2 n : Nat) : Int)) (zi_eq (zi_N (n := oW fd2 n) (by omega)) (zi_N (n := oW fd2 n) (by omega))) dL_relieves_100 (by decide) (fun c6_ => absurd c6_ (by omega)) (fun c6_ => ?_)
    refine z_aload_n C dL_relieves_103 rfl 4 rfl ?_
    refine z_callV (As := []) (st := []) (mc := 0) (ms := 0) C hL0 hF_hco9 rfl (c_X2_load l hlst G L F9 M a0 a1 a2 b4 b5 b6 b7 ad n now sl fd2 hco9) (cwV 0 C.1.2.2.2.2 gL_relieves_X2_load rfl rfl rfl (by decide +kernel) ⟨Nat.le_of_ble_eq_true rfl, Nat.le_of_ble_eq_true rfl⟩) rfl (Nat.le_of_ble_eq_true rfl) ⟨Nat.le_of_ble_eq_true rfl, Nat.le_of_ble_eq_true rfl⟩ dL_relieves_104 (z_p ?_)
    refine z_stk (st' := [.int (nI (smV (fun j => fTk (fd2 j)) n))]) rfl ?_
    refine z_iload C dL_relieves_107 2 rfl ?_
    refine z_iload C dL_relieves_109 0 rfl ?_
    refine z_isub C (nI (smV (fun j => fTk (fd2 j)) n)) dL_relieves_111 (r2) ?_
    refine z_icmp_ne C 119 (((smV (fun j => fTk (fd2 j)) n : Nat) : Int) = ((smV (fun j => fTk (fd2 j)) n : Nat) : Int)) (zi_eq (zi_N (n := smV (fun j => fTk (fd2 j)) n) (by omega)) (zi_N (n := smV (fun j => fTk (fd2 j)) n) (by omega))) dL_relieves_112 (by decide) (fun c7_ => absurd c7_ (by omega)) (fun c7_ => ?_)
    refine z_iconst C (nI 1) dL_relieves_115 (by decide) ?_
    refine z_goto C 120 dL_relieves_116 (by decide) ?_
    refine z_iret0 C rfl rfl (by decide) (by decide) dL_relieves_120 ?_
    exact ⟨rfl, rfl, fd2, hco9.cl, r3⟩
  · -- 20 not taken
    refine z_aload_n C dL_relieves_23 rfl 3 rfl ?_
    refine z_iconst C (nI 1) dL_relieves_24 (by decide) ?_
    refine z_aload_n C dL_relieves_25 rfl 3 rfl ?_
    refine z_callV (As := []) (st := [.int (nI 1), .ref a0]) (mc := 0) (ms := 0) C hL0 hF_hco8 rfl (c_X2_feeders l hlst G L F8 M a0 a1 a2 b4 b5 b6 b7 ad n now sl fd hco8) (cwV 0 C.1.2.2.2.2 gL_relieves_X2_feeders rfl rfl rfl (by decide +kernel) ⟨Nat.le_of_ble_eq_true rfl, Nat.le_of_ble_eq_true rfl⟩) rfl (Nat.le_of_ble_eq_true rfl) ⟨Nat.le_of_ble_eq_true rfl, Nat.le_of_ble_eq_true rfl⟩ dL_relieves_26 (z_p ?_)
    refine z_stk (st' := [.int (nI n), .int (nI 1), .ref a0]) rfl ?_
    refine z_ishl C (nI (2 ^ n)) dL_relieves_29 (shl1 (n := n) (by omega)) ?_
    refine z_iconst C (nI 1) dL_relieves_30 (by decide) ?_
    refine z_isub C (nI (2 ^ n - 1)) dL_relieves_31 (p2_sub) ?_
    refine z_iload_n C dL_relieves_32 rfl 5 rfl ?_
    refine z_iconst C (-1) dL_relieves_33 (by decide) ?_
    refine z_ixor C (nI (cW fd n) ^^^ (-1)) dL_relieves_34 (rfl) ?_
    refine z_iand C (nI (mnV (2 ^ n - 1) (cW fd n))) dL_relieves_35 (mnx_nI _ _) ?_
    refine z_iload_n C dL_relieves_36 rfl 2 rfl ?_
    refine z_iconst C (-1) dL_relieves_37 (by decide) ?_
    refine z_ixor C (nI (oW fd n) ^^^ (-1)) dL_relieves_38 (rfl) ?_
    refine z_iand C (nI (mnV (mnV (2 ^ n - 1) (cW fd n)) (oW fd n))) dL_relieves_39 (mnx_nI _ _) ?_
    have hmk : mnV (mnV (2 ^ n - 1) (cW fd n)) (oW fd n) < 2147483648 := Nat.lt_of_lt_of_le (mn_lt (mn_lt p2_lt)) (Nat.le_trans (p2_le hn) (by decide))
    have hB0 : isB n fd sl sf 0 := by
      have e9 : sb = 0 := by omega
      rw [e9] at hB
      exact hB
    have hlt := isB_z (by omega) hB0 (fun j hj => ⟨(hok j hj).2.2.2.2.1, (hok j hj).2.2.2.1⟩)
    refine z_callS (As := [.ref a0, .int (nI (mnV (mnV (2 ^ n - 1) (cW fd n)) (oW fd n)))]) (st := []) (mc := 0) (ms := 0) C (c_L_taken l hlst G L F8 M a0 n now sl fd hco8.cl (mnV (mnV (2 ^ n - 1) (cW fd n)) (oW fd n)) (by omega)) (va_cwS 2 C.1.2.2.2.2 gL_relieves_L_taken rfl rfl rfl (by decide +kernel) ⟨Nat.le_of_ble_eq_true rfl, Nat.le_of_ble_eq_true rfl⟩) rfl (Nat.le_of_ble_eq_true rfl) ⟨Nat.le_of_ble_eq_true rfl, Nat.le_of_ble_eq_true rfl⟩ dL_relieves_40 (z_p ?_)
    refine z_stk (st' := [.int (nI (sT fd (mnV (mnV (2 ^ n - 1) (cW fd n)) (oW fd n)) n))]) rfl ?_
    have st_12 := sT_12 (b := mnV (mnV (2 ^ n - 1) (cW fd n)) (oW fd n)) hn hok
    refine z_iload_n C dL_relieves_43 rfl 4 rfl ?_
    refine z_icmp_ge C 51 (((sf : Nat) : Int) ≤ ((sT fd (mnV (mnV (2 ^ n - 1) (cW fd n)) (oW fd n)) n : Nat) : Int)) (zi_le (zi_N (n := sf) (by omega)) (zi_N (n := sT fd (mnV (mnV (2 ^ n - 1) (cW fd n)) (oW fd n)) n) (by omega))) dL_relieves_44 (by decide) (fun c8_ => absurd c8_ (by omega)) (fun c8_ => ?_)
    refine z_iconst C (nI 1) dL_relieves_47 (by decide) ?_
    refine z_goto C 52 dL_relieves_48 (by decide) ?_
    refine z_iret0 C rfl rfl (by decide) (by decide) dL_relieves_52 ?_
    exact ⟨rfl, rfl, fd, hco8.cl, fN.rf hz⟩
